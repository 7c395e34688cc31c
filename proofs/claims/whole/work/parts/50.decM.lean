/-! decode rows, by program -/
theorem de_M_init_0 : decode by_M_init 0 = .ok (.aload_n 0, 1) := by decide +kernel
theorem de_M_init_1 : decode by_M_init 1 = .ok (.invokespecial 1, 3) := by decide +kernel
theorem de_M_init_4 : decode by_M_init 4 = .ok (.aload_n 0, 1) := by decide +kernel
theorem de_M_init_5 : decode by_M_init 5 = .ok (.bipush 80, 2) := by decide +kernel
theorem de_M_init_7 : decode by_M_init 7 = .ok (.newarray .int, 2) := by decide +kernel
theorem de_M_init_9 : decode by_M_init 9 = .ok (.putfield 7, 3) := by decide +kernel
theorem de_M_init_12 : decode by_M_init 12 = .ok (.aload_n 0, 1) := by decide +kernel
theorem de_M_init_13 : decode by_M_init 13 = .ok (.bipush 80, 2) := by decide +kernel
theorem de_M_init_15 : decode by_M_init 15 = .ok (.newarray .int, 2) := by decide +kernel
theorem de_M_init_17 : decode by_M_init 17 = .ok (.putfield 13, 3) := by decide +kernel
theorem de_M_init_20 : decode by_M_init 20 = .ok (.aload_n 0, 1) := by decide +kernel
theorem de_M_init_21 : decode by_M_init 21 = .ok (.bipush 80, 2) := by decide +kernel
theorem de_M_init_23 : decode by_M_init 23 = .ok (.newarray .int, 2) := by decide +kernel
theorem de_M_init_25 : decode by_M_init 25 = .ok (.putfield 16, 3) := by decide +kernel
theorem de_M_init_28 : decode by_M_init 28 = .ok (.aload_n 0, 1) := by decide +kernel
theorem de_M_init_29 : decode by_M_init 29 = .ok (.bipush 80, 2) := by decide +kernel
theorem de_M_init_31 : decode by_M_init 31 = .ok (.newarray .int, 2) := by decide +kernel
theorem de_M_init_33 : decode by_M_init 33 = .ok (.putfield 19, 3) := by decide +kernel
theorem de_M_init_36 : decode by_M_init 36 = .ok (.aload_n 0, 1) := by decide +kernel
theorem de_M_init_37 : decode by_M_init 37 = .ok (.iconst 2, 1) := by decide +kernel
theorem de_M_init_38 : decode by_M_init 38 = .ok (.newarray .int, 2) := by decide +kernel
theorem de_M_init_40 : decode by_M_init 40 = .ok (.putfield 22, 3) := by decide +kernel
theorem de_M_init_43 : decode by_M_init 43 = .ok (.aload_n 0, 1) := by decide +kernel
theorem de_M_init_44 : decode by_M_init 44 = .ok (.bipush 40, 2) := by decide +kernel
theorem de_M_init_46 : decode by_M_init 46 = .ok (.newarray .boolean, 2) := by decide +kernel
theorem de_M_init_48 : decode by_M_init 48 = .ok (.putfield 25, 3) := by decide +kernel
theorem de_M_init_51 : decode by_M_init 51 = .ok (.aload_n 0, 1) := by decide +kernel
theorem de_M_init_52 : decode by_M_init 52 = .ok (.sipush 240, 3) := by decide +kernel
theorem de_M_init_55 : decode by_M_init 55 = .ok (.newarray .int, 2) := by decide +kernel
theorem de_M_init_57 : decode by_M_init 57 = .ok (.putfield 29, 3) := by decide +kernel
theorem de_M_init_60 : decode by_M_init 60 = .ok (.aload_n 0, 1) := by decide +kernel
theorem de_M_init_61 : decode by_M_init 61 = .ok (.sipush 240, 3) := by decide +kernel
theorem de_M_init_64 : decode by_M_init 64 = .ok (.newarray .int, 2) := by decide +kernel
theorem de_M_init_66 : decode by_M_init 66 = .ok (.putfield 32, 3) := by decide +kernel
theorem de_M_init_69 : decode by_M_init 69 = .ok (.aload_n 0, 1) := by decide +kernel
theorem de_M_init_70 : decode by_M_init 70 = .ok (.bipush 6, 2) := by decide +kernel
theorem de_M_init_72 : decode by_M_init 72 = .ok (.newarray .int, 2) := by decide +kernel
theorem de_M_init_74 : decode by_M_init 74 = .ok (.putfield 35, 3) := by decide +kernel
theorem de_M_init_77 : decode by_M_init 77 = .ok (.aload_n 0, 1) := by decide +kernel
theorem de_M_init_78 : decode by_M_init 78 = .ok (.bipush 6, 2) := by decide +kernel
theorem de_M_init_80 : decode by_M_init 80 = .ok (.newarray .int, 2) := by decide +kernel
theorem de_M_init_82 : decode by_M_init 82 = .ok (.putfield 38, 3) := by decide +kernel
theorem de_M_init_85 : decode by_M_init 85 = .ok (.aload_n 0, 1) := by decide +kernel
theorem de_M_init_86 : decode by_M_init 86 = .ok (.bipush 41, 2) := by decide +kernel
theorem de_M_init_88 : decode by_M_init 88 = .ok (.newarray .boolean, 2) := by decide +kernel
theorem de_M_init_90 : decode by_M_init 90 = .ok (.putfield 41, 3) := by decide +kernel
theorem de_M_init_93 : decode by_M_init 93 = .ok (.aload_n 0, 1) := by decide +kernel
theorem de_M_init_94 : decode by_M_init 94 = .ok (.bipush 40, 2) := by decide +kernel
theorem de_M_init_96 : decode by_M_init 96 = .ok (.newarray .int, 2) := by decide +kernel
theorem de_M_init_98 : decode by_M_init 98 = .ok (.putfield 44, 3) := by decide +kernel
theorem de_M_init_101 : decode by_M_init 101 = .ok (.aload_n 0, 1) := by decide +kernel
theorem de_M_init_102 : decode by_M_init 102 = .ok (.iconst 2, 1) := by decide +kernel
theorem de_M_init_103 : decode by_M_init 103 = .ok (.newarray .boolean, 2) := by decide +kernel
theorem de_M_init_105 : decode by_M_init 105 = .ok (.putfield 47, 3) := by decide +kernel
theorem de_M_init_108 : decode by_M_init 108 = .ok (.aload_n 0, 1) := by decide +kernel
theorem de_M_init_109 : decode by_M_init 109 = .ok (.iconst 2, 1) := by decide +kernel
theorem de_M_init_110 : decode by_M_init 110 = .ok (.newarray .int, 2) := by decide +kernel
theorem de_M_init_112 : decode by_M_init 112 = .ok (.putfield 50, 3) := by decide +kernel
theorem de_M_init_115 : decode by_M_init 115 = .ok (.aload_n 0, 1) := by decide +kernel
theorem de_M_init_116 : decode by_M_init 116 = .ok (.iconst 2, 1) := by decide +kernel
theorem de_M_init_117 : decode by_M_init 117 = .ok (.newarray .int, 2) := by decide +kernel
theorem de_M_init_119 : decode by_M_init 119 = .ok (.putfield 53, 3) := by decide +kernel
theorem de_M_init_122 : decode by_M_init 122 = .ok (.aload_n 0, 1) := by decide +kernel
theorem de_M_init_123 : decode by_M_init 123 = .ok (.bipush 12, 2) := by decide +kernel
theorem de_M_init_125 : decode by_M_init 125 = .ok (.newarray .int, 2) := by decide +kernel
theorem de_M_init_127 : decode by_M_init 127 = .ok (.putfield 56, 3) := by decide +kernel
theorem de_M_init_130 : decode by_M_init 130 = .ok (.return_, 1) := by decide +kernel
theorem de_M_thrown_0 : decode by_M_thrown 0 = .ok (.aload_n 0, 1) := by decide +kernel
theorem de_M_thrown_1 : decode by_M_thrown 1 = .ok (.getfield 59, 3) := by decide +kernel
theorem de_M_thrown_4 : decode by_M_thrown 4 = .ok (.ireturn, 1) := by decide +kernel
theorem de_M_refused_0 : decode by_M_refused 0 = .ok (.aload_n 0, 1) := by decide +kernel
theorem de_M_refused_1 : decode by_M_refused 1 = .ok (.iload_n 1, 1) := by decide +kernel
theorem de_M_refused_2 : decode by_M_refused 2 = .ok (.putfield 59, 3) := by decide +kernel
theorem de_M_refused_5 : decode by_M_refused 5 = .ok (.iload_n 1, 1) := by decide +kernel
theorem de_M_refused_6 : decode by_M_refused 6 = .ok (.ifCond .le 7, 3) := by decide +kernel
theorem de_M_refused_9 : decode by_M_refused 9 = .ok (.iconst 1, 1) := by decide +kernel
theorem de_M_refused_10 : decode by_M_refused 10 = .ok (.goto 4, 3) := by decide +kernel
theorem de_M_refused_13 : decode by_M_refused 13 = .ok (.iconst 0, 1) := by decide +kernel
theorem de_M_refused_14 : decode by_M_refused 14 = .ok (.ireturn, 1) := by decide +kernel
theorem de_M_isVariable_0 : decode by_M_isVariable 0 = .ok (.iload_n 0, 1) := by decide +kernel
theorem de_M_isVariable_1 : decode by_M_isVariable 1 = .ok (.ifCond .lt 13, 3) := by decide +kernel
theorem de_M_isVariable_4 : decode by_M_isVariable 4 = .ok (.iload_n 0, 1) := by decide +kernel
theorem de_M_isVariable_5 : decode by_M_isVariable 5 = .ok (.bipush 6, 2) := by decide +kernel
theorem de_M_isVariable_7 : decode by_M_isVariable 7 = .ok (.if_icmp .ge 7, 3) := by decide +kernel
theorem de_M_isVariable_10 : decode by_M_isVariable 10 = .ok (.iconst 1, 1) := by decide +kernel
theorem de_M_isVariable_11 : decode by_M_isVariable 11 = .ok (.goto 4, 3) := by decide +kernel
theorem de_M_isVariable_14 : decode by_M_isVariable 14 = .ok (.iconst 0, 1) := by decide +kernel
theorem de_M_isVariable_15 : decode by_M_isVariable 15 = .ok (.ireturn, 1) := by decide +kernel
theorem de_M_isSound_0 : decode by_M_isSound 0 = .ok (.iload_n 0, 1) := by decide +kernel
theorem de_M_isSound_1 : decode by_M_isSound 1 = .ok (.tableswitch 134 0 6 #[43, 48, 68, 68, 68, 95, 118], 43) := by decide +kernel
theorem de_M_isSound_44 : decode by_M_isSound 44 = .ok (.iload_n 1, 1) := by decide +kernel
theorem de_M_isSound_45 : decode by_M_isSound 45 = .ok (.invokestatic 63, 3) := by decide +kernel
theorem de_M_isSound_48 : decode by_M_isSound 48 = .ok (.ireturn, 1) := by decide +kernel
theorem de_M_isSound_49 : decode by_M_isSound 49 = .ok (.iload_n 1, 1) := by decide +kernel
theorem de_M_isSound_50 : decode by_M_isSound 50 = .ok (.invokestatic 63, 3) := by decide +kernel
theorem de_M_isSound_53 : decode by_M_isSound 53 = .ok (.ifCond .eq 14, 3) := by decide +kernel
theorem de_M_isSound_56 : decode by_M_isSound 56 = .ok (.iload_n 2, 1) := by decide +kernel
theorem de_M_isSound_57 : decode by_M_isSound 57 = .ok (.invokestatic 63, 3) := by decide +kernel
theorem de_M_isSound_60 : decode by_M_isSound 60 = .ok (.ifCond .eq 7, 3) := by decide +kernel
theorem de_M_isSound_63 : decode by_M_isSound 63 = .ok (.iconst 1, 1) := by decide +kernel
theorem de_M_isSound_64 : decode by_M_isSound 64 = .ok (.goto 4, 3) := by decide +kernel
theorem de_M_isSound_67 : decode by_M_isSound 67 = .ok (.iconst 0, 1) := by decide +kernel
theorem de_M_isSound_68 : decode by_M_isSound 68 = .ok (.ireturn, 1) := by decide +kernel
theorem de_M_isSound_69 : decode by_M_isSound 69 = .ok (.iload_n 1, 1) := by decide +kernel
theorem de_M_isSound_70 : decode by_M_isSound 70 = .ok (.invokestatic 63, 3) := by decide +kernel
theorem de_M_isSound_73 : decode by_M_isSound 73 = .ok (.ifCond .eq 21, 3) := by decide +kernel
theorem de_M_isSound_76 : decode by_M_isSound 76 = .ok (.iload_n 2, 1) := by decide +kernel
theorem de_M_isSound_77 : decode by_M_isSound 77 = .ok (.invokestatic 63, 3) := by decide +kernel
theorem de_M_isSound_80 : decode by_M_isSound 80 = .ok (.ifCond .eq 14, 3) := by decide +kernel
theorem de_M_isSound_83 : decode by_M_isSound 83 = .ok (.iload_n 3, 1) := by decide +kernel
theorem de_M_isSound_84 : decode by_M_isSound 84 = .ok (.invokestatic 63, 3) := by decide +kernel
theorem de_M_isSound_87 : decode by_M_isSound 87 = .ok (.ifCond .eq 7, 3) := by decide +kernel
theorem de_M_isSound_90 : decode by_M_isSound 90 = .ok (.iconst 1, 1) := by decide +kernel
theorem de_M_isSound_91 : decode by_M_isSound 91 = .ok (.goto 4, 3) := by decide +kernel
theorem de_M_isSound_94 : decode by_M_isSound 94 = .ok (.iconst 0, 1) := by decide +kernel
theorem de_M_isSound_95 : decode by_M_isSound 95 = .ok (.ireturn, 1) := by decide +kernel
theorem de_M_isSound_96 : decode by_M_isSound 96 = .ok (.iload_n 1, 1) := by decide +kernel
theorem de_M_isSound_97 : decode by_M_isSound 97 = .ok (.invokestatic 63, 3) := by decide +kernel
theorem de_M_isSound_100 : decode by_M_isSound 100 = .ok (.ifCond .eq 17, 3) := by decide +kernel
theorem de_M_isSound_103 : decode by_M_isSound 103 = .ok (.iload_n 2, 1) := by decide +kernel
theorem de_M_isSound_104 : decode by_M_isSound 104 = .ok (.ifCond .lt 13, 3) := by decide +kernel
theorem de_M_isSound_107 : decode by_M_isSound 107 = .ok (.iload_n 2, 1) := by decide +kernel
theorem de_M_isSound_108 : decode by_M_isSound 108 = .ok (.bipush 40, 2) := by decide +kernel
theorem de_M_isSound_110 : decode by_M_isSound 110 = .ok (.if_icmp .gt 7, 3) := by decide +kernel
theorem de_M_isSound_113 : decode by_M_isSound 113 = .ok (.iconst 1, 1) := by decide +kernel
theorem de_M_isSound_114 : decode by_M_isSound 114 = .ok (.goto 4, 3) := by decide +kernel
theorem de_M_isSound_117 : decode by_M_isSound 117 = .ok (.iconst 0, 1) := by decide +kernel
theorem de_M_isSound_118 : decode by_M_isSound 118 = .ok (.ireturn, 1) := by decide +kernel
theorem de_M_isSound_119 : decode by_M_isSound 119 = .ok (.iload_n 2, 1) := by decide +kernel
theorem de_M_isSound_120 : decode by_M_isSound 120 = .ok (.ifCond .lt 13, 3) := by decide +kernel
theorem de_M_isSound_123 : decode by_M_isSound 123 = .ok (.iload_n 2, 1) := by decide +kernel
theorem de_M_isSound_124 : decode by_M_isSound 124 = .ok (.bipush 40, 2) := by decide +kernel
theorem de_M_isSound_126 : decode by_M_isSound 126 = .ok (.if_icmp .gt 7, 3) := by decide +kernel
theorem de_M_isSound_129 : decode by_M_isSound 129 = .ok (.iconst 1, 1) := by decide +kernel
theorem de_M_isSound_130 : decode by_M_isSound 130 = .ok (.goto 4, 3) := by decide +kernel
theorem de_M_isSound_133 : decode by_M_isSound 133 = .ok (.iconst 0, 1) := by decide +kernel
theorem de_M_isSound_134 : decode by_M_isSound 134 = .ok (.ireturn, 1) := by decide +kernel
theorem de_M_isSound_135 : decode by_M_isSound 135 = .ok (.iload_n 0, 1) := by decide +kernel
theorem de_M_isSound_136 : decode by_M_isSound 136 = .ok (.bipush 7, 2) := by decide +kernel
theorem de_M_isSound_138 : decode by_M_isSound 138 = .ok (.if_icmp .ne 7, 3) := by decide +kernel
theorem de_M_isSound_141 : decode by_M_isSound 141 = .ok (.iconst 1, 1) := by decide +kernel
theorem de_M_isSound_142 : decode by_M_isSound 142 = .ok (.goto 4, 3) := by decide +kernel
theorem de_M_isSound_145 : decode by_M_isSound 145 = .ok (.iconst 0, 1) := by decide +kernel
theorem de_M_isSound_146 : decode by_M_isSound 146 = .ok (.ireturn, 1) := by decide +kernel
theorem de_M_put_0 : decode by_M_put 0 = .ok (.aload_n 0, 1) := by decide +kernel
theorem de_M_put_1 : decode by_M_put 1 = .ok (.getfield 7, 3) := by decide +kernel
theorem de_M_put_4 : decode by_M_put 4 = .ok (.iload_n 1, 1) := by decide +kernel
theorem de_M_put_5 : decode by_M_put 5 = .ok (.iload_n 2, 1) := by decide +kernel
theorem de_M_put_6 : decode by_M_put 6 = .ok (.iastore, 1) := by decide +kernel
theorem de_M_put_7 : decode by_M_put 7 = .ok (.aload_n 0, 1) := by decide +kernel
theorem de_M_put_8 : decode by_M_put 8 = .ok (.getfield 13, 3) := by decide +kernel
theorem de_M_put_11 : decode by_M_put 11 = .ok (.iload_n 1, 1) := by decide +kernel
theorem de_M_put_12 : decode by_M_put 12 = .ok (.iload_n 2, 1) := by decide +kernel
theorem de_M_put_13 : decode by_M_put 13 = .ok (.bipush 6, 2) := by decide +kernel
theorem de_M_put_15 : decode by_M_put 15 = .ok (.if_icmp .ge 7, 3) := by decide +kernel
theorem de_M_put_18 : decode by_M_put 18 = .ok (.iload_n 3, 1) := by decide +kernel
theorem de_M_put_19 : decode by_M_put 19 = .ok (.goto 4, 3) := by decide +kernel
theorem de_M_put_22 : decode by_M_put 22 = .ok (.iconst 0, 1) := by decide +kernel
theorem de_M_put_23 : decode by_M_put 23 = .ok (.iastore, 1) := by decide +kernel
theorem de_M_put_24 : decode by_M_put 24 = .ok (.aload_n 0, 1) := by decide +kernel
theorem de_M_put_25 : decode by_M_put 25 = .ok (.getfield 16, 3) := by decide +kernel
theorem de_M_put_28 : decode by_M_put 28 = .ok (.iload_n 1, 1) := by decide +kernel
theorem de_M_put_29 : decode by_M_put 29 = .ok (.iload_n 2, 1) := by decide +kernel
theorem de_M_put_30 : decode by_M_put 30 = .ok (.bipush 7, 2) := by decide +kernel
theorem de_M_put_32 : decode by_M_put 32 = .ok (.if_icmp .ge 8, 3) := by decide +kernel
theorem de_M_put_35 : decode by_M_put 35 = .ok (.iload 4, 2) := by decide +kernel
theorem de_M_put_37 : decode by_M_put 37 = .ok (.goto 4, 3) := by decide +kernel
theorem de_M_put_40 : decode by_M_put 40 = .ok (.iconst 0, 1) := by decide +kernel
theorem de_M_put_41 : decode by_M_put 41 = .ok (.iastore, 1) := by decide +kernel
theorem de_M_put_42 : decode by_M_put 42 = .ok (.aload_n 0, 1) := by decide +kernel
theorem de_M_put_43 : decode by_M_put 43 = .ok (.getfield 19, 3) := by decide +kernel
theorem de_M_put_46 : decode by_M_put 46 = .ok (.iload_n 1, 1) := by decide +kernel
theorem de_M_put_47 : decode by_M_put 47 = .ok (.iload_n 2, 1) := by decide +kernel
theorem de_M_put_48 : decode by_M_put 48 = .ok (.iconst 2, 1) := by decide +kernel
theorem de_M_put_49 : decode by_M_put 49 = .ok (.if_icmp .eq 13, 3) := by decide +kernel
theorem de_M_put_52 : decode by_M_put 52 = .ok (.iload_n 2, 1) := by decide +kernel
theorem de_M_put_53 : decode by_M_put 53 = .ok (.iconst 3, 1) := by decide +kernel
theorem de_M_put_54 : decode by_M_put 54 = .ok (.if_icmp .eq 8, 3) := by decide +kernel
theorem de_M_put_57 : decode by_M_put 57 = .ok (.iload_n 2, 1) := by decide +kernel
theorem de_M_put_58 : decode by_M_put 58 = .ok (.iconst 4, 1) := by decide +kernel
theorem de_M_put_59 : decode by_M_put 59 = .ok (.if_icmp .ne 8, 3) := by decide +kernel
theorem de_M_put_62 : decode by_M_put 62 = .ok (.iload 5, 2) := by decide +kernel
theorem de_M_put_64 : decode by_M_put 64 = .ok (.goto 4, 3) := by decide +kernel
theorem de_M_put_67 : decode by_M_put 67 = .ok (.iconst 0, 1) := by decide +kernel
theorem de_M_put_68 : decode by_M_put 68 = .ok (.iastore, 1) := by decide +kernel
theorem de_M_put_69 : decode by_M_put 69 = .ok (.return_, 1) := by decide +kernel
theorem de_M_changed_0 : decode by_M_changed 0 = .ok (.aload_n 0, 1) := by decide +kernel
theorem de_M_changed_1 : decode by_M_changed 1 = .ok (.iconst 0, 1) := by decide +kernel
theorem de_M_changed_2 : decode by_M_changed 2 = .ok (.putfield 67, 3) := by decide +kernel
theorem de_M_changed_5 : decode by_M_changed 5 = .ok (.aload_n 0, 1) := by decide +kernel
theorem de_M_changed_6 : decode by_M_changed 6 = .ok (.getfield 47, 3) := by decide +kernel
theorem de_M_changed_9 : decode by_M_changed 9 = .ok (.iconst 0, 1) := by decide +kernel
theorem de_M_changed_10 : decode by_M_changed 10 = .ok (.iconst 0, 1) := by decide +kernel
theorem de_M_changed_11 : decode by_M_changed 11 = .ok (.bastore, 1) := by decide +kernel
theorem de_M_changed_12 : decode by_M_changed 12 = .ok (.aload_n 0, 1) := by decide +kernel
theorem de_M_changed_13 : decode by_M_changed 13 = .ok (.getfield 47, 3) := by decide +kernel
theorem de_M_changed_16 : decode by_M_changed 16 = .ok (.iconst 1, 1) := by decide +kernel
theorem de_M_changed_17 : decode by_M_changed 17 = .ok (.iconst 0, 1) := by decide +kernel
theorem de_M_changed_18 : decode by_M_changed 18 = .ok (.bastore, 1) := by decide +kernel
theorem de_M_changed_19 : decode by_M_changed 19 = .ok (.return_, 1) := by decide +kernel
theorem de_M_add_0 : decode by_M_add 0 = .ok (.aload_n 0, 1) := by decide +kernel
theorem de_M_add_1 : decode by_M_add 1 = .ok (.iload_n 1, 1) := by decide +kernel
theorem de_M_add_2 : decode by_M_add 2 = .ok (.iload_n 2, 1) := by decide +kernel
theorem de_M_add_3 : decode by_M_add 3 = .ok (.iload_n 3, 1) := by decide +kernel
theorem de_M_add_4 : decode by_M_add 4 = .ok (.iload 4, 2) := by decide +kernel
theorem de_M_add_6 : decode by_M_add 6 = .ok (.invokestatic 71, 3) := by decide +kernel
theorem de_M_add_9 : decode by_M_add 9 = .ok (.ifCond .ne 7, 3) := by decide +kernel
theorem de_M_add_12 : decode by_M_add 12 = .ok (.iconst 1, 1) := by decide +kernel
theorem de_M_add_13 : decode by_M_add 13 = .ok (.goto 19, 3) := by decide +kernel
theorem de_M_add_16 : decode by_M_add 16 = .ok (.aload_n 0, 1) := by decide +kernel
theorem de_M_add_17 : decode by_M_add 17 = .ok (.getfield 22, 3) := by decide +kernel
theorem de_M_add_20 : decode by_M_add 20 = .ok (.iconst 0, 1) := by decide +kernel
theorem de_M_add_21 : decode by_M_add 21 = .ok (.iaload, 1) := by decide +kernel
theorem de_M_add_22 : decode by_M_add 22 = .ok (.bipush 40, 2) := by decide +kernel
theorem de_M_add_24 : decode by_M_add 24 = .ok (.if_icmp .ne 7, 3) := by decide +kernel
theorem de_M_add_27 : decode by_M_add 27 = .ok (.iconst 2, 1) := by decide +kernel
theorem de_M_add_28 : decode by_M_add 28 = .ok (.goto 4, 3) := by decide +kernel
theorem de_M_add_31 : decode by_M_add 31 = .ok (.iconst 0, 1) := by decide +kernel
theorem de_M_add_32 : decode by_M_add 32 = .ok (.invokevirtual 75, 3) := by decide +kernel
theorem de_M_add_35 : decode by_M_add 35 = .ok (.ifCond .eq 5, 3) := by decide +kernel
theorem de_M_add_38 : decode by_M_add 38 = .ok (.iconst 0, 1) := by decide +kernel
theorem de_M_add_39 : decode by_M_add 39 = .ok (.ireturn, 1) := by decide +kernel
theorem de_M_add_40 : decode by_M_add 40 = .ok (.aload_n 0, 1) := by decide +kernel
theorem de_M_add_41 : decode by_M_add 41 = .ok (.aload_n 0, 1) := by decide +kernel
theorem de_M_add_42 : decode by_M_add 42 = .ok (.getfield 22, 3) := by decide +kernel
theorem de_M_add_45 : decode by_M_add 45 = .ok (.iconst 0, 1) := by decide +kernel
theorem de_M_add_46 : decode by_M_add 46 = .ok (.iaload, 1) := by decide +kernel
theorem de_M_add_47 : decode by_M_add 47 = .ok (.iload_n 1, 1) := by decide +kernel
theorem de_M_add_48 : decode by_M_add 48 = .ok (.iload_n 2, 1) := by decide +kernel
theorem de_M_add_49 : decode by_M_add 49 = .ok (.iload_n 3, 1) := by decide +kernel
theorem de_M_add_50 : decode by_M_add 50 = .ok (.iload 4, 2) := by decide +kernel
theorem de_M_add_52 : decode by_M_add 52 = .ok (.invokevirtual 78, 3) := by decide +kernel
theorem de_M_add_55 : decode by_M_add 55 = .ok (.aload_n 0, 1) := by decide +kernel
theorem de_M_add_56 : decode by_M_add 56 = .ok (.getfield 22, 3) := by decide +kernel
theorem de_M_add_59 : decode by_M_add 59 = .ok (.iconst 0, 1) := by decide +kernel
theorem de_M_add_60 : decode by_M_add 60 = .ok (.dup2, 1) := by decide +kernel
theorem de_M_add_61 : decode by_M_add 61 = .ok (.iaload, 1) := by decide +kernel
theorem de_M_add_62 : decode by_M_add 62 = .ok (.iconst 1, 1) := by decide +kernel
theorem de_M_add_63 : decode by_M_add 63 = .ok (.iadd, 1) := by decide +kernel
theorem de_M_add_64 : decode by_M_add 64 = .ok (.iastore, 1) := by decide +kernel
theorem de_M_add_65 : decode by_M_add 65 = .ok (.aload_n 0, 1) := by decide +kernel
theorem de_M_add_66 : decode by_M_add 66 = .ok (.invokevirtual 82, 3) := by decide +kernel
theorem de_M_add_69 : decode by_M_add 69 = .ok (.aload_n 0, 1) := by decide +kernel
theorem de_M_add_70 : decode by_M_add 70 = .ok (.getfield 22, 3) := by decide +kernel
theorem de_M_add_73 : decode by_M_add 73 = .ok (.iconst 0, 1) := by decide +kernel
theorem de_M_add_74 : decode by_M_add 74 = .ok (.iaload, 1) := by decide +kernel
theorem de_M_add_75 : decode by_M_add 75 = .ok (.ireturn, 1) := by decide +kernel
theorem de_M_change_0 : decode by_M_change 0 = .ok (.aload_n 0, 1) := by decide +kernel
theorem de_M_change_1 : decode by_M_change 1 = .ok (.iload_n 1, 1) := by decide +kernel
theorem de_M_change_2 : decode by_M_change 2 = .ok (.ifCond .lt 13, 3) := by decide +kernel
theorem de_M_change_5 : decode by_M_change 5 = .ok (.iload_n 1, 1) := by decide +kernel
theorem de_M_change_6 : decode by_M_change 6 = .ok (.aload_n 0, 1) := by decide +kernel
theorem de_M_change_7 : decode by_M_change 7 = .ok (.getfield 22, 3) := by decide +kernel
theorem de_M_change_10 : decode by_M_change 10 = .ok (.iconst 0, 1) := by decide +kernel
theorem de_M_change_11 : decode by_M_change 11 = .ok (.iaload, 1) := by decide +kernel
theorem de_M_change_12 : decode by_M_change 12 = .ok (.if_icmp .lt 7, 3) := by decide +kernel
theorem de_M_change_15 : decode by_M_change 15 = .ok (.iconst 1, 1) := by decide +kernel
theorem de_M_change_16 : decode by_M_change 16 = .ok (.goto 20, 3) := by decide +kernel
theorem de_M_change_19 : decode by_M_change 19 = .ok (.iload_n 2, 1) := by decide +kernel
theorem de_M_change_20 : decode by_M_change 20 = .ok (.iload_n 3, 1) := by decide +kernel
theorem de_M_change_21 : decode by_M_change 21 = .ok (.iload 4, 2) := by decide +kernel
theorem de_M_change_23 : decode by_M_change 23 = .ok (.iload 5, 2) := by decide +kernel
theorem de_M_change_25 : decode by_M_change 25 = .ok (.invokestatic 71, 3) := by decide +kernel
theorem de_M_change_28 : decode by_M_change 28 = .ok (.ifCond .ne 7, 3) := by decide +kernel
theorem de_M_change_31 : decode by_M_change 31 = .ok (.iconst 2, 1) := by decide +kernel
theorem de_M_change_32 : decode by_M_change 32 = .ok (.goto 4, 3) := by decide +kernel
theorem de_M_change_35 : decode by_M_change 35 = .ok (.iconst 0, 1) := by decide +kernel
theorem de_M_change_36 : decode by_M_change 36 = .ok (.invokevirtual 75, 3) := by decide +kernel
theorem de_M_change_39 : decode by_M_change 39 = .ok (.ifCond .ne 18, 3) := by decide +kernel
theorem de_M_change_42 : decode by_M_change 42 = .ok (.aload_n 0, 1) := by decide +kernel
theorem de_M_change_43 : decode by_M_change 43 = .ok (.iload_n 1, 1) := by decide +kernel
theorem de_M_change_44 : decode by_M_change 44 = .ok (.iload_n 2, 1) := by decide +kernel
theorem de_M_change_45 : decode by_M_change 45 = .ok (.iload_n 3, 1) := by decide +kernel
theorem de_M_change_46 : decode by_M_change 46 = .ok (.iload 4, 2) := by decide +kernel
theorem de_M_change_48 : decode by_M_change 48 = .ok (.iload 5, 2) := by decide +kernel
theorem de_M_change_50 : decode by_M_change 50 = .ok (.invokevirtual 78, 3) := by decide +kernel
theorem de_M_change_53 : decode by_M_change 53 = .ok (.aload_n 0, 1) := by decide +kernel
theorem de_M_change_54 : decode by_M_change 54 = .ok (.invokevirtual 82, 3) := by decide +kernel
theorem de_M_change_57 : decode by_M_change 57 = .ok (.return_, 1) := by decide +kernel
theorem de_M_clear_0 : decode by_M_clear 0 = .ok (.aload_n 0, 1) := by decide +kernel
theorem de_M_clear_1 : decode by_M_clear 1 = .ok (.iconst 0, 1) := by decide +kernel
theorem de_M_clear_2 : decode by_M_clear 2 = .ok (.putfield 59, 3) := by decide +kernel
theorem de_M_clear_5 : decode by_M_clear 5 = .ok (.aload_n 0, 1) := by decide +kernel
theorem de_M_clear_6 : decode by_M_clear 6 = .ok (.getfield 22, 3) := by decide +kernel
theorem de_M_clear_9 : decode by_M_clear 9 = .ok (.iconst 0, 1) := by decide +kernel
theorem de_M_clear_10 : decode by_M_clear 10 = .ok (.iaload, 1) := by decide +kernel
theorem de_M_clear_11 : decode by_M_clear 11 = .ok (.istore_n 1, 1) := by decide +kernel
theorem de_M_clear_12 : decode by_M_clear 12 = .ok (.aload_n 0, 1) := by decide +kernel
theorem de_M_clear_13 : decode by_M_clear 13 = .ok (.getfield 22, 3) := by decide +kernel
theorem de_M_clear_16 : decode by_M_clear 16 = .ok (.iconst 0, 1) := by decide +kernel
theorem de_M_clear_17 : decode by_M_clear 17 = .ok (.iconst 0, 1) := by decide +kernel
theorem de_M_clear_18 : decode by_M_clear 18 = .ok (.iastore, 1) := by decide +kernel
theorem de_M_clear_19 : decode by_M_clear 19 = .ok (.aload_n 0, 1) := by decide +kernel
theorem de_M_clear_20 : decode by_M_clear 20 = .ok (.invokevirtual 82, 3) := by decide +kernel
theorem de_M_clear_23 : decode by_M_clear 23 = .ok (.iload_n 1, 1) := by decide +kernel
theorem de_M_clear_24 : decode by_M_clear 24 = .ok (.ireturn, 1) := by decide +kernel
theorem de_M_come_0 : decode by_M_come 0 = .ok (.iload_n 1, 1) := by decide +kernel
theorem de_M_come_1 : decode by_M_come 1 = .ok (.aload_n 0, 1) := by decide +kernel
theorem de_M_come_2 : decode by_M_come 2 = .ok (.getfield 22, 3) := by decide +kernel
theorem de_M_come_5 : decode by_M_come 5 = .ok (.iconst 0, 1) := by decide +kernel
theorem de_M_come_6 : decode by_M_come 6 = .ok (.iaload, 1) := by decide +kernel
theorem de_M_come_7 : decode by_M_come 7 = .ok (.if_icmp .lt 4, 3) := by decide +kernel
theorem de_M_come_10 : decode by_M_come 10 = .ok (.return_, 1) := by decide +kernel
theorem de_M_come_11 : decode by_M_come 11 = .ok (.iconst 0, 1) := by decide +kernel
theorem de_M_come_12 : decode by_M_come 12 = .ok (.istore_n 2, 1) := by decide +kernel
theorem de_M_come_13 : decode by_M_come 13 = .ok (.iload_n 2, 1) := by decide +kernel
theorem de_M_come_14 : decode by_M_come 14 = .ok (.bipush 6, 2) := by decide +kernel
theorem de_M_come_16 : decode by_M_come 16 = .ok (.if_icmp .ge 132, 3) := by decide +kernel
theorem de_M_come_19 : decode by_M_come 19 = .ok (.bipush 6, 2) := by decide +kernel
theorem de_M_come_21 : decode by_M_come 21 = .ok (.iload_n 1, 1) := by decide +kernel
theorem de_M_come_22 : decode by_M_come 22 = .ok (.imul, 1) := by decide +kernel
theorem de_M_come_23 : decode by_M_come 23 = .ok (.iload_n 2, 1) := by decide +kernel
theorem de_M_come_24 : decode by_M_come 24 = .ok (.iadd, 1) := by decide +kernel
theorem de_M_come_25 : decode by_M_come 25 = .ok (.istore_n 3, 1) := by decide +kernel
theorem de_M_come_26 : decode by_M_come 26 = .ok (.aload_n 0, 1) := by decide +kernel
theorem de_M_come_27 : decode by_M_come 27 = .ok (.getfield 25, 3) := by decide +kernel
theorem de_M_come_30 : decode by_M_come 30 = .ok (.iload_n 1, 1) := by decide +kernel
theorem de_M_come_31 : decode by_M_come 31 = .ok (.baload, 1) := by decide +kernel
theorem de_M_come_32 : decode by_M_come 32 = .ok (.ifCond .eq 42, 3) := by decide +kernel
theorem de_M_come_35 : decode by_M_come 35 = .ok (.aload_n 0, 1) := by decide +kernel
theorem de_M_come_36 : decode by_M_come 36 = .ok (.getfield 29, 3) := by decide +kernel
theorem de_M_come_39 : decode by_M_come 39 = .ok (.iload_n 3, 1) := by decide +kernel
theorem de_M_come_40 : decode by_M_come 40 = .ok (.iaload, 1) := by decide +kernel
theorem de_M_come_41 : decode by_M_come 41 = .ok (.iconst 1, 1) := by decide +kernel
theorem de_M_come_42 : decode by_M_come 42 = .ok (.if_icmp .eq 28, 3) := by decide +kernel
theorem de_M_come_45 : decode by_M_come 45 = .ok (.aload_n 0, 1) := by decide +kernel
theorem de_M_come_46 : decode by_M_come 46 = .ok (.getfield 35, 3) := by decide +kernel
theorem de_M_come_49 : decode by_M_come 49 = .ok (.iload_n 2, 1) := by decide +kernel
theorem de_M_come_50 : decode by_M_come 50 = .ok (.iaload, 1) := by decide +kernel
theorem de_M_come_51 : decode by_M_come 51 = .ok (.iconst 2, 1) := by decide +kernel
theorem de_M_come_52 : decode by_M_come 52 = .ok (.if_icmp .ne 22, 3) := by decide +kernel
theorem de_M_come_55 : decode by_M_come 55 = .ok (.aload_n 0, 1) := by decide +kernel
theorem de_M_come_56 : decode by_M_come 56 = .ok (.getfield 32, 3) := by decide +kernel
theorem de_M_come_59 : decode by_M_come 59 = .ok (.iload_n 3, 1) := by decide +kernel
theorem de_M_come_60 : decode by_M_come 60 = .ok (.iaload, 1) := by decide +kernel
theorem de_M_come_61 : decode by_M_come 61 = .ok (.aload_n 0, 1) := by decide +kernel
theorem de_M_come_62 : decode by_M_come 62 = .ok (.getfield 38, 3) := by decide +kernel
theorem de_M_come_65 : decode by_M_come 65 = .ok (.iload_n 2, 1) := by decide +kernel
theorem de_M_come_66 : decode by_M_come 66 = .ok (.iaload, 1) := by decide +kernel
theorem de_M_come_67 : decode by_M_come 67 = .ok (.if_icmp .ne 7, 3) := by decide +kernel
theorem de_M_come_70 : decode by_M_come 70 = .ok (.iconst 1, 1) := by decide +kernel
theorem de_M_come_71 : decode by_M_come 71 = .ok (.goto 4, 3) := by decide +kernel
theorem de_M_come_74 : decode by_M_come 74 = .ok (.iconst 0, 1) := by decide +kernel
theorem de_M_come_75 : decode by_M_come 75 = .ok (.istore 4, 2) := by decide +kernel
theorem de_M_come_77 : decode by_M_come 77 = .ok (.aload_n 0, 1) := by decide +kernel
theorem de_M_come_78 : decode by_M_come 78 = .ok (.getfield 25, 3) := by decide +kernel
theorem de_M_come_81 : decode by_M_come 81 = .ok (.iload_n 1, 1) := by decide +kernel
theorem de_M_come_82 : decode by_M_come 82 = .ok (.baload, 1) := by decide +kernel
theorem de_M_come_83 : decode by_M_come 83 = .ok (.ifCond .ne 35, 3) := by decide +kernel
theorem de_M_come_86 : decode by_M_come 86 = .ok (.aload_n 0, 1) := by decide +kernel
theorem de_M_come_87 : decode by_M_come 87 = .ok (.getfield 29, 3) := by decide +kernel
theorem de_M_come_90 : decode by_M_come 90 = .ok (.iload_n 3, 1) := by decide +kernel
theorem de_M_come_91 : decode by_M_come 91 = .ok (.aload_n 0, 1) := by decide +kernel
theorem de_M_come_92 : decode by_M_come 92 = .ok (.getfield 35, 3) := by decide +kernel
theorem de_M_come_95 : decode by_M_come 95 = .ok (.iload_n 2, 1) := by decide +kernel
theorem de_M_come_96 : decode by_M_come 96 = .ok (.iaload, 1) := by decide +kernel
theorem de_M_come_97 : decode by_M_come 97 = .ok (.iastore, 1) := by decide +kernel
theorem de_M_come_98 : decode by_M_come 98 = .ok (.aload_n 0, 1) := by decide +kernel
theorem de_M_come_99 : decode by_M_come 99 = .ok (.getfield 32, 3) := by decide +kernel
theorem de_M_come_102 : decode by_M_come 102 = .ok (.iload_n 3, 1) := by decide +kernel
theorem de_M_come_103 : decode by_M_come 103 = .ok (.aload_n 0, 1) := by decide +kernel
theorem de_M_come_104 : decode by_M_come 104 = .ok (.getfield 38, 3) := by decide +kernel
theorem de_M_come_107 : decode by_M_come 107 = .ok (.iload_n 2, 1) := by decide +kernel
theorem de_M_come_108 : decode by_M_come 108 = .ok (.iaload, 1) := by decide +kernel
theorem de_M_come_109 : decode by_M_come 109 = .ok (.iastore, 1) := by decide +kernel
theorem de_M_come_110 : decode by_M_come 110 = .ok (.aload_n 0, 1) := by decide +kernel
theorem de_M_come_111 : decode by_M_come 111 = .ok (.iconst 1, 1) := by decide +kernel
theorem de_M_come_112 : decode by_M_come 112 = .ok (.putfield 85, 3) := by decide +kernel
theorem de_M_come_115 : decode by_M_come 115 = .ok (.goto 27, 3) := by decide +kernel
theorem de_M_come_118 : decode by_M_come 118 = .ok (.iload 4, 2) := by decide +kernel
theorem de_M_come_120 : decode by_M_come 120 = .ok (.ifCond .ne 22, 3) := by decide +kernel
theorem de_M_come_123 : decode by_M_come 123 = .ok (.aload_n 0, 1) := by decide +kernel
theorem de_M_come_124 : decode by_M_come 124 = .ok (.getfield 29, 3) := by decide +kernel
theorem de_M_come_127 : decode by_M_come 127 = .ok (.iload_n 3, 1) := by decide +kernel
theorem de_M_come_128 : decode by_M_come 128 = .ok (.iconst 1, 1) := by decide +kernel
theorem de_M_come_129 : decode by_M_come 129 = .ok (.iastore, 1) := by decide +kernel
theorem de_M_come_130 : decode by_M_come 130 = .ok (.aload_n 0, 1) := by decide +kernel
theorem de_M_come_131 : decode by_M_come 131 = .ok (.getfield 32, 3) := by decide +kernel
theorem de_M_come_134 : decode by_M_come 134 = .ok (.iload_n 3, 1) := by decide +kernel
theorem de_M_come_135 : decode by_M_come 135 = .ok (.iconst 0, 1) := by decide +kernel
theorem de_M_come_136 : decode by_M_come 136 = .ok (.iastore, 1) := by decide +kernel
theorem de_M_come_137 : decode by_M_come 137 = .ok (.aload_n 0, 1) := by decide +kernel
theorem de_M_come_138 : decode by_M_come 138 = .ok (.iconst 1, 1) := by decide +kernel
theorem de_M_come_139 : decode by_M_come 139 = .ok (.putfield 85, 3) := by decide +kernel
theorem de_M_come_142 : decode by_M_come 142 = .ok (.iinc 2 1, 3) := by decide +kernel
theorem de_M_come_145 : decode by_M_come 145 = .ok (.goto (-132), 3) := by decide +kernel
theorem de_M_come_148 : decode by_M_come 148 = .ok (.aload_n 0, 1) := by decide +kernel
theorem de_M_come_149 : decode by_M_come 149 = .ok (.getfield 25, 3) := by decide +kernel
theorem de_M_come_152 : decode by_M_come 152 = .ok (.iload_n 1, 1) := by decide +kernel
theorem de_M_come_153 : decode by_M_come 153 = .ok (.iconst 1, 1) := by decide +kernel
theorem de_M_come_154 : decode by_M_come 154 = .ok (.bastore, 1) := by decide +kernel
theorem de_M_come_155 : decode by_M_come 155 = .ok (.return_, 1) := by decide +kernel
theorem de_M_reckon_0 : decode by_M_reckon 0 = .ok (.iload_n 0, 1) := by decide +kernel
theorem de_M_reckon_1 : decode by_M_reckon 1 = .ok (.iconst 2, 1) := by decide +kernel
theorem de_M_reckon_2 : decode by_M_reckon 2 = .ok (.if_icmp .ne 9, 3) := by decide +kernel
theorem de_M_reckon_5 : decode by_M_reckon 5 = .ok (.iload_n 1, 1) := by decide +kernel
theorem de_M_reckon_6 : decode by_M_reckon 6 = .ok (.iload_n 2, 1) := by decide +kernel
theorem de_M_reckon_7 : decode by_M_reckon 7 = .ok (.iadd, 1) := by decide +kernel
theorem de_M_reckon_8 : decode by_M_reckon 8 = .ok (.goto 17, 3) := by decide +kernel
theorem de_M_reckon_11 : decode by_M_reckon 11 = .ok (.iload_n 0, 1) := by decide +kernel
theorem de_M_reckon_12 : decode by_M_reckon 12 = .ok (.iconst 3, 1) := by decide +kernel
theorem de_M_reckon_13 : decode by_M_reckon 13 = .ok (.if_icmp .ne 9, 3) := by decide +kernel
theorem de_M_reckon_16 : decode by_M_reckon 16 = .ok (.iload_n 1, 1) := by decide +kernel
theorem de_M_reckon_17 : decode by_M_reckon 17 = .ok (.iload_n 2, 1) := by decide +kernel
theorem de_M_reckon_18 : decode by_M_reckon 18 = .ok (.isub, 1) := by decide +kernel
theorem de_M_reckon_19 : decode by_M_reckon 19 = .ok (.goto 6, 3) := by decide +kernel
theorem de_M_reckon_22 : decode by_M_reckon 22 = .ok (.iload_n 1, 1) := by decide +kernel
theorem de_M_reckon_23 : decode by_M_reckon 23 = .ok (.iload_n 2, 1) := by decide +kernel
theorem de_M_reckon_24 : decode by_M_reckon 24 = .ok (.imul, 1) := by decide +kernel
theorem de_M_reckon_25 : decode by_M_reckon 25 = .ok (.ireturn, 1) := by decide +kernel
theorem de_M_know_0 : decode by_M_know 0 = .ok (.aload_n 0, 1) := by decide +kernel
theorem de_M_know_1 : decode by_M_know 1 = .ok (.getfield 35, 3) := by decide +kernel
theorem de_M_know_4 : decode by_M_know 4 = .ok (.iload_n 1, 1) := by decide +kernel
theorem de_M_know_5 : decode by_M_know 5 = .ok (.iload_n 2, 1) := by decide +kernel
theorem de_M_know_6 : decode by_M_know 6 = .ok (.ifCond .eq 7, 3) := by decide +kernel
theorem de_M_know_9 : decode by_M_know 9 = .ok (.iconst 2, 1) := by decide +kernel
theorem de_M_know_10 : decode by_M_know 10 = .ok (.goto 4, 3) := by decide +kernel
theorem de_M_know_13 : decode by_M_know 13 = .ok (.iconst 1, 1) := by decide +kernel
theorem de_M_know_14 : decode by_M_know 14 = .ok (.iastore, 1) := by decide +kernel
theorem de_M_know_15 : decode by_M_know 15 = .ok (.aload_n 0, 1) := by decide +kernel
theorem de_M_know_16 : decode by_M_know 16 = .ok (.getfield 38, 3) := by decide +kernel
theorem de_M_know_19 : decode by_M_know 19 = .ok (.iload_n 1, 1) := by decide +kernel
theorem de_M_know_20 : decode by_M_know 20 = .ok (.iload_n 2, 1) := by decide +kernel
theorem de_M_know_21 : decode by_M_know 21 = .ok (.ifCond .eq 7, 3) := by decide +kernel
theorem de_M_know_24 : decode by_M_know 24 = .ok (.iload_n 3, 1) := by decide +kernel
theorem de_M_know_25 : decode by_M_know 25 = .ok (.goto 4, 3) := by decide +kernel
theorem de_M_know_28 : decode by_M_know 28 = .ok (.iconst 0, 1) := by decide +kernel
theorem de_M_know_29 : decode by_M_know 29 = .ok (.iastore, 1) := by decide +kernel
theorem de_M_know_30 : decode by_M_know 30 = .ok (.return_, 1) := by decide +kernel
theorem de_M_pass_0 : decode by_M_pass 0 = .ok (.aload_n 0, 1) := by decide +kernel
theorem de_M_pass_1 : decode by_M_pass 1 = .ok (.getfield 7, 3) := by decide +kernel
theorem de_M_pass_4 : decode by_M_pass 4 = .ok (.iload_n 1, 1) := by decide +kernel
theorem de_M_pass_5 : decode by_M_pass 5 = .ok (.iaload, 1) := by decide +kernel
theorem de_M_pass_6 : decode by_M_pass 6 = .ok (.ifCond .ne 10, 3) := by decide +kernel
theorem de_M_pass_9 : decode by_M_pass 9 = .ok (.bipush 6, 2) := by decide +kernel
theorem de_M_pass_11 : decode by_M_pass 11 = .ok (.iload_n 1, 1) := by decide +kernel
theorem de_M_pass_12 : decode by_M_pass 12 = .ok (.imul, 1) := by decide +kernel
theorem de_M_pass_13 : decode by_M_pass 13 = .ok (.goto 14, 3) := by decide +kernel
theorem de_M_pass_16 : decode by_M_pass 16 = .ok (.bipush 6, 2) := by decide +kernel
theorem de_M_pass_18 : decode by_M_pass 18 = .ok (.iload_n 1, 1) := by decide +kernel
theorem de_M_pass_19 : decode by_M_pass 19 = .ok (.imul, 1) := by decide +kernel
theorem de_M_pass_20 : decode by_M_pass 20 = .ok (.aload_n 0, 1) := by decide +kernel
theorem de_M_pass_21 : decode by_M_pass 21 = .ok (.getfield 16, 3) := by decide +kernel
theorem de_M_pass_24 : decode by_M_pass 24 = .ok (.iload_n 1, 1) := by decide +kernel
theorem de_M_pass_25 : decode by_M_pass 25 = .ok (.iaload, 1) := by decide +kernel
theorem de_M_pass_26 : decode by_M_pass 26 = .ok (.iadd, 1) := by decide +kernel
theorem de_M_pass_27 : decode by_M_pass 27 = .ok (.istore_n 2, 1) := by decide +kernel
theorem de_M_pass_28 : decode by_M_pass 28 = .ok (.bipush 6, 2) := by decide +kernel
theorem de_M_pass_30 : decode by_M_pass 30 = .ok (.iload_n 1, 1) := by decide +kernel
theorem de_M_pass_31 : decode by_M_pass 31 = .ok (.imul, 1) := by decide +kernel
theorem de_M_pass_32 : decode by_M_pass 32 = .ok (.aload_n 0, 1) := by decide +kernel
theorem de_M_pass_33 : decode by_M_pass 33 = .ok (.getfield 19, 3) := by decide +kernel
theorem de_M_pass_36 : decode by_M_pass 36 = .ok (.iload_n 1, 1) := by decide +kernel
theorem de_M_pass_37 : decode by_M_pass 37 = .ok (.iaload, 1) := by decide +kernel
theorem de_M_pass_38 : decode by_M_pass 38 = .ok (.iadd, 1) := by decide +kernel
theorem de_M_pass_39 : decode by_M_pass 39 = .ok (.istore_n 3, 1) := by decide +kernel
theorem de_M_pass_40 : decode by_M_pass 40 = .ok (.aload_n 0, 1) := by decide +kernel
theorem de_M_pass_41 : decode by_M_pass 41 = .ok (.getfield 29, 3) := by decide +kernel
theorem de_M_pass_44 : decode by_M_pass 44 = .ok (.iload_n 2, 1) := by decide +kernel
theorem de_M_pass_45 : decode by_M_pass 45 = .ok (.iaload, 1) := by decide +kernel
theorem de_M_pass_46 : decode by_M_pass 46 = .ok (.iconst 2, 1) := by decide +kernel
theorem de_M_pass_47 : decode by_M_pass 47 = .ok (.if_icmp .ne 17, 3) := by decide +kernel
theorem de_M_pass_50 : decode by_M_pass 50 = .ok (.aload_n 0, 1) := by decide +kernel
theorem de_M_pass_51 : decode by_M_pass 51 = .ok (.getfield 29, 3) := by decide +kernel
theorem de_M_pass_54 : decode by_M_pass 54 = .ok (.iload_n 3, 1) := by decide +kernel
theorem de_M_pass_55 : decode by_M_pass 55 = .ok (.iaload, 1) := by decide +kernel
theorem de_M_pass_56 : decode by_M_pass 56 = .ok (.iconst 2, 1) := by decide +kernel
theorem de_M_pass_57 : decode by_M_pass 57 = .ok (.if_icmp .ne 7, 3) := by decide +kernel
theorem de_M_pass_60 : decode by_M_pass 60 = .ok (.iconst 1, 1) := by decide +kernel
theorem de_M_pass_61 : decode by_M_pass 61 = .ok (.goto 4, 3) := by decide +kernel
theorem de_M_pass_64 : decode by_M_pass 64 = .ok (.iconst 0, 1) := by decide +kernel
theorem de_M_pass_65 : decode by_M_pass 65 = .ok (.istore 4, 2) := by decide +kernel
theorem de_M_pass_67 : decode by_M_pass 67 = .ok (.aload_n 0, 1) := by decide +kernel
theorem de_M_pass_68 : decode by_M_pass 68 = .ok (.getfield 7, 3) := by decide +kernel
theorem de_M_pass_71 : decode by_M_pass 71 = .ok (.iload_n 1, 1) := by decide +kernel
theorem de_M_pass_72 : decode by_M_pass 72 = .ok (.iaload, 1) := by decide +kernel
theorem de_M_pass_73 : decode by_M_pass 73 = .ok (.iconst 4, 1) := by decide +kernel
theorem de_M_pass_74 : decode by_M_pass 74 = .ok (.if_icmp .ne 45, 3) := by decide +kernel
theorem de_M_pass_77 : decode by_M_pass 77 = .ok (.aload_n 0, 1) := by decide +kernel
theorem de_M_pass_78 : decode by_M_pass 78 = .ok (.getfield 29, 3) := by decide +kernel
theorem de_M_pass_81 : decode by_M_pass 81 = .ok (.iload_n 2, 1) := by decide +kernel
theorem de_M_pass_82 : decode by_M_pass 82 = .ok (.iaload, 1) := by decide +kernel
theorem de_M_pass_83 : decode by_M_pass 83 = .ok (.iconst 2, 1) := by decide +kernel
theorem de_M_pass_84 : decode by_M_pass 84 = .ok (.if_icmp .ne 12, 3) := by decide +kernel
theorem de_M_pass_87 : decode by_M_pass 87 = .ok (.aload_n 0, 1) := by decide +kernel
theorem de_M_pass_88 : decode by_M_pass 88 = .ok (.getfield 32, 3) := by decide +kernel
theorem de_M_pass_91 : decode by_M_pass 91 = .ok (.iload_n 2, 1) := by decide +kernel
theorem de_M_pass_92 : decode by_M_pass 92 = .ok (.iaload, 1) := by decide +kernel
theorem de_M_pass_93 : decode by_M_pass 93 = .ok (.ifCond .eq 22, 3) := by decide +kernel
theorem de_M_pass_96 : decode by_M_pass 96 = .ok (.aload_n 0, 1) := by decide +kernel
theorem de_M_pass_97 : decode by_M_pass 97 = .ok (.getfield 29, 3) := by decide +kernel
theorem de_M_pass_100 : decode by_M_pass 100 = .ok (.iload_n 3, 1) := by decide +kernel
theorem de_M_pass_101 : decode by_M_pass 101 = .ok (.iaload, 1) := by decide +kernel
theorem de_M_pass_102 : decode by_M_pass 102 = .ok (.iconst 2, 1) := by decide +kernel
theorem de_M_pass_103 : decode by_M_pass 103 = .ok (.if_icmp .ne 16, 3) := by decide +kernel
theorem de_M_pass_106 : decode by_M_pass 106 = .ok (.aload_n 0, 1) := by decide +kernel
theorem de_M_pass_107 : decode by_M_pass 107 = .ok (.getfield 32, 3) := by decide +kernel
theorem de_M_pass_110 : decode by_M_pass 110 = .ok (.iload_n 3, 1) := by decide +kernel
theorem de_M_pass_111 : decode by_M_pass 111 = .ok (.iaload, 1) := by decide +kernel
theorem de_M_pass_112 : decode by_M_pass 112 = .ok (.ifCond .ne 7, 3) := by decide +kernel
theorem de_M_pass_115 : decode by_M_pass 115 = .ok (.iconst 1, 1) := by decide +kernel
theorem de_M_pass_116 : decode by_M_pass 116 = .ok (.goto 4, 3) := by decide +kernel
theorem de_M_pass_119 : decode by_M_pass 119 = .ok (.iconst 0, 1) := by decide +kernel
theorem de_M_pass_120 : decode by_M_pass 120 = .ok (.istore 5, 2) := by decide +kernel
theorem de_M_pass_122 : decode by_M_pass 122 = .ok (.aload_n 0, 1) := by decide +kernel
theorem de_M_pass_123 : decode by_M_pass 123 = .ok (.getfield 7, 3) := by decide +kernel
theorem de_M_pass_126 : decode by_M_pass 126 = .ok (.iload_n 1, 1) := by decide +kernel
theorem de_M_pass_127 : decode by_M_pass 127 = .ok (.iaload, 1) := by decide +kernel
theorem de_M_pass_128 : decode by_M_pass 128 = .ok (.lookupswitch 82 #[(0, 28), (1, 48)], 28) := by decide +kernel
theorem de_M_pass_156 : decode by_M_pass 156 = .ok (.aload_n 0, 1) := by decide +kernel
theorem de_M_pass_157 : decode by_M_pass 157 = .ok (.aload_n 0, 1) := by decide +kernel
theorem de_M_pass_158 : decode by_M_pass 158 = .ok (.getfield 13, 3) := by decide +kernel
theorem de_M_pass_161 : decode by_M_pass 161 = .ok (.iload_n 1, 1) := by decide +kernel
theorem de_M_pass_162 : decode by_M_pass 162 = .ok (.iaload, 1) := by decide +kernel
theorem de_M_pass_163 : decode by_M_pass 163 = .ok (.iconst 1, 1) := by decide +kernel
theorem de_M_pass_164 : decode by_M_pass 164 = .ok (.aload_n 0, 1) := by decide +kernel
theorem de_M_pass_165 : decode by_M_pass 165 = .ok (.getfield 16, 3) := by decide +kernel
theorem de_M_pass_168 : decode by_M_pass 168 = .ok (.iload_n 1, 1) := by decide +kernel
theorem de_M_pass_169 : decode by_M_pass 169 = .ok (.iaload, 1) := by decide +kernel
theorem de_M_pass_170 : decode by_M_pass 170 = .ok (.invokevirtual 88, 3) := by decide +kernel
theorem de_M_pass_173 : decode by_M_pass 173 = .ok (.goto 92, 3) := by decide +kernel
theorem de_M_pass_176 : decode by_M_pass 176 = .ok (.aload_n 0, 1) := by decide +kernel
theorem de_M_pass_177 : decode by_M_pass 177 = .ok (.aload_n 0, 1) := by decide +kernel
theorem de_M_pass_178 : decode by_M_pass 178 = .ok (.getfield 13, 3) := by decide +kernel
theorem de_M_pass_181 : decode by_M_pass 181 = .ok (.iload_n 1, 1) := by decide +kernel
theorem de_M_pass_182 : decode by_M_pass 182 = .ok (.iaload, 1) := by decide +kernel
theorem de_M_pass_183 : decode by_M_pass 183 = .ok (.aload_n 0, 1) := by decide +kernel
theorem de_M_pass_184 : decode by_M_pass 184 = .ok (.getfield 29, 3) := by decide +kernel
theorem de_M_pass_187 : decode by_M_pass 187 = .ok (.iload_n 2, 1) := by decide +kernel
theorem de_M_pass_188 : decode by_M_pass 188 = .ok (.iaload, 1) := by decide +kernel
theorem de_M_pass_189 : decode by_M_pass 189 = .ok (.iconst 2, 1) := by decide +kernel
theorem de_M_pass_190 : decode by_M_pass 190 = .ok (.if_icmp .ne 7, 3) := by decide +kernel
theorem de_M_pass_193 : decode by_M_pass 193 = .ok (.iconst 1, 1) := by decide +kernel
theorem de_M_pass_194 : decode by_M_pass 194 = .ok (.goto 4, 3) := by decide +kernel
theorem de_M_pass_197 : decode by_M_pass 197 = .ok (.iconst 0, 1) := by decide +kernel
theorem de_M_pass_198 : decode by_M_pass 198 = .ok (.aload_n 0, 1) := by decide +kernel
theorem de_M_pass_199 : decode by_M_pass 199 = .ok (.getfield 32, 3) := by decide +kernel
theorem de_M_pass_202 : decode by_M_pass 202 = .ok (.iload_n 2, 1) := by decide +kernel
theorem de_M_pass_203 : decode by_M_pass 203 = .ok (.iaload, 1) := by decide +kernel
theorem de_M_pass_204 : decode by_M_pass 204 = .ok (.invokevirtual 88, 3) := by decide +kernel
theorem de_M_pass_207 : decode by_M_pass 207 = .ok (.goto 58, 3) := by decide +kernel
theorem de_M_pass_210 : decode by_M_pass 210 = .ok (.aload_n 0, 1) := by decide +kernel
theorem de_M_pass_211 : decode by_M_pass 211 = .ok (.aload_n 0, 1) := by decide +kernel
theorem de_M_pass_212 : decode by_M_pass 212 = .ok (.getfield 13, 3) := by decide +kernel
theorem de_M_pass_215 : decode by_M_pass 215 = .ok (.iload_n 1, 1) := by decide +kernel
theorem de_M_pass_216 : decode by_M_pass 216 = .ok (.iaload, 1) := by decide +kernel
theorem de_M_pass_217 : decode by_M_pass 217 = .ok (.iload 4, 2) := by decide +kernel
theorem de_M_pass_219 : decode by_M_pass 219 = .ok (.ifCond .ne 8, 3) := by decide +kernel
theorem de_M_pass_222 : decode by_M_pass 222 = .ok (.iload 5, 2) := by decide +kernel
theorem de_M_pass_224 : decode by_M_pass 224 = .ok (.ifCond .eq 7, 3) := by decide +kernel
theorem de_M_pass_227 : decode by_M_pass 227 = .ok (.iconst 1, 1) := by decide +kernel
theorem de_M_pass_228 : decode by_M_pass 228 = .ok (.goto 4, 3) := by decide +kernel
theorem de_M_pass_231 : decode by_M_pass 231 = .ok (.iconst 0, 1) := by decide +kernel
theorem de_M_pass_232 : decode by_M_pass 232 = .ok (.iload 5, 2) := by decide +kernel
theorem de_M_pass_234 : decode by_M_pass 234 = .ok (.ifCond .eq 7, 3) := by decide +kernel
theorem de_M_pass_237 : decode by_M_pass 237 = .ok (.iconst 0, 1) := by decide +kernel
theorem de_M_pass_238 : decode by_M_pass 238 = .ok (.goto 24, 3) := by decide +kernel
theorem de_M_pass_241 : decode by_M_pass 241 = .ok (.aload_n 0, 1) := by decide +kernel
theorem de_M_pass_242 : decode by_M_pass 242 = .ok (.getfield 7, 3) := by decide +kernel
theorem de_M_pass_245 : decode by_M_pass 245 = .ok (.iload_n 1, 1) := by decide +kernel
theorem de_M_pass_246 : decode by_M_pass 246 = .ok (.iaload, 1) := by decide +kernel
theorem de_M_pass_247 : decode by_M_pass 247 = .ok (.aload_n 0, 1) := by decide +kernel
theorem de_M_pass_248 : decode by_M_pass 248 = .ok (.getfield 32, 3) := by decide +kernel
theorem de_M_pass_251 : decode by_M_pass 251 = .ok (.iload_n 2, 1) := by decide +kernel
theorem de_M_pass_252 : decode by_M_pass 252 = .ok (.iaload, 1) := by decide +kernel
theorem de_M_pass_253 : decode by_M_pass 253 = .ok (.aload_n 0, 1) := by decide +kernel
theorem de_M_pass_254 : decode by_M_pass 254 = .ok (.getfield 32, 3) := by decide +kernel
theorem de_M_pass_257 : decode by_M_pass 257 = .ok (.iload_n 3, 1) := by decide +kernel
theorem de_M_pass_258 : decode by_M_pass 258 = .ok (.iaload, 1) := by decide +kernel
theorem de_M_pass_259 : decode by_M_pass 259 = .ok (.invokestatic 92, 3) := by decide +kernel
theorem de_M_pass_262 : decode by_M_pass 262 = .ok (.invokevirtual 88, 3) := by decide +kernel
theorem de_M_pass_265 : decode by_M_pass 265 = .ok (.return_, 1) := by decide +kernel
theorem de_M_goOn_0 : decode by_M_goOn 0 = .ok (.iconst 0, 1) := by decide +kernel
theorem de_M_goOn_1 : decode by_M_goOn 1 = .ok (.istore_n 2, 1) := by decide +kernel
theorem de_M_goOn_2 : decode by_M_goOn 2 = .ok (.iload_n 2, 1) := by decide +kernel
theorem de_M_goOn_3 : decode by_M_goOn 3 = .ok (.bipush 6, 2) := by decide +kernel
theorem de_M_goOn_5 : decode by_M_goOn 5 = .ok (.if_icmp .ge 43, 3) := by decide +kernel
theorem de_M_goOn_8 : decode by_M_goOn 8 = .ok (.aload_n 0, 1) := by decide +kernel
theorem de_M_goOn_9 : decode by_M_goOn 9 = .ok (.getfield 35, 3) := by decide +kernel
theorem de_M_goOn_12 : decode by_M_goOn 12 = .ok (.iload_n 2, 1) := by decide +kernel
theorem de_M_goOn_13 : decode by_M_goOn 13 = .ok (.aload_n 0, 1) := by decide +kernel
theorem de_M_goOn_14 : decode by_M_goOn 14 = .ok (.getfield 29, 3) := by decide +kernel
theorem de_M_goOn_17 : decode by_M_goOn 17 = .ok (.bipush 6, 2) := by decide +kernel
theorem de_M_goOn_19 : decode by_M_goOn 19 = .ok (.iload_n 1, 1) := by decide +kernel
theorem de_M_goOn_20 : decode by_M_goOn 20 = .ok (.imul, 1) := by decide +kernel
theorem de_M_goOn_21 : decode by_M_goOn 21 = .ok (.iload_n 2, 1) := by decide +kernel
theorem de_M_goOn_22 : decode by_M_goOn 22 = .ok (.iadd, 1) := by decide +kernel
theorem de_M_goOn_23 : decode by_M_goOn 23 = .ok (.iaload, 1) := by decide +kernel
theorem de_M_goOn_24 : decode by_M_goOn 24 = .ok (.iastore, 1) := by decide +kernel
theorem de_M_goOn_25 : decode by_M_goOn 25 = .ok (.aload_n 0, 1) := by decide +kernel
theorem de_M_goOn_26 : decode by_M_goOn 26 = .ok (.getfield 38, 3) := by decide +kernel
theorem de_M_goOn_29 : decode by_M_goOn 29 = .ok (.iload_n 2, 1) := by decide +kernel
theorem de_M_goOn_30 : decode by_M_goOn 30 = .ok (.aload_n 0, 1) := by decide +kernel
theorem de_M_goOn_31 : decode by_M_goOn 31 = .ok (.getfield 32, 3) := by decide +kernel
theorem de_M_goOn_34 : decode by_M_goOn 34 = .ok (.bipush 6, 2) := by decide +kernel
theorem de_M_goOn_36 : decode by_M_goOn 36 = .ok (.iload_n 1, 1) := by decide +kernel
theorem de_M_goOn_37 : decode by_M_goOn 37 = .ok (.imul, 1) := by decide +kernel
theorem de_M_goOn_38 : decode by_M_goOn 38 = .ok (.iload_n 2, 1) := by decide +kernel
theorem de_M_goOn_39 : decode by_M_goOn 39 = .ok (.iadd, 1) := by decide +kernel
theorem de_M_goOn_40 : decode by_M_goOn 40 = .ok (.iaload, 1) := by decide +kernel
theorem de_M_goOn_41 : decode by_M_goOn 41 = .ok (.iastore, 1) := by decide +kernel
theorem de_M_goOn_42 : decode by_M_goOn 42 = .ok (.iinc 2 1, 3) := by decide +kernel
theorem de_M_goOn_45 : decode by_M_goOn 45 = .ok (.goto (-43), 3) := by decide +kernel
theorem de_M_goOn_48 : decode by_M_goOn 48 = .ok (.aload_n 0, 1) := by decide +kernel
theorem de_M_goOn_49 : decode by_M_goOn 49 = .ok (.getfield 13, 3) := by decide +kernel
theorem de_M_goOn_52 : decode by_M_goOn 52 = .ok (.iload_n 1, 1) := by decide +kernel
theorem de_M_goOn_53 : decode by_M_goOn 53 = .ok (.iaload, 1) := by decide +kernel
theorem de_M_goOn_54 : decode by_M_goOn 54 = .ok (.istore_n 2, 1) := by decide +kernel
theorem de_M_goOn_55 : decode by_M_goOn 55 = .ok (.aload_n 0, 1) := by decide +kernel
theorem de_M_goOn_56 : decode by_M_goOn 56 = .ok (.getfield 7, 3) := by decide +kernel
theorem de_M_goOn_59 : decode by_M_goOn 59 = .ok (.iload_n 1, 1) := by decide +kernel
theorem de_M_goOn_60 : decode by_M_goOn 60 = .ok (.iaload, 1) := by decide +kernel
theorem de_M_goOn_61 : decode by_M_goOn 61 = .ok (.iconst 5, 1) := by decide +kernel
theorem de_M_goOn_62 : decode by_M_goOn 62 = .ok (.if_icmp .ne 17, 3) := by decide +kernel
theorem de_M_goOn_65 : decode by_M_goOn 65 = .ok (.aload_n 0, 1) := by decide +kernel
theorem de_M_goOn_66 : decode by_M_goOn 66 = .ok (.getfield 35, 3) := by decide +kernel
theorem de_M_goOn_69 : decode by_M_goOn 69 = .ok (.iload_n 2, 1) := by decide +kernel
theorem de_M_goOn_70 : decode by_M_goOn 70 = .ok (.iaload, 1) := by decide +kernel
theorem de_M_goOn_71 : decode by_M_goOn 71 = .ok (.iconst 1, 1) := by decide +kernel
theorem de_M_goOn_72 : decode by_M_goOn 72 = .ok (.if_icmp .ne 7, 3) := by decide +kernel
theorem de_M_goOn_75 : decode by_M_goOn 75 = .ok (.iconst 1, 1) := by decide +kernel
theorem de_M_goOn_76 : decode by_M_goOn 76 = .ok (.goto 4, 3) := by decide +kernel
theorem de_M_goOn_79 : decode by_M_goOn 79 = .ok (.iconst 0, 1) := by decide +kernel
theorem de_M_goOn_80 : decode by_M_goOn 80 = .ok (.istore_n 3, 1) := by decide +kernel
theorem de_M_goOn_81 : decode by_M_goOn 81 = .ok (.aload_n 0, 1) := by decide +kernel
theorem de_M_goOn_82 : decode by_M_goOn 82 = .ok (.getfield 7, 3) := by decide +kernel
theorem de_M_goOn_85 : decode by_M_goOn 85 = .ok (.iload_n 1, 1) := by decide +kernel
