/-! decode rows, by program -/
theorem de_A_init_0 : decode by_A_init 0 = .ok (.aload_n 0, 1) := by decide +kernel
theorem de_A_init_1 : decode by_A_init 1 = .ok (.invokespecial 3, 3) := by decide +kernel
theorem de_A_init_4 : decode by_A_init 4 = .ok (.aload_n 0, 1) := by decide +kernel
theorem de_A_init_5 : decode by_A_init 5 = .ok (.sipush 240, 3) := by decide +kernel
theorem de_A_init_8 : decode by_A_init 8 = .ok (.newarray .int, 2) := by decide +kernel
theorem de_A_init_10 : decode by_A_init 10 = .ok (.putfield 9, 3) := by decide +kernel
theorem de_A_init_13 : decode by_A_init 13 = .ok (.aload_n 0, 1) := by decide +kernel
theorem de_A_init_14 : decode by_A_init 14 = .ok (.sipush 240, 3) := by decide +kernel
theorem de_A_init_17 : decode by_A_init 17 = .ok (.newarray .int, 2) := by decide +kernel
theorem de_A_init_19 : decode by_A_init 19 = .ok (.putfield 15, 3) := by decide +kernel
theorem de_A_init_22 : decode by_A_init 22 = .ok (.aload_n 0, 1) := by decide +kernel
theorem de_A_init_23 : decode by_A_init 23 = .ok (.bipush 40, 2) := by decide +kernel
theorem de_A_init_25 : decode by_A_init 25 = .ok (.newarray .boolean, 2) := by decide +kernel
theorem de_A_init_27 : decode by_A_init 27 = .ok (.putfield 18, 3) := by decide +kernel
theorem de_A_init_30 : decode by_A_init 30 = .ok (.aload_n 0, 1) := by decide +kernel
theorem de_A_init_31 : decode by_A_init 31 = .ok (.bipush 6, 2) := by decide +kernel
theorem de_A_init_33 : decode by_A_init 33 = .ok (.newarray .int, 2) := by decide +kernel
theorem de_A_init_35 : decode by_A_init 35 = .ok (.putfield 22, 3) := by decide +kernel
theorem de_A_init_38 : decode by_A_init 38 = .ok (.aload_n 0, 1) := by decide +kernel
theorem de_A_init_39 : decode by_A_init 39 = .ok (.bipush 6, 2) := by decide +kernel
theorem de_A_init_41 : decode by_A_init 41 = .ok (.newarray .int, 2) := by decide +kernel
theorem de_A_init_43 : decode by_A_init 43 = .ok (.putfield 25, 3) := by decide +kernel
theorem de_A_init_46 : decode by_A_init 46 = .ok (.return_, 1) := by decide +kernel
theorem de_A_perform_0 : decode by_A_perform 0 = .ok (.aload_n 0, 1) := by decide +kernel
theorem de_A_perform_1 : decode by_A_perform 1 = .ok (.getfield 9, 3) := by decide +kernel
theorem de_A_perform_4 : decode by_A_perform 4 = .ok (.iconst 0, 1) := by decide +kernel
theorem de_A_perform_5 : decode by_A_perform 5 = .ok (.invokestatic 28, 3) := by decide +kernel
theorem de_A_perform_8 : decode by_A_perform 8 = .ok (.aload_n 0, 1) := by decide +kernel
theorem de_A_perform_9 : decode by_A_perform 9 = .ok (.getfield 15, 3) := by decide +kernel
theorem de_A_perform_12 : decode by_A_perform 12 = .ok (.iconst 0, 1) := by decide +kernel
theorem de_A_perform_13 : decode by_A_perform 13 = .ok (.invokestatic 28, 3) := by decide +kernel
theorem de_A_perform_16 : decode by_A_perform 16 = .ok (.aload_n 0, 1) := by decide +kernel
theorem de_A_perform_17 : decode by_A_perform 17 = .ok (.getfield 22, 3) := by decide +kernel
theorem de_A_perform_20 : decode by_A_perform 20 = .ok (.iconst 1, 1) := by decide +kernel
theorem de_A_perform_21 : decode by_A_perform 21 = .ok (.invokestatic 28, 3) := by decide +kernel
theorem de_A_perform_24 : decode by_A_perform 24 = .ok (.aload_n 0, 1) := by decide +kernel
theorem de_A_perform_25 : decode by_A_perform 25 = .ok (.getfield 25, 3) := by decide +kernel
theorem de_A_perform_28 : decode by_A_perform 28 = .ok (.iconst 0, 1) := by decide +kernel
theorem de_A_perform_29 : decode by_A_perform 29 = .ok (.invokestatic 28, 3) := by decide +kernel
theorem de_A_perform_32 : decode by_A_perform 32 = .ok (.aload_n 0, 1) := by decide +kernel
theorem de_A_perform_33 : decode by_A_perform 33 = .ok (.aload_n 1, 1) := by decide +kernel
theorem de_A_perform_34 : decode by_A_perform 34 = .ok (.iconst 0, 1) := by decide +kernel
theorem de_A_perform_35 : decode by_A_perform 35 = .ok (.invokevirtual 34, 3) := by decide +kernel
theorem de_A_perform_38 : decode by_A_perform 38 = .ok (.iconst 1, 1) := by decide +kernel
theorem de_A_perform_39 : decode by_A_perform 39 = .ok (.istore_n 2, 1) := by decide +kernel
theorem de_A_perform_40 : decode by_A_perform 40 = .ok (.iconst 0, 1) := by decide +kernel
theorem de_A_perform_41 : decode by_A_perform 41 = .ok (.istore_n 3, 1) := by decide +kernel
theorem de_A_perform_42 : decode by_A_perform 42 = .ok (.iload_n 2, 1) := by decide +kernel
theorem de_A_perform_43 : decode by_A_perform 43 = .ok (.ifCond .eq 63, 3) := by decide +kernel
theorem de_A_perform_46 : decode by_A_perform 46 = .ok (.iload_n 3, 1) := by decide +kernel
theorem de_A_perform_47 : decode by_A_perform 47 = .ok (.sipush 281, 3) := by decide +kernel
theorem de_A_perform_50 : decode by_A_perform 50 = .ok (.if_icmp .ge 56, 3) := by decide +kernel
theorem de_A_perform_53 : decode by_A_perform 53 = .ok (.iconst 0, 1) := by decide +kernel
theorem de_A_perform_54 : decode by_A_perform 54 = .ok (.istore_n 2, 1) := by decide +kernel
theorem de_A_perform_55 : decode by_A_perform 55 = .ok (.iconst 0, 1) := by decide +kernel
theorem de_A_perform_56 : decode by_A_perform 56 = .ok (.istore 4, 2) := by decide +kernel
theorem de_A_perform_58 : decode by_A_perform 58 = .ok (.iload 4, 2) := by decide +kernel
theorem de_A_perform_60 : decode by_A_perform 60 = .ok (.aload_n 1, 1) := by decide +kernel
theorem de_A_perform_61 : decode by_A_perform 61 = .ok (.getfield 38, 3) := by decide +kernel
theorem de_A_perform_64 : decode by_A_perform 64 = .ok (.if_icmp .ge 36, 3) := by decide +kernel
theorem de_A_perform_67 : decode by_A_perform 67 = .ok (.aload_n 0, 1) := by decide +kernel
theorem de_A_perform_68 : decode by_A_perform 68 = .ok (.getfield 18, 3) := by decide +kernel
theorem de_A_perform_71 : decode by_A_perform 71 = .ok (.iload 4, 2) := by decide +kernel
theorem de_A_perform_73 : decode by_A_perform 73 = .ok (.baload, 1) := by decide +kernel
theorem de_A_perform_74 : decode by_A_perform 74 = .ok (.ifCond .eq 20, 3) := by decide +kernel
theorem de_A_perform_77 : decode by_A_perform 77 = .ok (.aload_n 0, 1) := by decide +kernel
theorem de_A_perform_78 : decode by_A_perform 78 = .ok (.getfield 18, 3) := by decide +kernel
theorem de_A_perform_81 : decode by_A_perform 81 = .ok (.iload 4, 2) := by decide +kernel
theorem de_A_perform_83 : decode by_A_perform 83 = .ok (.iconst 0, 1) := by decide +kernel
theorem de_A_perform_84 : decode by_A_perform 84 = .ok (.bastore, 1) := by decide +kernel
theorem de_A_perform_85 : decode by_A_perform 85 = .ok (.iconst 1, 1) := by decide +kernel
theorem de_A_perform_86 : decode by_A_perform 86 = .ok (.istore_n 2, 1) := by decide +kernel
theorem de_A_perform_87 : decode by_A_perform 87 = .ok (.aload_n 0, 1) := by decide +kernel
theorem de_A_perform_88 : decode by_A_perform 88 = .ok (.aload_n 1, 1) := by decide +kernel
theorem de_A_perform_89 : decode by_A_perform 89 = .ok (.iload 4, 2) := by decide +kernel
theorem de_A_perform_91 : decode by_A_perform 91 = .ok (.invokevirtual 44, 3) := by decide +kernel
theorem de_A_perform_94 : decode by_A_perform 94 = .ok (.iinc 4 1, 3) := by decide +kernel
theorem de_A_perform_97 : decode by_A_perform 97 = .ok (.goto (-39), 3) := by decide +kernel
theorem de_A_perform_100 : decode by_A_perform 100 = .ok (.iinc 3 1, 3) := by decide +kernel
theorem de_A_perform_103 : decode by_A_perform 103 = .ok (.goto (-61), 3) := by decide +kernel
theorem de_A_perform_106 : decode by_A_perform 106 = .ok (.return_, 1) := by decide +kernel
theorem de_A_goOnFrom_0 : decode by_A_goOnFrom 0 = .ok (.aload_n 0, 1) := by decide +kernel
theorem de_A_goOnFrom_1 : decode by_A_goOnFrom 1 = .ok (.getfield 9, 3) := by decide +kernel
theorem de_A_goOnFrom_4 : decode by_A_goOnFrom 4 = .ok (.iload_n 2, 1) := by decide +kernel
theorem de_A_goOnFrom_5 : decode by_A_goOnFrom 5 = .ok (.iconst 0, 1) := by decide +kernel
theorem de_A_goOnFrom_6 : decode by_A_goOnFrom 6 = .ok (.invokestatic 47, 3) := by decide +kernel
theorem de_A_goOnFrom_9 : decode by_A_goOnFrom 9 = .ok (.aload_n 0, 1) := by decide +kernel
theorem de_A_goOnFrom_10 : decode by_A_goOnFrom 10 = .ok (.getfield 22, 3) := by decide +kernel
theorem de_A_goOnFrom_13 : decode by_A_goOnFrom 13 = .ok (.iconst 0, 1) := by decide +kernel
theorem de_A_goOnFrom_14 : decode by_A_goOnFrom 14 = .ok (.bipush 6, 2) := by decide +kernel
theorem de_A_goOnFrom_16 : decode by_A_goOnFrom 16 = .ok (.invokestatic 51, 3) := by decide +kernel
theorem de_A_goOnFrom_19 : decode by_A_goOnFrom 19 = .ok (.aload_n 0, 1) := by decide +kernel
theorem de_A_goOnFrom_20 : decode by_A_goOnFrom 20 = .ok (.getfield 15, 3) := by decide +kernel
theorem de_A_goOnFrom_23 : decode by_A_goOnFrom 23 = .ok (.iload_n 2, 1) := by decide +kernel
theorem de_A_goOnFrom_24 : decode by_A_goOnFrom 24 = .ok (.iconst 0, 1) := by decide +kernel
theorem de_A_goOnFrom_25 : decode by_A_goOnFrom 25 = .ok (.invokestatic 47, 3) := by decide +kernel
theorem de_A_goOnFrom_28 : decode by_A_goOnFrom 28 = .ok (.aload_n 0, 1) := by decide +kernel
theorem de_A_goOnFrom_29 : decode by_A_goOnFrom 29 = .ok (.getfield 25, 3) := by decide +kernel
theorem de_A_goOnFrom_32 : decode by_A_goOnFrom 32 = .ok (.iconst 0, 1) := by decide +kernel
theorem de_A_goOnFrom_33 : decode by_A_goOnFrom 33 = .ok (.bipush 6, 2) := by decide +kernel
theorem de_A_goOnFrom_35 : decode by_A_goOnFrom 35 = .ok (.invokestatic 51, 3) := by decide +kernel
theorem de_A_goOnFrom_38 : decode by_A_goOnFrom 38 = .ok (.aload_n 1, 1) := by decide +kernel
theorem de_A_goOnFrom_39 : decode by_A_goOnFrom 39 = .ok (.iload_n 2, 1) := by decide +kernel
theorem de_A_goOnFrom_40 : decode by_A_goOnFrom 40 = .ok (.invokevirtual 57, 3) := by decide +kernel
theorem de_A_goOnFrom_43 : decode by_A_goOnFrom 43 = .ok (.ifCond .eq 50, 3) := by decide +kernel
theorem de_A_goOnFrom_46 : decode by_A_goOnFrom 46 = .ok (.aload_n 0, 1) := by decide +kernel
theorem de_A_goOnFrom_47 : decode by_A_goOnFrom 47 = .ok (.aload_n 1, 1) := by decide +kernel
theorem de_A_goOnFrom_48 : decode by_A_goOnFrom 48 = .ok (.iload_n 2, 1) := by decide +kernel
theorem de_A_goOnFrom_49 : decode by_A_goOnFrom 49 = .ok (.invokevirtual 61, 3) := by decide +kernel
theorem de_A_goOnFrom_52 : decode by_A_goOnFrom 52 = .ok (.ifCond .eq 20, 3) := by decide +kernel
theorem de_A_goOnFrom_55 : decode by_A_goOnFrom 55 = .ok (.aload_n 0, 1) := by decide +kernel
theorem de_A_goOnFrom_56 : decode by_A_goOnFrom 56 = .ok (.aload_n 1, 1) := by decide +kernel
theorem de_A_goOnFrom_57 : decode by_A_goOnFrom 57 = .ok (.getfield 65, 3) := by decide +kernel
theorem de_A_goOnFrom_60 : decode by_A_goOnFrom 60 = .ok (.iload_n 2, 1) := by decide +kernel
theorem de_A_goOnFrom_61 : decode by_A_goOnFrom 61 = .ok (.iaload, 1) := by decide +kernel
theorem de_A_goOnFrom_62 : decode by_A_goOnFrom 62 = .ok (.aload_n 0, 1) := by decide +kernel
theorem de_A_goOnFrom_63 : decode by_A_goOnFrom 63 = .ok (.getfield 68, 3) := by decide +kernel
theorem de_A_goOnFrom_66 : decode by_A_goOnFrom 66 = .ok (.invokevirtual 71, 3) := by decide +kernel
theorem de_A_goOnFrom_69 : decode by_A_goOnFrom 69 = .ok (.goto 13, 3) := by decide +kernel
theorem de_A_goOnFrom_72 : decode by_A_goOnFrom 72 = .ok (.aload_n 0, 1) := by decide +kernel
theorem de_A_goOnFrom_73 : decode by_A_goOnFrom 73 = .ok (.aload_n 1, 1) := by decide +kernel
theorem de_A_goOnFrom_74 : decode by_A_goOnFrom 74 = .ok (.getfield 65, 3) := by decide +kernel
theorem de_A_goOnFrom_77 : decode by_A_goOnFrom 77 = .ok (.iload_n 2, 1) := by decide +kernel
theorem de_A_goOnFrom_78 : decode by_A_goOnFrom 78 = .ok (.iaload, 1) := by decide +kernel
theorem de_A_goOnFrom_79 : decode by_A_goOnFrom 79 = .ok (.invokevirtual 75, 3) := by decide +kernel
theorem de_A_goOnFrom_82 : decode by_A_goOnFrom 82 = .ok (.aload_n 0, 1) := by decide +kernel
theorem de_A_goOnFrom_83 : decode by_A_goOnFrom 83 = .ok (.aload_n 1, 1) := by decide +kernel
theorem de_A_goOnFrom_84 : decode by_A_goOnFrom 84 = .ok (.iload_n 2, 1) := by decide +kernel
theorem de_A_goOnFrom_85 : decode by_A_goOnFrom 85 = .ok (.iconst 1, 1) := by decide +kernel
theorem de_A_goOnFrom_86 : decode by_A_goOnFrom 86 = .ok (.iadd, 1) := by decide +kernel
theorem de_A_goOnFrom_87 : decode by_A_goOnFrom 87 = .ok (.invokevirtual 34, 3) := by decide +kernel
theorem de_A_goOnFrom_90 : decode by_A_goOnFrom 90 = .ok (.goto 43, 3) := by decide +kernel
theorem de_A_goOnFrom_93 : decode by_A_goOnFrom 93 = .ok (.aload_n 1, 1) := by decide +kernel
theorem de_A_goOnFrom_94 : decode by_A_goOnFrom 94 = .ok (.getfield 79, 3) := by decide +kernel
theorem de_A_goOnFrom_97 : decode by_A_goOnFrom 97 = .ok (.iload_n 2, 1) := by decide +kernel
theorem de_A_goOnFrom_98 : decode by_A_goOnFrom 98 = .ok (.iaload, 1) := by decide +kernel
theorem de_A_goOnFrom_99 : decode by_A_goOnFrom 99 = .ok (.bipush 6, 2) := by decide +kernel
theorem de_A_goOnFrom_101 : decode by_A_goOnFrom 101 = .ok (.if_icmp .ne 16, 3) := by decide +kernel
theorem de_A_goOnFrom_104 : decode by_A_goOnFrom 104 = .ok (.aload_n 0, 1) := by decide +kernel
theorem de_A_goOnFrom_105 : decode by_A_goOnFrom 105 = .ok (.aload_n 1, 1) := by decide +kernel
theorem de_A_goOnFrom_106 : decode by_A_goOnFrom 106 = .ok (.aload_n 1, 1) := by decide +kernel
theorem de_A_goOnFrom_107 : decode by_A_goOnFrom 107 = .ok (.iload_n 2, 1) := by decide +kernel
theorem de_A_goOnFrom_108 : decode by_A_goOnFrom 108 = .ok (.invokevirtual 82, 3) := by decide +kernel
theorem de_A_goOnFrom_111 : decode by_A_goOnFrom 111 = .ok (.invokevirtual 34, 3) := by decide +kernel
theorem de_A_goOnFrom_114 : decode by_A_goOnFrom 114 = .ok (.goto 19, 3) := by decide +kernel
theorem de_A_goOnFrom_117 : decode by_A_goOnFrom 117 = .ok (.aload_n 1, 1) := by decide +kernel
theorem de_A_goOnFrom_118 : decode by_A_goOnFrom 118 = .ok (.getfield 79, 3) := by decide +kernel
theorem de_A_goOnFrom_121 : decode by_A_goOnFrom 121 = .ok (.iload_n 2, 1) := by decide +kernel
theorem de_A_goOnFrom_122 : decode by_A_goOnFrom 122 = .ok (.iaload, 1) := by decide +kernel
theorem de_A_goOnFrom_123 : decode by_A_goOnFrom 123 = .ok (.iconst 5, 1) := by decide +kernel
theorem de_A_goOnFrom_124 : decode by_A_goOnFrom 124 = .ok (.if_icmp .ne 9, 3) := by decide +kernel
theorem de_A_goOnFrom_127 : decode by_A_goOnFrom 127 = .ok (.aload_n 0, 1) := by decide +kernel
theorem de_A_goOnFrom_128 : decode by_A_goOnFrom 128 = .ok (.aload_n 1, 1) := by decide +kernel
theorem de_A_goOnFrom_129 : decode by_A_goOnFrom 129 = .ok (.iload_n 2, 1) := by decide +kernel
theorem de_A_goOnFrom_130 : decode by_A_goOnFrom 130 = .ok (.invokevirtual 86, 3) := by decide +kernel
theorem de_A_goOnFrom_133 : decode by_A_goOnFrom 133 = .ok (.return_, 1) := by decide +kernel
theorem de_A_goOnFromZero_0 : decode by_A_goOnFromZero 0 = .ok (.aload_n 0, 1) := by decide +kernel
theorem de_A_goOnFromZero_1 : decode by_A_goOnFromZero 1 = .ok (.aload_n 1, 1) := by decide +kernel
theorem de_A_goOnFromZero_2 : decode by_A_goOnFromZero 2 = .ok (.iload_n 2, 1) := by decide +kernel
theorem de_A_goOnFromZero_3 : decode by_A_goOnFromZero 3 = .ok (.invokevirtual 89, 3) := by decide +kernel
theorem de_A_goOnFromZero_6 : decode by_A_goOnFromZero 6 = .ok (.ifCond .eq 17, 3) := by decide +kernel
theorem de_A_goOnFromZero_9 : decode by_A_goOnFromZero 9 = .ok (.aload_n 0, 1) := by decide +kernel
theorem de_A_goOnFromZero_10 : decode by_A_goOnFromZero 10 = .ok (.aload_n 1, 1) := by decide +kernel
theorem de_A_goOnFromZero_11 : decode by_A_goOnFromZero 11 = .ok (.aload_n 0, 1) := by decide +kernel
theorem de_A_goOnFromZero_12 : decode by_A_goOnFromZero 12 = .ok (.aload_n 1, 1) := by decide +kernel
theorem de_A_goOnFromZero_13 : decode by_A_goOnFromZero 13 = .ok (.iload_n 2, 1) := by decide +kernel
theorem de_A_goOnFromZero_14 : decode by_A_goOnFromZero 14 = .ok (.invokevirtual 92, 3) := by decide +kernel
theorem de_A_goOnFromZero_17 : decode by_A_goOnFromZero 17 = .ok (.invokevirtual 34, 3) := by decide +kernel
theorem de_A_goOnFromZero_20 : decode by_A_goOnFromZero 20 = .ok (.goto 32, 3) := by decide +kernel
theorem de_A_goOnFromZero_23 : decode by_A_goOnFromZero 23 = .ok (.aload_n 0, 1) := by decide +kernel
theorem de_A_goOnFromZero_24 : decode by_A_goOnFromZero 24 = .ok (.aload_n 1, 1) := by decide +kernel
theorem de_A_goOnFromZero_25 : decode by_A_goOnFromZero 25 = .ok (.iload_n 2, 1) := by decide +kernel
theorem de_A_goOnFromZero_26 : decode by_A_goOnFromZero 26 = .ok (.iconst 1, 1) := by decide +kernel
theorem de_A_goOnFromZero_27 : decode by_A_goOnFromZero 27 = .ok (.iadd, 1) := by decide +kernel
theorem de_A_goOnFromZero_28 : decode by_A_goOnFromZero 28 = .ok (.invokevirtual 34, 3) := by decide +kernel
theorem de_A_goOnFromZero_31 : decode by_A_goOnFromZero 31 = .ok (.aload_n 0, 1) := by decide +kernel
theorem de_A_goOnFromZero_32 : decode by_A_goOnFromZero 32 = .ok (.aload_n 1, 1) := by decide +kernel
theorem de_A_goOnFromZero_33 : decode by_A_goOnFromZero 33 = .ok (.getfield 65, 3) := by decide +kernel
theorem de_A_goOnFromZero_36 : decode by_A_goOnFromZero 36 = .ok (.iload_n 2, 1) := by decide +kernel
theorem de_A_goOnFromZero_37 : decode by_A_goOnFromZero 37 = .ok (.iaload, 1) := by decide +kernel
theorem de_A_goOnFromZero_38 : decode by_A_goOnFromZero 38 = .ok (.iconst 0, 1) := by decide +kernel
theorem de_A_goOnFromZero_39 : decode by_A_goOnFromZero 39 = .ok (.invokevirtual 71, 3) := by decide +kernel
theorem de_A_goOnFromZero_42 : decode by_A_goOnFromZero 42 = .ok (.aload_n 0, 1) := by decide +kernel
theorem de_A_goOnFromZero_43 : decode by_A_goOnFromZero 43 = .ok (.aload_n 1, 1) := by decide +kernel
theorem de_A_goOnFromZero_44 : decode by_A_goOnFromZero 44 = .ok (.aload_n 1, 1) := by decide +kernel
theorem de_A_goOnFromZero_45 : decode by_A_goOnFromZero 45 = .ok (.iload_n 2, 1) := by decide +kernel
theorem de_A_goOnFromZero_46 : decode by_A_goOnFromZero 46 = .ok (.invokevirtual 82, 3) := by decide +kernel
theorem de_A_goOnFromZero_49 : decode by_A_goOnFromZero 49 = .ok (.invokevirtual 34, 3) := by decide +kernel
theorem de_A_goOnFromZero_52 : decode by_A_goOnFromZero 52 = .ok (.return_, 1) := by decide +kernel
theorem de_A_comeTo_0 : decode by_A_comeTo 0 = .ok (.iload_n 2, 1) := by decide +kernel
theorem de_A_comeTo_1 : decode by_A_comeTo 1 = .ok (.aload_n 1, 1) := by decide +kernel
theorem de_A_comeTo_2 : decode by_A_comeTo 2 = .ok (.getfield 38, 3) := by decide +kernel
theorem de_A_comeTo_5 : decode by_A_comeTo 5 = .ok (.if_icmp .lt 4, 3) := by decide +kernel
theorem de_A_comeTo_8 : decode by_A_comeTo 8 = .ok (.return_, 1) := by decide +kernel
theorem de_A_comeTo_9 : decode by_A_comeTo 9 = .ok (.iconst 0, 1) := by decide +kernel
theorem de_A_comeTo_10 : decode by_A_comeTo 10 = .ok (.istore_n 3, 1) := by decide +kernel
theorem de_A_comeTo_11 : decode by_A_comeTo 11 = .ok (.iload_n 3, 1) := by decide +kernel
theorem de_A_comeTo_12 : decode by_A_comeTo 12 = .ok (.bipush 6, 2) := by decide +kernel
theorem de_A_comeTo_14 : decode by_A_comeTo 14 = .ok (.if_icmp .ge 111, 3) := by decide +kernel
theorem de_A_comeTo_17 : decode by_A_comeTo 17 = .ok (.iload_n 2, 1) := by decide +kernel
theorem de_A_comeTo_18 : decode by_A_comeTo 18 = .ok (.iload_n 3, 1) := by decide +kernel
theorem de_A_comeTo_19 : decode by_A_comeTo 19 = .ok (.invokestatic 47, 3) := by decide +kernel
theorem de_A_comeTo_22 : decode by_A_comeTo 22 = .ok (.istore 4, 2) := by decide +kernel
theorem de_A_comeTo_24 : decode by_A_comeTo 24 = .ok (.aload_n 0, 1) := by decide +kernel
theorem de_A_comeTo_25 : decode by_A_comeTo 25 = .ok (.getfield 9, 3) := by decide +kernel
theorem de_A_comeTo_28 : decode by_A_comeTo 28 = .ok (.iload 4, 2) := by decide +kernel
theorem de_A_comeTo_30 : decode by_A_comeTo 30 = .ok (.iaload, 1) := by decide +kernel
theorem de_A_comeTo_31 : decode by_A_comeTo 31 = .ok (.ifCond .ne 39, 3) := by decide +kernel
theorem de_A_comeTo_34 : decode by_A_comeTo 34 = .ok (.aload_n 0, 1) := by decide +kernel
theorem de_A_comeTo_35 : decode by_A_comeTo 35 = .ok (.getfield 9, 3) := by decide +kernel
theorem de_A_comeTo_38 : decode by_A_comeTo 38 = .ok (.iload 4, 2) := by decide +kernel
theorem de_A_comeTo_40 : decode by_A_comeTo 40 = .ok (.aload_n 0, 1) := by decide +kernel
theorem de_A_comeTo_41 : decode by_A_comeTo 41 = .ok (.getfield 22, 3) := by decide +kernel
theorem de_A_comeTo_44 : decode by_A_comeTo 44 = .ok (.iload_n 3, 1) := by decide +kernel
theorem de_A_comeTo_45 : decode by_A_comeTo 45 = .ok (.iaload, 1) := by decide +kernel
theorem de_A_comeTo_46 : decode by_A_comeTo 46 = .ok (.iastore, 1) := by decide +kernel
theorem de_A_comeTo_47 : decode by_A_comeTo 47 = .ok (.aload_n 0, 1) := by decide +kernel
theorem de_A_comeTo_48 : decode by_A_comeTo 48 = .ok (.getfield 15, 3) := by decide +kernel
theorem de_A_comeTo_51 : decode by_A_comeTo 51 = .ok (.iload 4, 2) := by decide +kernel
theorem de_A_comeTo_53 : decode by_A_comeTo 53 = .ok (.aload_n 0, 1) := by decide +kernel
theorem de_A_comeTo_54 : decode by_A_comeTo 54 = .ok (.getfield 25, 3) := by decide +kernel
theorem de_A_comeTo_57 : decode by_A_comeTo 57 = .ok (.iload_n 3, 1) := by decide +kernel
theorem de_A_comeTo_58 : decode by_A_comeTo 58 = .ok (.iaload, 1) := by decide +kernel
theorem de_A_comeTo_59 : decode by_A_comeTo 59 = .ok (.iastore, 1) := by decide +kernel
theorem de_A_comeTo_60 : decode by_A_comeTo 60 = .ok (.aload_n 0, 1) := by decide +kernel
theorem de_A_comeTo_61 : decode by_A_comeTo 61 = .ok (.getfield 18, 3) := by decide +kernel
theorem de_A_comeTo_64 : decode by_A_comeTo 64 = .ok (.iload_n 2, 1) := by decide +kernel
theorem de_A_comeTo_65 : decode by_A_comeTo 65 = .ok (.iconst 1, 1) := by decide +kernel
theorem de_A_comeTo_66 : decode by_A_comeTo 66 = .ok (.bastore, 1) := by decide +kernel
theorem de_A_comeTo_67 : decode by_A_comeTo 67 = .ok (.goto 52, 3) := by decide +kernel
theorem de_A_comeTo_70 : decode by_A_comeTo 70 = .ok (.aload_n 0, 1) := by decide +kernel
theorem de_A_comeTo_71 : decode by_A_comeTo 71 = .ok (.getfield 9, 3) := by decide +kernel
theorem de_A_comeTo_74 : decode by_A_comeTo 74 = .ok (.iload 4, 2) := by decide +kernel
theorem de_A_comeTo_76 : decode by_A_comeTo 76 = .ok (.iaload, 1) := by decide +kernel
theorem de_A_comeTo_77 : decode by_A_comeTo 77 = .ok (.iconst 2, 1) := by decide +kernel
theorem de_A_comeTo_78 : decode by_A_comeTo 78 = .ok (.if_icmp .ne 41, 3) := by decide +kernel
theorem de_A_comeTo_81 : decode by_A_comeTo 81 = .ok (.aload_n 0, 1) := by decide +kernel
theorem de_A_comeTo_82 : decode by_A_comeTo 82 = .ok (.iload_n 3, 1) := by decide +kernel
theorem de_A_comeTo_83 : decode by_A_comeTo 83 = .ok (.aload_n 0, 1) := by decide +kernel
theorem de_A_comeTo_84 : decode by_A_comeTo 84 = .ok (.getfield 15, 3) := by decide +kernel
theorem de_A_comeTo_87 : decode by_A_comeTo 87 = .ok (.iload 4, 2) := by decide +kernel
theorem de_A_comeTo_89 : decode by_A_comeTo 89 = .ok (.iaload, 1) := by decide +kernel
theorem de_A_comeTo_90 : decode by_A_comeTo 90 = .ok (.invokevirtual 96, 3) := by decide +kernel
theorem de_A_comeTo_93 : decode by_A_comeTo 93 = .ok (.ifCond .ne 26, 3) := by decide +kernel
theorem de_A_comeTo_96 : decode by_A_comeTo 96 = .ok (.aload_n 0, 1) := by decide +kernel
theorem de_A_comeTo_97 : decode by_A_comeTo 97 = .ok (.getfield 9, 3) := by decide +kernel
theorem de_A_comeTo_100 : decode by_A_comeTo 100 = .ok (.iload 4, 2) := by decide +kernel
theorem de_A_comeTo_102 : decode by_A_comeTo 102 = .ok (.iconst 1, 1) := by decide +kernel
theorem de_A_comeTo_103 : decode by_A_comeTo 103 = .ok (.iastore, 1) := by decide +kernel
theorem de_A_comeTo_104 : decode by_A_comeTo 104 = .ok (.aload_n 0, 1) := by decide +kernel
theorem de_A_comeTo_105 : decode by_A_comeTo 105 = .ok (.getfield 15, 3) := by decide +kernel
theorem de_A_comeTo_108 : decode by_A_comeTo 108 = .ok (.iload 4, 2) := by decide +kernel
theorem de_A_comeTo_110 : decode by_A_comeTo 110 = .ok (.iconst 0, 1) := by decide +kernel
theorem de_A_comeTo_111 : decode by_A_comeTo 111 = .ok (.iastore, 1) := by decide +kernel
theorem de_A_comeTo_112 : decode by_A_comeTo 112 = .ok (.aload_n 0, 1) := by decide +kernel
theorem de_A_comeTo_113 : decode by_A_comeTo 113 = .ok (.getfield 18, 3) := by decide +kernel
theorem de_A_comeTo_116 : decode by_A_comeTo 116 = .ok (.iload_n 2, 1) := by decide +kernel
theorem de_A_comeTo_117 : decode by_A_comeTo 117 = .ok (.iconst 1, 1) := by decide +kernel
theorem de_A_comeTo_118 : decode by_A_comeTo 118 = .ok (.bastore, 1) := by decide +kernel
theorem de_A_comeTo_119 : decode by_A_comeTo 119 = .ok (.iinc 3 1, 3) := by decide +kernel
theorem de_A_comeTo_122 : decode by_A_comeTo 122 = .ok (.goto (-111), 3) := by decide +kernel
theorem de_A_comeTo_125 : decode by_A_comeTo 125 = .ok (.return_, 1) := by decide +kernel
theorem de_A_isBehind_0 : decode by_A_isBehind 0 = .ok (.aload_n 0, 1) := by decide +kernel
theorem de_A_isBehind_1 : decode by_A_isBehind 1 = .ok (.getfield 22, 3) := by decide +kernel
theorem de_A_isBehind_4 : decode by_A_isBehind 4 = .ok (.iload_n 1, 1) := by decide +kernel
theorem de_A_isBehind_5 : decode by_A_isBehind 5 = .ok (.iaload, 1) := by decide +kernel
theorem de_A_isBehind_6 : decode by_A_isBehind 6 = .ok (.iconst 2, 1) := by decide +kernel
theorem de_A_isBehind_7 : decode by_A_isBehind 7 = .ok (.if_icmp .ne 17, 3) := by decide +kernel
theorem de_A_isBehind_10 : decode by_A_isBehind 10 = .ok (.aload_n 0, 1) := by decide +kernel
theorem de_A_isBehind_11 : decode by_A_isBehind 11 = .ok (.getfield 25, 3) := by decide +kernel
theorem de_A_isBehind_14 : decode by_A_isBehind 14 = .ok (.iload_n 1, 1) := by decide +kernel
theorem de_A_isBehind_15 : decode by_A_isBehind 15 = .ok (.iaload, 1) := by decide +kernel
theorem de_A_isBehind_16 : decode by_A_isBehind 16 = .ok (.iload_n 2, 1) := by decide +kernel
theorem de_A_isBehind_17 : decode by_A_isBehind 17 = .ok (.if_icmp .ne 7, 3) := by decide +kernel
theorem de_A_isBehind_20 : decode by_A_isBehind 20 = .ok (.iconst 1, 1) := by decide +kernel
theorem de_A_isBehind_21 : decode by_A_isBehind 21 = .ok (.goto 4, 3) := by decide +kernel
theorem de_A_isBehind_24 : decode by_A_isBehind 24 = .ok (.iconst 0, 1) := by decide +kernel
theorem de_A_isBehind_25 : decode by_A_isBehind 25 = .ok (.ireturn, 1) := by decide +kernel
theorem de_A_setConstantBehind_0 : decode by_A_setConstantBehind 0 = .ok (.aload_n 0, 1) := by decide +kernel
theorem de_A_setConstantBehind_1 : decode by_A_setConstantBehind 1 = .ok (.getfield 22, 3) := by decide +kernel
theorem de_A_setConstantBehind_4 : decode by_A_setConstantBehind 4 = .ok (.iload_n 1, 1) := by decide +kernel
theorem de_A_setConstantBehind_5 : decode by_A_setConstantBehind 5 = .ok (.iconst 2, 1) := by decide +kernel
theorem de_A_setConstantBehind_6 : decode by_A_setConstantBehind 6 = .ok (.iastore, 1) := by decide +kernel
theorem de_A_setConstantBehind_7 : decode by_A_setConstantBehind 7 = .ok (.aload_n 0, 1) := by decide +kernel
theorem de_A_setConstantBehind_8 : decode by_A_setConstantBehind 8 = .ok (.getfield 25, 3) := by decide +kernel
theorem de_A_setConstantBehind_11 : decode by_A_setConstantBehind 11 = .ok (.iload_n 1, 1) := by decide +kernel
theorem de_A_setConstantBehind_12 : decode by_A_setConstantBehind 12 = .ok (.iload_n 2, 1) := by decide +kernel
theorem de_A_setConstantBehind_13 : decode by_A_setConstantBehind 13 = .ok (.iastore, 1) := by decide +kernel
theorem de_A_setConstantBehind_14 : decode by_A_setConstantBehind 14 = .ok (.return_, 1) := by decide +kernel
theorem de_A_setVaryingBehind_0 : decode by_A_setVaryingBehind 0 = .ok (.aload_n 0, 1) := by decide +kernel
theorem de_A_setVaryingBehind_1 : decode by_A_setVaryingBehind 1 = .ok (.getfield 22, 3) := by decide +kernel
theorem de_A_setVaryingBehind_4 : decode by_A_setVaryingBehind 4 = .ok (.iload_n 1, 1) := by decide +kernel
theorem de_A_setVaryingBehind_5 : decode by_A_setVaryingBehind 5 = .ok (.iconst 1, 1) := by decide +kernel
theorem de_A_setVaryingBehind_6 : decode by_A_setVaryingBehind 6 = .ok (.iastore, 1) := by decide +kernel
theorem de_A_setVaryingBehind_7 : decode by_A_setVaryingBehind 7 = .ok (.aload_n 0, 1) := by decide +kernel
theorem de_A_setVaryingBehind_8 : decode by_A_setVaryingBehind 8 = .ok (.getfield 25, 3) := by decide +kernel
theorem de_A_setVaryingBehind_11 : decode by_A_setVaryingBehind 11 = .ok (.iload_n 1, 1) := by decide +kernel
theorem de_A_setVaryingBehind_12 : decode by_A_setVaryingBehind 12 = .ok (.iconst 0, 1) := by decide +kernel
theorem de_A_setVaryingBehind_13 : decode by_A_setVaryingBehind 13 = .ok (.iastore, 1) := by decide +kernel
theorem de_A_setVaryingBehind_14 : decode by_A_setVaryingBehind 14 = .ok (.return_, 1) := by decide +kernel
theorem de_A_hasConstantResult_0 : decode by_A_hasConstantResult 0 = .ok (.aload_n 1, 1) := by decide +kernel
theorem de_A_hasConstantResult_1 : decode by_A_hasConstantResult 1 = .ok (.getfield 79, 3) := by decide +kernel
theorem de_A_hasConstantResult_4 : decode by_A_hasConstantResult 4 = .ok (.iload_n 2, 1) := by decide +kernel
theorem de_A_hasConstantResult_5 : decode by_A_hasConstantResult 5 = .ok (.iaload, 1) := by decide +kernel
theorem de_A_hasConstantResult_6 : decode by_A_hasConstantResult 6 = .ok (.istore_n 3, 1) := by decide +kernel
theorem de_A_hasConstantResult_7 : decode by_A_hasConstantResult 7 = .ok (.iload_n 3, 1) := by decide +kernel
theorem de_A_hasConstantResult_8 : decode by_A_hasConstantResult 8 = .ok (.ifCond .ne 15, 3) := by decide +kernel
theorem de_A_hasConstantResult_11 : decode by_A_hasConstantResult 11 = .ok (.aload_n 0, 1) := by decide +kernel
theorem de_A_hasConstantResult_12 : decode by_A_hasConstantResult 12 = .ok (.aload_n 1, 1) := by decide +kernel
theorem de_A_hasConstantResult_13 : decode by_A_hasConstantResult 13 = .ok (.getfield 100, 3) := by decide +kernel
theorem de_A_hasConstantResult_16 : decode by_A_hasConstantResult 16 = .ok (.iload_n 2, 1) := by decide +kernel
theorem de_A_hasConstantResult_17 : decode by_A_hasConstantResult 17 = .ok (.iaload, 1) := by decide +kernel
theorem de_A_hasConstantResult_18 : decode by_A_hasConstantResult 18 = .ok (.putfield 68, 3) := by decide +kernel
theorem de_A_hasConstantResult_21 : decode by_A_hasConstantResult 21 = .ok (.iconst 1, 1) := by decide +kernel
theorem de_A_hasConstantResult_22 : decode by_A_hasConstantResult 22 = .ok (.ireturn, 1) := by decide +kernel
theorem de_A_hasConstantResult_23 : decode by_A_hasConstantResult 23 = .ok (.iload_n 2, 1) := by decide +kernel
theorem de_A_hasConstantResult_24 : decode by_A_hasConstantResult 24 = .ok (.aload_n 1, 1) := by decide +kernel
theorem de_A_hasConstantResult_25 : decode by_A_hasConstantResult 25 = .ok (.getfield 100, 3) := by decide +kernel
theorem de_A_hasConstantResult_28 : decode by_A_hasConstantResult 28 = .ok (.iload_n 2, 1) := by decide +kernel
theorem de_A_hasConstantResult_29 : decode by_A_hasConstantResult 29 = .ok (.iaload, 1) := by decide +kernel
theorem de_A_hasConstantResult_30 : decode by_A_hasConstantResult 30 = .ok (.invokestatic 47, 3) := by decide +kernel
theorem de_A_hasConstantResult_33 : decode by_A_hasConstantResult 33 = .ok (.istore 4, 2) := by decide +kernel
theorem de_A_hasConstantResult_35 : decode by_A_hasConstantResult 35 = .ok (.iload_n 3, 1) := by decide +kernel
theorem de_A_hasConstantResult_36 : decode by_A_hasConstantResult 36 = .ok (.iconst 1, 1) := by decide +kernel
theorem de_A_hasConstantResult_37 : decode by_A_hasConstantResult 37 = .ok (.if_icmp .ne 31, 3) := by decide +kernel
theorem de_A_hasConstantResult_40 : decode by_A_hasConstantResult 40 = .ok (.aload_n 0, 1) := by decide +kernel
theorem de_A_hasConstantResult_41 : decode by_A_hasConstantResult 41 = .ok (.aload_n 0, 1) := by decide +kernel
theorem de_A_hasConstantResult_42 : decode by_A_hasConstantResult 42 = .ok (.getfield 15, 3) := by decide +kernel
theorem de_A_hasConstantResult_45 : decode by_A_hasConstantResult 45 = .ok (.iload 4, 2) := by decide +kernel
theorem de_A_hasConstantResult_47 : decode by_A_hasConstantResult 47 = .ok (.iaload, 1) := by decide +kernel
theorem de_A_hasConstantResult_48 : decode by_A_hasConstantResult 48 = .ok (.putfield 68, 3) := by decide +kernel
theorem de_A_hasConstantResult_51 : decode by_A_hasConstantResult 51 = .ok (.aload_n 0, 1) := by decide +kernel
theorem de_A_hasConstantResult_52 : decode by_A_hasConstantResult 52 = .ok (.getfield 9, 3) := by decide +kernel
theorem de_A_hasConstantResult_55 : decode by_A_hasConstantResult 55 = .ok (.iload 4, 2) := by decide +kernel
theorem de_A_hasConstantResult_57 : decode by_A_hasConstantResult 57 = .ok (.iaload, 1) := by decide +kernel
theorem de_A_hasConstantResult_58 : decode by_A_hasConstantResult 58 = .ok (.iconst 2, 1) := by decide +kernel
theorem de_A_hasConstantResult_59 : decode by_A_hasConstantResult 59 = .ok (.if_icmp .ne 7, 3) := by decide +kernel
theorem de_A_hasConstantResult_62 : decode by_A_hasConstantResult 62 = .ok (.iconst 1, 1) := by decide +kernel
theorem de_A_hasConstantResult_63 : decode by_A_hasConstantResult 63 = .ok (.goto 4, 3) := by decide +kernel
theorem de_A_hasConstantResult_66 : decode by_A_hasConstantResult 66 = .ok (.iconst 0, 1) := by decide +kernel
theorem de_A_hasConstantResult_67 : decode by_A_hasConstantResult 67 = .ok (.ireturn, 1) := by decide +kernel
theorem de_A_hasConstantResult_68 : decode by_A_hasConstantResult 68 = .ok (.iload_n 2, 1) := by decide +kernel
theorem de_A_hasConstantResult_69 : decode by_A_hasConstantResult 69 = .ok (.aload_n 1, 1) := by decide +kernel
theorem de_A_hasConstantResult_70 : decode by_A_hasConstantResult 70 = .ok (.getfield 103, 3) := by decide +kernel
theorem de_A_hasConstantResult_73 : decode by_A_hasConstantResult 73 = .ok (.iload_n 2, 1) := by decide +kernel
theorem de_A_hasConstantResult_74 : decode by_A_hasConstantResult 74 = .ok (.iaload, 1) := by decide +kernel
theorem de_A_hasConstantResult_75 : decode by_A_hasConstantResult 75 = .ok (.invokestatic 47, 3) := by decide +kernel
theorem de_A_hasConstantResult_78 : decode by_A_hasConstantResult 78 = .ok (.istore 5, 2) := by decide +kernel
theorem de_A_hasConstantResult_80 : decode by_A_hasConstantResult 80 = .ok (.iload_n 3, 1) := by decide +kernel
theorem de_A_hasConstantResult_81 : decode by_A_hasConstantResult 81 = .ok (.iconst 4, 1) := by decide +kernel
theorem de_A_hasConstantResult_82 : decode by_A_hasConstantResult 82 = .ok (.if_icmp .ne 28, 3) := by decide +kernel
theorem de_A_hasConstantResult_85 : decode by_A_hasConstantResult 85 = .ok (.aload_n 0, 1) := by decide +kernel
theorem de_A_hasConstantResult_86 : decode by_A_hasConstantResult 86 = .ok (.iload 4, 2) := by decide +kernel
theorem de_A_hasConstantResult_88 : decode by_A_hasConstantResult 88 = .ok (.invokevirtual 106, 3) := by decide +kernel
theorem de_A_hasConstantResult_91 : decode by_A_hasConstantResult 91 = .ok (.ifCond .ne 12, 3) := by decide +kernel
theorem de_A_hasConstantResult_94 : decode by_A_hasConstantResult 94 = .ok (.aload_n 0, 1) := by decide +kernel
theorem de_A_hasConstantResult_95 : decode by_A_hasConstantResult 95 = .ok (.iload 5, 2) := by decide +kernel
theorem de_A_hasConstantResult_97 : decode by_A_hasConstantResult 97 = .ok (.invokevirtual 106, 3) := by decide +kernel
theorem de_A_hasConstantResult_100 : decode by_A_hasConstantResult 100 = .ok (.ifCond .eq 10, 3) := by decide +kernel
theorem de_A_hasConstantResult_103 : decode by_A_hasConstantResult 103 = .ok (.aload_n 0, 1) := by decide +kernel
theorem de_A_hasConstantResult_104 : decode by_A_hasConstantResult 104 = .ok (.iconst 0, 1) := by decide +kernel
theorem de_A_hasConstantResult_105 : decode by_A_hasConstantResult 105 = .ok (.putfield 68, 3) := by decide +kernel
theorem de_A_hasConstantResult_108 : decode by_A_hasConstantResult 108 = .ok (.iconst 1, 1) := by decide +kernel
theorem de_A_hasConstantResult_109 : decode by_A_hasConstantResult 109 = .ok (.ireturn, 1) := by decide +kernel
theorem de_A_hasConstantResult_110 : decode by_A_hasConstantResult 110 = .ok (.aload_n 0, 1) := by decide +kernel
theorem de_A_hasConstantResult_111 : decode by_A_hasConstantResult 111 = .ok (.iload_n 3, 1) := by decide +kernel
theorem de_A_hasConstantResult_112 : decode by_A_hasConstantResult 112 = .ok (.aload_n 0, 1) := by decide +kernel
theorem de_A_hasConstantResult_113 : decode by_A_hasConstantResult 113 = .ok (.getfield 15, 3) := by decide +kernel
theorem de_A_hasConstantResult_116 : decode by_A_hasConstantResult 116 = .ok (.iload 4, 2) := by decide +kernel
theorem de_A_hasConstantResult_118 : decode by_A_hasConstantResult 118 = .ok (.iaload, 1) := by decide +kernel
theorem de_A_hasConstantResult_119 : decode by_A_hasConstantResult 119 = .ok (.aload_n 0, 1) := by decide +kernel
theorem de_A_hasConstantResult_120 : decode by_A_hasConstantResult 120 = .ok (.getfield 15, 3) := by decide +kernel
theorem de_A_hasConstantResult_123 : decode by_A_hasConstantResult 123 = .ok (.iload 5, 2) := by decide +kernel
theorem de_A_hasConstantResult_125 : decode by_A_hasConstantResult 125 = .ok (.iaload, 1) := by decide +kernel
theorem de_A_hasConstantResult_126 : decode by_A_hasConstantResult 126 = .ok (.invokestatic 109, 3) := by decide +kernel
theorem de_A_hasConstantResult_129 : decode by_A_hasConstantResult 129 = .ok (.putfield 68, 3) := by decide +kernel
theorem de_A_hasConstantResult_132 : decode by_A_hasConstantResult 132 = .ok (.aload_n 0, 1) := by decide +kernel
theorem de_A_hasConstantResult_133 : decode by_A_hasConstantResult 133 = .ok (.getfield 9, 3) := by decide +kernel
theorem de_A_hasConstantResult_136 : decode by_A_hasConstantResult 136 = .ok (.iload 4, 2) := by decide +kernel
theorem de_A_hasConstantResult_138 : decode by_A_hasConstantResult 138 = .ok (.iaload, 1) := by decide +kernel
theorem de_A_hasConstantResult_139 : decode by_A_hasConstantResult 139 = .ok (.iconst 2, 1) := by decide +kernel
theorem de_A_hasConstantResult_140 : decode by_A_hasConstantResult 140 = .ok (.if_icmp .ne 18, 3) := by decide +kernel
theorem de_A_hasConstantResult_143 : decode by_A_hasConstantResult 143 = .ok (.aload_n 0, 1) := by decide +kernel
theorem de_A_hasConstantResult_144 : decode by_A_hasConstantResult 144 = .ok (.getfield 9, 3) := by decide +kernel
theorem de_A_hasConstantResult_147 : decode by_A_hasConstantResult 147 = .ok (.iload 5, 2) := by decide +kernel
theorem de_A_hasConstantResult_149 : decode by_A_hasConstantResult 149 = .ok (.iaload, 1) := by decide +kernel
theorem de_A_hasConstantResult_150 : decode by_A_hasConstantResult 150 = .ok (.iconst 2, 1) := by decide +kernel
theorem de_A_hasConstantResult_151 : decode by_A_hasConstantResult 151 = .ok (.if_icmp .ne 7, 3) := by decide +kernel
theorem de_A_hasConstantResult_154 : decode by_A_hasConstantResult 154 = .ok (.iconst 1, 1) := by decide +kernel
theorem de_A_hasConstantResult_155 : decode by_A_hasConstantResult 155 = .ok (.goto 4, 3) := by decide +kernel
theorem de_A_hasConstantResult_158 : decode by_A_hasConstantResult 158 = .ok (.iconst 0, 1) := by decide +kernel
theorem de_A_hasConstantResult_159 : decode by_A_hasConstantResult 159 = .ok (.ireturn, 1) := by decide +kernel
theorem de_A_isConstantZero_0 : decode by_A_isConstantZero 0 = .ok (.aload_n 0, 1) := by decide +kernel
theorem de_A_isConstantZero_1 : decode by_A_isConstantZero 1 = .ok (.getfield 9, 3) := by decide +kernel
theorem de_A_isConstantZero_4 : decode by_A_isConstantZero 4 = .ok (.iload_n 1, 1) := by decide +kernel
theorem de_A_isConstantZero_5 : decode by_A_isConstantZero 5 = .ok (.iaload, 1) := by decide +kernel
theorem de_A_isConstantZero_6 : decode by_A_isConstantZero 6 = .ok (.iconst 2, 1) := by decide +kernel
theorem de_A_isConstantZero_7 : decode by_A_isConstantZero 7 = .ok (.if_icmp .ne 16, 3) := by decide +kernel
theorem de_A_isConstantZero_10 : decode by_A_isConstantZero 10 = .ok (.aload_n 0, 1) := by decide +kernel
theorem de_A_isConstantZero_11 : decode by_A_isConstantZero 11 = .ok (.getfield 15, 3) := by decide +kernel
theorem de_A_isConstantZero_14 : decode by_A_isConstantZero 14 = .ok (.iload_n 1, 1) := by decide +kernel
theorem de_A_isConstantZero_15 : decode by_A_isConstantZero 15 = .ok (.iaload, 1) := by decide +kernel
theorem de_A_isConstantZero_16 : decode by_A_isConstantZero 16 = .ok (.ifCond .ne 7, 3) := by decide +kernel
theorem de_A_isConstantZero_19 : decode by_A_isConstantZero 19 = .ok (.iconst 1, 1) := by decide +kernel
theorem de_A_isConstantZero_20 : decode by_A_isConstantZero 20 = .ok (.goto 4, 3) := by decide +kernel
theorem de_A_isConstantZero_23 : decode by_A_isConstantZero 23 = .ok (.iconst 0, 1) := by decide +kernel
theorem de_A_isConstantZero_24 : decode by_A_isConstantZero 24 = .ok (.ireturn, 1) := by decide +kernel
theorem de_A_hasConstantTest_0 : decode by_A_hasConstantTest 0 = .ok (.aload_n 0, 1) := by decide +kernel
theorem de_A_hasConstantTest_1 : decode by_A_hasConstantTest 1 = .ok (.getfield 9, 3) := by decide +kernel
theorem de_A_hasConstantTest_4 : decode by_A_hasConstantTest 4 = .ok (.iload_n 2, 1) := by decide +kernel
theorem de_A_hasConstantTest_5 : decode by_A_hasConstantTest 5 = .ok (.aload_n 1, 1) := by decide +kernel
theorem de_A_hasConstantTest_6 : decode by_A_hasConstantTest 6 = .ok (.getfield 65, 3) := by decide +kernel
theorem de_A_hasConstantTest_9 : decode by_A_hasConstantTest 9 = .ok (.iload_n 2, 1) := by decide +kernel
theorem de_A_hasConstantTest_10 : decode by_A_hasConstantTest 10 = .ok (.iaload, 1) := by decide +kernel
theorem de_A_hasConstantTest_11 : decode by_A_hasConstantTest 11 = .ok (.invokestatic 47, 3) := by decide +kernel
theorem de_A_hasConstantTest_14 : decode by_A_hasConstantTest 14 = .ok (.iaload, 1) := by decide +kernel
theorem de_A_hasConstantTest_15 : decode by_A_hasConstantTest 15 = .ok (.iconst 2, 1) := by decide +kernel
theorem de_A_hasConstantTest_16 : decode by_A_hasConstantTest 16 = .ok (.if_icmp .ne 7, 3) := by decide +kernel
theorem de_A_hasConstantTest_19 : decode by_A_hasConstantTest 19 = .ok (.iconst 1, 1) := by decide +kernel
theorem de_A_hasConstantTest_20 : decode by_A_hasConstantTest 20 = .ok (.goto 4, 3) := by decide +kernel
theorem de_A_hasConstantTest_23 : decode by_A_hasConstantTest 23 = .ok (.iconst 0, 1) := by decide +kernel
theorem de_A_hasConstantTest_24 : decode by_A_hasConstantTest 24 = .ok (.ireturn, 1) := by decide +kernel
theorem de_A_wayOfConstantTest_0 : decode by_A_wayOfConstantTest 0 = .ok (.aload_n 0, 1) := by decide +kernel
theorem de_A_wayOfConstantTest_1 : decode by_A_wayOfConstantTest 1 = .ok (.getfield 15, 3) := by decide +kernel
theorem de_A_wayOfConstantTest_4 : decode by_A_wayOfConstantTest 4 = .ok (.iload_n 2, 1) := by decide +kernel
theorem de_A_wayOfConstantTest_5 : decode by_A_wayOfConstantTest 5 = .ok (.aload_n 1, 1) := by decide +kernel
theorem de_A_wayOfConstantTest_6 : decode by_A_wayOfConstantTest 6 = .ok (.getfield 65, 3) := by decide +kernel
theorem de_A_wayOfConstantTest_9 : decode by_A_wayOfConstantTest 9 = .ok (.iload_n 2, 1) := by decide +kernel
theorem de_A_wayOfConstantTest_10 : decode by_A_wayOfConstantTest 10 = .ok (.iaload, 1) := by decide +kernel
theorem de_A_wayOfConstantTest_11 : decode by_A_wayOfConstantTest 11 = .ok (.invokestatic 47, 3) := by decide +kernel
theorem de_A_wayOfConstantTest_14 : decode by_A_wayOfConstantTest 14 = .ok (.iaload, 1) := by decide +kernel
theorem de_A_wayOfConstantTest_15 : decode by_A_wayOfConstantTest 15 = .ok (.ifCond .ne 11, 3) := by decide +kernel
theorem de_A_wayOfConstantTest_18 : decode by_A_wayOfConstantTest 18 = .ok (.aload_n 1, 1) := by decide +kernel
theorem de_A_wayOfConstantTest_19 : decode by_A_wayOfConstantTest 19 = .ok (.iload_n 2, 1) := by decide +kernel
theorem de_A_wayOfConstantTest_20 : decode by_A_wayOfConstantTest 20 = .ok (.invokevirtual 82, 3) := by decide +kernel
theorem de_A_wayOfConstantTest_23 : decode by_A_wayOfConstantTest 23 = .ok (.goto 6, 3) := by decide +kernel
theorem de_A_wayOfConstantTest_26 : decode by_A_wayOfConstantTest 26 = .ok (.iload_n 2, 1) := by decide +kernel
theorem de_A_wayOfConstantTest_27 : decode by_A_wayOfConstantTest 27 = .ok (.iconst 1, 1) := by decide +kernel
theorem de_A_wayOfConstantTest_28 : decode by_A_wayOfConstantTest 28 = .ok (.iadd, 1) := by decide +kernel
theorem de_A_wayOfConstantTest_29 : decode by_A_wayOfConstantTest 29 = .ok (.ireturn, 1) := by decide +kernel
theorem de_A_isReached_0 : decode by_A_isReached 0 = .ok (.aload_n 0, 1) := by decide +kernel
theorem de_A_isReached_1 : decode by_A_isReached 1 = .ok (.getfield 9, 3) := by decide +kernel
theorem de_A_isReached_4 : decode by_A_isReached 4 = .ok (.iload_n 1, 1) := by decide +kernel
theorem de_A_isReached_5 : decode by_A_isReached 5 = .ok (.iconst 0, 1) := by decide +kernel
theorem de_A_isReached_6 : decode by_A_isReached 6 = .ok (.invokestatic 47, 3) := by decide +kernel
theorem de_A_isReached_9 : decode by_A_isReached 9 = .ok (.iaload, 1) := by decide +kernel
theorem de_A_isReached_10 : decode by_A_isReached 10 = .ok (.ifCond .eq 7, 3) := by decide +kernel
theorem de_A_isReached_13 : decode by_A_isReached 13 = .ok (.iconst 1, 1) := by decide +kernel
theorem de_A_isReached_14 : decode by_A_isReached 14 = .ok (.goto 4, 3) := by decide +kernel
theorem de_A_isReached_17 : decode by_A_isReached 17 = .ok (.iconst 0, 1) := by decide +kernel
theorem de_A_isReached_18 : decode by_A_isReached 18 = .ok (.ireturn, 1) := by decide +kernel
theorem de_A_countReached_0 : decode by_A_countReached 0 = .ok (.iconst 0, 1) := by decide +kernel
theorem de_A_countReached_1 : decode by_A_countReached 1 = .ok (.istore_n 2, 1) := by decide +kernel
theorem de_A_countReached_2 : decode by_A_countReached 2 = .ok (.iconst 0, 1) := by decide +kernel
theorem de_A_countReached_3 : decode by_A_countReached 3 = .ok (.istore_n 3, 1) := by decide +kernel
theorem de_A_countReached_4 : decode by_A_countReached 4 = .ok (.iload_n 3, 1) := by decide +kernel
theorem de_A_countReached_5 : decode by_A_countReached 5 = .ok (.aload_n 1, 1) := by decide +kernel
theorem de_A_countReached_6 : decode by_A_countReached 6 = .ok (.getfield 38, 3) := by decide +kernel
theorem de_A_countReached_9 : decode by_A_countReached 9 = .ok (.if_icmp .ge 20, 3) := by decide +kernel
theorem de_A_countReached_12 : decode by_A_countReached 12 = .ok (.aload_n 0, 1) := by decide +kernel
theorem de_A_countReached_13 : decode by_A_countReached 13 = .ok (.iload_n 3, 1) := by decide +kernel
theorem de_A_countReached_14 : decode by_A_countReached 14 = .ok (.invokevirtual 113, 3) := by decide +kernel
theorem de_A_countReached_17 : decode by_A_countReached 17 = .ok (.ifCond .eq 6, 3) := by decide +kernel
theorem de_A_countReached_20 : decode by_A_countReached 20 = .ok (.iinc 2 1, 3) := by decide +kernel
theorem de_A_countReached_23 : decode by_A_countReached 23 = .ok (.iinc 3 1, 3) := by decide +kernel
theorem de_A_countReached_26 : decode by_A_countReached 26 = .ok (.goto (-22), 3) := by decide +kernel
theorem de_A_countReached_29 : decode by_A_countReached 29 = .ok (.iload_n 2, 1) := by decide +kernel
theorem de_A_countReached_30 : decode by_A_countReached 30 = .ok (.ireturn, 1) := by decide +kernel
