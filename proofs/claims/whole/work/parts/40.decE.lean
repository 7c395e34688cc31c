/-! decode rows, by program -/
theorem de_E_init_0 : decode by_E_init 0 = .ok (.aload_n 0, 1) := by decide +kernel
theorem de_E_init_1 : decode by_E_init 1 = .ok (.invokespecial 3, 3) := by decide +kernel
theorem de_E_init_4 : decode by_E_init 4 = .ok (.aload_n 0, 1) := by decide +kernel
theorem de_E_init_5 : decode by_E_init 5 = .ok (.bipush 6, 2) := by decide +kernel
theorem de_E_init_7 : decode by_E_init 7 = .ok (.newarray .int, 2) := by decide +kernel
theorem de_E_init_9 : decode by_E_init 9 = .ok (.putfield 9, 3) := by decide +kernel
theorem de_E_init_12 : decode by_E_init 12 = .ok (.return_, 1) := by decide +kernel
theorem de_E_begin_0 : decode by_E_begin 0 = .ok (.aload_n 0, 1) := by decide +kernel
theorem de_E_begin_1 : decode by_E_begin 1 = .ok (.getfield 9, 3) := by decide +kernel
theorem de_E_begin_4 : decode by_E_begin 4 = .ok (.iconst 0, 1) := by decide +kernel
theorem de_E_begin_5 : decode by_E_begin 5 = .ok (.invokestatic 15, 3) := by decide +kernel
theorem de_E_begin_8 : decode by_E_begin 8 = .ok (.aload_n 0, 1) := by decide +kernel
theorem de_E_begin_9 : decode by_E_begin 9 = .ok (.getfield 9, 3) := by decide +kernel
theorem de_E_begin_12 : decode by_E_begin 12 = .ok (.iconst 0, 1) := by decide +kernel
theorem de_E_begin_13 : decode by_E_begin 13 = .ok (.iload_n 2, 1) := by decide +kernel
theorem de_E_begin_14 : decode by_E_begin 14 = .ok (.iastore, 1) := by decide +kernel
theorem de_E_begin_15 : decode by_E_begin 15 = .ok (.aload_n 0, 1) := by decide +kernel
theorem de_E_begin_16 : decode by_E_begin 16 = .ok (.getfield 9, 3) := by decide +kernel
theorem de_E_begin_19 : decode by_E_begin 19 = .ok (.iconst 1, 1) := by decide +kernel
theorem de_E_begin_20 : decode by_E_begin 20 = .ok (.iload_n 3, 1) := by decide +kernel
theorem de_E_begin_21 : decode by_E_begin 21 = .ok (.iastore, 1) := by decide +kernel
theorem de_E_begin_22 : decode by_E_begin 22 = .ok (.aload_n 0, 1) := by decide +kernel
theorem de_E_begin_23 : decode by_E_begin 23 = .ok (.getfield 9, 3) := by decide +kernel
theorem de_E_begin_26 : decode by_E_begin 26 = .ok (.iconst 2, 1) := by decide +kernel
theorem de_E_begin_27 : decode by_E_begin 27 = .ok (.iload 4, 2) := by decide +kernel
theorem de_E_begin_29 : decode by_E_begin 29 = .ok (.iastore, 1) := by decide +kernel
theorem de_E_begin_30 : decode by_E_begin 30 = .ok (.aload_n 0, 1) := by decide +kernel
theorem de_E_begin_31 : decode by_E_begin 31 = .ok (.getfield 9, 3) := by decide +kernel
theorem de_E_begin_34 : decode by_E_begin 34 = .ok (.iconst 3, 1) := by decide +kernel
theorem de_E_begin_35 : decode by_E_begin 35 = .ok (.iload 5, 2) := by decide +kernel
theorem de_E_begin_37 : decode by_E_begin 37 = .ok (.iastore, 1) := by decide +kernel
theorem de_E_begin_38 : decode by_E_begin 38 = .ok (.aload_n 0, 1) := by decide +kernel
theorem de_E_begin_39 : decode by_E_begin 39 = .ok (.iconst 0, 1) := by decide +kernel
theorem de_E_begin_40 : decode by_E_begin 40 = .ok (.putfield 21, 3) := by decide +kernel
theorem de_E_begin_43 : decode by_E_begin 43 = .ok (.aload_n 0, 1) := by decide +kernel
theorem de_E_begin_44 : decode by_E_begin 44 = .ok (.iconst 1, 1) := by decide +kernel
theorem de_E_begin_45 : decode by_E_begin 45 = .ok (.putfield 25, 3) := by decide +kernel
theorem de_E_begin_48 : decode by_E_begin 48 = .ok (.aload_n 0, 1) := by decide +kernel
theorem de_E_begin_49 : decode by_E_begin 49 = .ok (.aload_n 1, 1) := by decide +kernel
theorem de_E_begin_50 : decode by_E_begin 50 = .ok (.iconst 0, 1) := by decide +kernel
theorem de_E_begin_51 : decode by_E_begin 51 = .ok (.invokevirtual 29, 3) := by decide +kernel
theorem de_E_begin_54 : decode by_E_begin 54 = .ok (.return_, 1) := by decide +kernel
theorem de_E_advance_0 : decode by_E_advance 0 = .ok (.iconst 0, 1) := by decide +kernel
theorem de_E_advance_1 : decode by_E_advance 1 = .ok (.istore_n 3, 1) := by decide +kernel
theorem de_E_advance_2 : decode by_E_advance 2 = .ok (.iload_n 3, 1) := by decide +kernel
theorem de_E_advance_3 : decode by_E_advance 3 = .ok (.iload_n 2, 1) := by decide +kernel
theorem de_E_advance_4 : decode by_E_advance 4 = .ok (.if_icmp .ge 26, 3) := by decide +kernel
theorem de_E_advance_7 : decode by_E_advance 7 = .ok (.aload_n 0, 1) := by decide +kernel
theorem de_E_advance_8 : decode by_E_advance 8 = .ok (.getfield 33, 3) := by decide +kernel
theorem de_E_advance_11 : decode by_E_advance 11 = .ok (.iconst (-1), 1) := by decide +kernel
theorem de_E_advance_12 : decode by_E_advance 12 = .ok (.if_icmp .eq 18, 3) := by decide +kernel
theorem de_E_advance_15 : decode by_E_advance 15 = .ok (.aload_n 0, 1) := by decide +kernel
theorem de_E_advance_16 : decode by_E_advance 16 = .ok (.aload_n 1, 1) := by decide +kernel
theorem de_E_advance_17 : decode by_E_advance 17 = .ok (.aload_n 0, 1) := by decide +kernel
theorem de_E_advance_18 : decode by_E_advance 18 = .ok (.getfield 33, 3) := by decide +kernel
theorem de_E_advance_21 : decode by_E_advance 21 = .ok (.invokevirtual 36, 3) := by decide +kernel
theorem de_E_advance_24 : decode by_E_advance 24 = .ok (.iinc 3 1, 3) := by decide +kernel
theorem de_E_advance_27 : decode by_E_advance 27 = .ok (.goto (-25), 3) := by decide +kernel
theorem de_E_advance_30 : decode by_E_advance 30 = .ok (.aload_n 0, 1) := by decide +kernel
theorem de_E_advance_31 : decode by_E_advance 31 = .ok (.dup, 1) := by decide +kernel
theorem de_E_advance_32 : decode by_E_advance 32 = .ok (.getfield 21, 3) := by decide +kernel
theorem de_E_advance_35 : decode by_E_advance 35 = .ok (.iload_n 3, 1) := by decide +kernel
theorem de_E_advance_36 : decode by_E_advance 36 = .ok (.iadd, 1) := by decide +kernel
theorem de_E_advance_37 : decode by_E_advance 37 = .ok (.putfield 21, 3) := by decide +kernel
theorem de_E_advance_40 : decode by_E_advance 40 = .ok (.iload_n 3, 1) := by decide +kernel
theorem de_E_advance_41 : decode by_E_advance 41 = .ok (.ireturn, 1) := by decide +kernel
theorem de_E_step_0 : decode by_E_step 0 = .ok (.aload_n 1, 1) := by decide +kernel
theorem de_E_step_1 : decode by_E_step 1 = .ok (.getfield 39, 3) := by decide +kernel
theorem de_E_step_4 : decode by_E_step 4 = .ok (.iload_n 2, 1) := by decide +kernel
theorem de_E_step_5 : decode by_E_step 5 = .ok (.iaload, 1) := by decide +kernel
theorem de_E_step_6 : decode by_E_step 6 = .ok (.tableswitch 84 5 7 #[51, 38, 26], 26) := by decide +kernel
theorem de_E_step_32 : decode by_E_step 32 = .ok (.aload_n 0, 1) := by decide +kernel
theorem de_E_step_33 : decode by_E_step 33 = .ok (.aload_n 1, 1) := by decide +kernel
theorem de_E_step_34 : decode by_E_step 34 = .ok (.aload_n 1, 1) := by decide +kernel
theorem de_E_step_35 : decode by_E_step 35 = .ok (.getfield 44, 3) := by decide +kernel
theorem de_E_step_38 : decode by_E_step 38 = .ok (.invokevirtual 29, 3) := by decide +kernel
theorem de_E_step_41 : decode by_E_step 41 = .ok (.goto 74, 3) := by decide +kernel
theorem de_E_step_44 : decode by_E_step 44 = .ok (.aload_n 0, 1) := by decide +kernel
theorem de_E_step_45 : decode by_E_step 45 = .ok (.aload_n 1, 1) := by decide +kernel
theorem de_E_step_46 : decode by_E_step 46 = .ok (.aload_n 1, 1) := by decide +kernel
theorem de_E_step_47 : decode by_E_step 47 = .ok (.iload_n 2, 1) := by decide +kernel
theorem de_E_step_48 : decode by_E_step 48 = .ok (.invokevirtual 47, 3) := by decide +kernel
theorem de_E_step_51 : decode by_E_step 51 = .ok (.invokevirtual 29, 3) := by decide +kernel
theorem de_E_step_54 : decode by_E_step 54 = .ok (.goto 61, 3) := by decide +kernel
theorem de_E_step_57 : decode by_E_step 57 = .ok (.aload_n 0, 1) := by decide +kernel
theorem de_E_step_58 : decode by_E_step 58 = .ok (.aload_n 1, 1) := by decide +kernel
theorem de_E_step_59 : decode by_E_step 59 = .ok (.aload_n 0, 1) := by decide +kernel
theorem de_E_step_60 : decode by_E_step 60 = .ok (.getfield 9, 3) := by decide +kernel
theorem de_E_step_63 : decode by_E_step 63 = .ok (.aload_n 1, 1) := by decide +kernel
theorem de_E_step_64 : decode by_E_step 64 = .ok (.getfield 51, 3) := by decide +kernel
theorem de_E_step_67 : decode by_E_step 67 = .ok (.iload_n 2, 1) := by decide +kernel
theorem de_E_step_68 : decode by_E_step 68 = .ok (.iaload, 1) := by decide +kernel
theorem de_E_step_69 : decode by_E_step 69 = .ok (.iaload, 1) := by decide +kernel
theorem de_E_step_70 : decode by_E_step 70 = .ok (.ifCond .ne 11, 3) := by decide +kernel
theorem de_E_step_73 : decode by_E_step 73 = .ok (.aload_n 1, 1) := by decide +kernel
theorem de_E_step_74 : decode by_E_step 74 = .ok (.iload_n 2, 1) := by decide +kernel
theorem de_E_step_75 : decode by_E_step 75 = .ok (.invokevirtual 47, 3) := by decide +kernel
theorem de_E_step_78 : decode by_E_step 78 = .ok (.goto 6, 3) := by decide +kernel
theorem de_E_step_81 : decode by_E_step 81 = .ok (.iload_n 2, 1) := by decide +kernel
theorem de_E_step_82 : decode by_E_step 82 = .ok (.iconst 1, 1) := by decide +kernel
theorem de_E_step_83 : decode by_E_step 83 = .ok (.iadd, 1) := by decide +kernel
theorem de_E_step_84 : decode by_E_step 84 = .ok (.invokevirtual 29, 3) := by decide +kernel
theorem de_E_step_87 : decode by_E_step 87 = .ok (.goto 28, 3) := by decide +kernel
theorem de_E_step_90 : decode by_E_step 90 = .ok (.aload_n 0, 1) := by decide +kernel
theorem de_E_step_91 : decode by_E_step 91 = .ok (.getfield 9, 3) := by decide +kernel
theorem de_E_step_94 : decode by_E_step 94 = .ok (.aload_n 1, 1) := by decide +kernel
theorem de_E_step_95 : decode by_E_step 95 = .ok (.getfield 51, 3) := by decide +kernel
theorem de_E_step_98 : decode by_E_step 98 = .ok (.iload_n 2, 1) := by decide +kernel
theorem de_E_step_99 : decode by_E_step 99 = .ok (.iaload, 1) := by decide +kernel
theorem de_E_step_100 : decode by_E_step 100 = .ok (.aload_n 0, 1) := by decide +kernel
theorem de_E_step_101 : decode by_E_step 101 = .ok (.aload_n 1, 1) := by decide +kernel
theorem de_E_step_102 : decode by_E_step 102 = .ok (.iload_n 2, 1) := by decide +kernel
theorem de_E_step_103 : decode by_E_step 103 = .ok (.invokevirtual 54, 3) := by decide +kernel
theorem de_E_step_106 : decode by_E_step 106 = .ok (.iastore, 1) := by decide +kernel
theorem de_E_step_107 : decode by_E_step 107 = .ok (.aload_n 0, 1) := by decide +kernel
theorem de_E_step_108 : decode by_E_step 108 = .ok (.aload_n 1, 1) := by decide +kernel
theorem de_E_step_109 : decode by_E_step 109 = .ok (.iload_n 2, 1) := by decide +kernel
theorem de_E_step_110 : decode by_E_step 110 = .ok (.iconst 1, 1) := by decide +kernel
theorem de_E_step_111 : decode by_E_step 111 = .ok (.iadd, 1) := by decide +kernel
theorem de_E_step_112 : decode by_E_step 112 = .ok (.invokevirtual 29, 3) := by decide +kernel
theorem de_E_step_115 : decode by_E_step 115 = .ok (.return_, 1) := by decide +kernel
theorem de_E_assigned_0 : decode by_E_assigned 0 = .ok (.aload_n 1, 1) := by decide +kernel
theorem de_E_assigned_1 : decode by_E_assigned 1 = .ok (.getfield 39, 3) := by decide +kernel
theorem de_E_assigned_4 : decode by_E_assigned 4 = .ok (.iload_n 2, 1) := by decide +kernel
theorem de_E_assigned_5 : decode by_E_assigned 5 = .ok (.iaload, 1) := by decide +kernel
theorem de_E_assigned_6 : decode by_E_assigned 6 = .ok (.istore_n 3, 1) := by decide +kernel
theorem de_E_assigned_7 : decode by_E_assigned 7 = .ok (.iload_n 3, 1) := by decide +kernel
theorem de_E_assigned_8 : decode by_E_assigned 8 = .ok (.ifCond .ne 10, 3) := by decide +kernel
theorem de_E_assigned_11 : decode by_E_assigned 11 = .ok (.aload_n 1, 1) := by decide +kernel
theorem de_E_assigned_12 : decode by_E_assigned 12 = .ok (.getfield 58, 3) := by decide +kernel
theorem de_E_assigned_15 : decode by_E_assigned 15 = .ok (.iload_n 2, 1) := by decide +kernel
theorem de_E_assigned_16 : decode by_E_assigned 16 = .ok (.iaload, 1) := by decide +kernel
theorem de_E_assigned_17 : decode by_E_assigned 17 = .ok (.ireturn, 1) := by decide +kernel
theorem de_E_assigned_18 : decode by_E_assigned 18 = .ok (.iload_n 3, 1) := by decide +kernel
theorem de_E_assigned_19 : decode by_E_assigned 19 = .ok (.iconst 1, 1) := by decide +kernel
theorem de_E_assigned_20 : decode by_E_assigned 20 = .ok (.if_icmp .ne 15, 3) := by decide +kernel
theorem de_E_assigned_23 : decode by_E_assigned 23 = .ok (.aload_n 0, 1) := by decide +kernel
theorem de_E_assigned_24 : decode by_E_assigned 24 = .ok (.getfield 9, 3) := by decide +kernel
theorem de_E_assigned_27 : decode by_E_assigned 27 = .ok (.aload_n 1, 1) := by decide +kernel
theorem de_E_assigned_28 : decode by_E_assigned 28 = .ok (.getfield 58, 3) := by decide +kernel
theorem de_E_assigned_31 : decode by_E_assigned 31 = .ok (.iload_n 2, 1) := by decide +kernel
theorem de_E_assigned_32 : decode by_E_assigned 32 = .ok (.iaload, 1) := by decide +kernel
theorem de_E_assigned_33 : decode by_E_assigned 33 = .ok (.iaload, 1) := by decide +kernel
theorem de_E_assigned_34 : decode by_E_assigned 34 = .ok (.ireturn, 1) := by decide +kernel
theorem de_E_assigned_35 : decode by_E_assigned 35 = .ok (.iload_n 3, 1) := by decide +kernel
theorem de_E_assigned_36 : decode by_E_assigned 36 = .ok (.aload_n 0, 1) := by decide +kernel
theorem de_E_assigned_37 : decode by_E_assigned 37 = .ok (.getfield 9, 3) := by decide +kernel
theorem de_E_assigned_40 : decode by_E_assigned 40 = .ok (.aload_n 1, 1) := by decide +kernel
theorem de_E_assigned_41 : decode by_E_assigned 41 = .ok (.getfield 58, 3) := by decide +kernel
theorem de_E_assigned_44 : decode by_E_assigned 44 = .ok (.iload_n 2, 1) := by decide +kernel
theorem de_E_assigned_45 : decode by_E_assigned 45 = .ok (.iaload, 1) := by decide +kernel
theorem de_E_assigned_46 : decode by_E_assigned 46 = .ok (.iaload, 1) := by decide +kernel
theorem de_E_assigned_47 : decode by_E_assigned 47 = .ok (.aload_n 0, 1) := by decide +kernel
theorem de_E_assigned_48 : decode by_E_assigned 48 = .ok (.getfield 9, 3) := by decide +kernel
theorem de_E_assigned_51 : decode by_E_assigned 51 = .ok (.aload_n 1, 1) := by decide +kernel
theorem de_E_assigned_52 : decode by_E_assigned 52 = .ok (.getfield 61, 3) := by decide +kernel
theorem de_E_assigned_55 : decode by_E_assigned 55 = .ok (.iload_n 2, 1) := by decide +kernel
theorem de_E_assigned_56 : decode by_E_assigned 56 = .ok (.iaload, 1) := by decide +kernel
theorem de_E_assigned_57 : decode by_E_assigned 57 = .ok (.iaload, 1) := by decide +kernel
theorem de_E_assigned_58 : decode by_E_assigned 58 = .ok (.invokestatic 64, 3) := by decide +kernel
theorem de_E_assigned_61 : decode by_E_assigned 61 = .ok (.ireturn, 1) := by decide +kernel
theorem de_E_goTo_0 : decode by_E_goTo 0 = .ok (.aload_n 0, 1) := by decide +kernel
theorem de_E_goTo_1 : decode by_E_goTo 1 = .ok (.iload_n 2, 1) := by decide +kernel
theorem de_E_goTo_2 : decode by_E_goTo 2 = .ok (.aload_n 1, 1) := by decide +kernel
theorem de_E_goTo_3 : decode by_E_goTo 3 = .ok (.getfield 44, 3) := by decide +kernel
theorem de_E_goTo_6 : decode by_E_goTo 6 = .ok (.if_icmp .ge 7, 3) := by decide +kernel
theorem de_E_goTo_9 : decode by_E_goTo 9 = .ok (.iload_n 2, 1) := by decide +kernel
theorem de_E_goTo_10 : decode by_E_goTo 10 = .ok (.goto 4, 3) := by decide +kernel
theorem de_E_goTo_13 : decode by_E_goTo 13 = .ok (.iconst (-1), 1) := by decide +kernel
theorem de_E_goTo_14 : decode by_E_goTo 14 = .ok (.putfield 33, 3) := by decide +kernel
theorem de_E_goTo_17 : decode by_E_goTo 17 = .ok (.return_, 1) := by decide +kernel
