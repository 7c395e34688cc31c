/-! decode rows, by program -/
theorem de_B_init_0 : decode by_B_init 0 = .ok (.aload_n 0, 1) := by decide +kernel
theorem de_B_init_1 : decode by_B_init 1 = .ok (.invokespecial 1, 3) := by decide +kernel
theorem de_B_init_4 : decode by_B_init 4 = .ok (.aload_n 0, 1) := by decide +kernel
theorem de_B_init_5 : decode by_B_init 5 = .ok (.new 7, 3) := by decide +kernel
theorem de_B_init_8 : decode by_B_init 8 = .ok (.dup, 1) := by decide +kernel
theorem de_B_init_9 : decode by_B_init 9 = .ok (.invokespecial 9, 3) := by decide +kernel
theorem de_B_init_12 : decode by_B_init 12 = .ok (.putfield 10, 3) := by decide +kernel
theorem de_B_init_15 : decode by_B_init 15 = .ok (.aload_n 0, 1) := by decide +kernel
theorem de_B_init_16 : decode by_B_init 16 = .ok (.new 7, 3) := by decide +kernel
theorem de_B_init_19 : decode by_B_init 19 = .ok (.dup, 1) := by decide +kernel
theorem de_B_init_20 : decode by_B_init 20 = .ok (.invokespecial 9, 3) := by decide +kernel
theorem de_B_init_23 : decode by_B_init 23 = .ok (.putfield 16, 3) := by decide +kernel
theorem de_B_init_26 : decode by_B_init 26 = .ok (.aload_n 0, 1) := by decide +kernel
theorem de_B_init_27 : decode by_B_init 27 = .ok (.new 19, 3) := by decide +kernel
theorem de_B_init_30 : decode by_B_init 30 = .ok (.dup, 1) := by decide +kernel
theorem de_B_init_31 : decode by_B_init 31 = .ok (.invokespecial 21, 3) := by decide +kernel
theorem de_B_init_34 : decode by_B_init 34 = .ok (.putfield 22, 3) := by decide +kernel
theorem de_B_init_37 : decode by_B_init 37 = .ok (.aload_n 0, 1) := by decide +kernel
theorem de_B_init_38 : decode by_B_init 38 = .ok (.new 26, 3) := by decide +kernel
theorem de_B_init_41 : decode by_B_init 41 = .ok (.dup, 1) := by decide +kernel
theorem de_B_init_42 : decode by_B_init 42 = .ok (.invokespecial 28, 3) := by decide +kernel
theorem de_B_init_45 : decode by_B_init 45 = .ok (.putfield 29, 3) := by decide +kernel
theorem de_B_init_48 : decode by_B_init 48 = .ok (.aload_n 0, 1) := by decide +kernel
theorem de_B_init_49 : decode by_B_init 49 = .ok (.new 33, 3) := by decide +kernel
theorem de_B_init_52 : decode by_B_init 52 = .ok (.dup, 1) := by decide +kernel
theorem de_B_init_53 : decode by_B_init 53 = .ok (.invokespecial 35, 3) := by decide +kernel
theorem de_B_init_56 : decode by_B_init 56 = .ok (.putfield 36, 3) := by decide +kernel
theorem de_B_init_59 : decode by_B_init 59 = .ok (.aload_n 0, 1) := by decide +kernel
theorem de_B_init_60 : decode by_B_init 60 = .ok (.new 33, 3) := by decide +kernel
theorem de_B_init_63 : decode by_B_init 63 = .ok (.dup, 1) := by decide +kernel
theorem de_B_init_64 : decode by_B_init 64 = .ok (.invokespecial 35, 3) := by decide +kernel
theorem de_B_init_67 : decode by_B_init 67 = .ok (.putfield 40, 3) := by decide +kernel
theorem de_B_init_70 : decode by_B_init 70 = .ok (.return_, 1) := by decide +kernel
theorem de_B_add_0 : decode by_B_add 0 = .ok (.aload_n 0, 1) := by decide +kernel
theorem de_B_add_1 : decode by_B_add 1 = .ok (.iload_n 1, 1) := by decide +kernel
theorem de_B_add_2 : decode by_B_add 2 = .ok (.iload_n 2, 1) := by decide +kernel
theorem de_B_add_3 : decode by_B_add 3 = .ok (.iload_n 3, 1) := by decide +kernel
theorem de_B_add_4 : decode by_B_add 4 = .ok (.iload 4, 2) := by decide +kernel
theorem de_B_add_6 : decode by_B_add 6 = .ok (.invokevirtual 43, 3) := by decide +kernel
theorem de_B_add_9 : decode by_B_add 9 = .ok (.aload_n 0, 1) := by decide +kernel
theorem de_B_add_10 : decode by_B_add 10 = .ok (.getfield 10, 3) := by decide +kernel
theorem de_B_add_13 : decode by_B_add 13 = .ok (.getfield 47, 3) := by decide +kernel
theorem de_B_add_16 : decode by_B_add 16 = .ok (.bipush 40, 2) := by decide +kernel
theorem de_B_add_18 : decode by_B_add 18 = .ok (.if_icmp .lt 13, 3) := by decide +kernel
theorem de_B_add_21 : decode by_B_add 21 = .ok (.new 51, 3) := by decide +kernel
theorem de_B_add_24 : decode by_B_add 24 = .ok (.dup, 1) := by decide +kernel
theorem de_B_add_25 : decode by_B_add 25 = .ok (.ldc 53, 2) := by decide +kernel
theorem de_B_add_27 : decode by_B_add 27 = .ok (.invokespecial 55, 3) := by decide +kernel
theorem de_B_add_30 : decode by_B_add 30 = .ok (.athrow, 1) := by decide +kernel
theorem de_B_add_31 : decode by_B_add 31 = .ok (.aload_n 0, 1) := by decide +kernel
theorem de_B_add_32 : decode by_B_add 32 = .ok (.getfield 10, 3) := by decide +kernel
theorem de_B_add_35 : decode by_B_add 35 = .ok (.dup, 1) := by decide +kernel
theorem de_B_add_36 : decode by_B_add 36 = .ok (.getfield 47, 3) := by decide +kernel
theorem de_B_add_39 : decode by_B_add 39 = .ok (.iconst 1, 1) := by decide +kernel
theorem de_B_add_40 : decode by_B_add 40 = .ok (.iadd, 1) := by decide +kernel
theorem de_B_add_41 : decode by_B_add 41 = .ok (.putfield 47, 3) := by decide +kernel
theorem de_B_add_44 : decode by_B_add 44 = .ok (.aload_n 0, 1) := by decide +kernel
theorem de_B_add_45 : decode by_B_add 45 = .ok (.getfield 10, 3) := by decide +kernel
theorem de_B_add_48 : decode by_B_add 48 = .ok (.aload_n 0, 1) := by decide +kernel
theorem de_B_add_49 : decode by_B_add 49 = .ok (.getfield 10, 3) := by decide +kernel
theorem de_B_add_52 : decode by_B_add 52 = .ok (.getfield 47, 3) := by decide +kernel
theorem de_B_add_55 : decode by_B_add 55 = .ok (.iconst 1, 1) := by decide +kernel
theorem de_B_add_56 : decode by_B_add 56 = .ok (.isub, 1) := by decide +kernel
theorem de_B_add_57 : decode by_B_add 57 = .ok (.iload_n 1, 1) := by decide +kernel
theorem de_B_add_58 : decode by_B_add 58 = .ok (.iload_n 2, 1) := by decide +kernel
theorem de_B_add_59 : decode by_B_add 59 = .ok (.iload_n 3, 1) := by decide +kernel
theorem de_B_add_60 : decode by_B_add 60 = .ok (.iload 4, 2) := by decide +kernel
theorem de_B_add_62 : decode by_B_add 62 = .ok (.invokevirtual 58, 3) := by decide +kernel
theorem de_B_add_65 : decode by_B_add 65 = .ok (.aload_n 0, 1) := by decide +kernel
theorem de_B_add_66 : decode by_B_add 66 = .ok (.invokevirtual 62, 3) := by decide +kernel
theorem de_B_add_69 : decode by_B_add 69 = .ok (.aload_n 0, 1) := by decide +kernel
theorem de_B_add_70 : decode by_B_add 70 = .ok (.getfield 10, 3) := by decide +kernel
theorem de_B_add_73 : decode by_B_add 73 = .ok (.getfield 47, 3) := by decide +kernel
theorem de_B_add_76 : decode by_B_add 76 = .ok (.ireturn, 1) := by decide +kernel
theorem de_B_change_0 : decode by_B_change 0 = .ok (.aload_n 0, 1) := by decide +kernel
theorem de_B_change_1 : decode by_B_change 1 = .ok (.iload_n 1, 1) := by decide +kernel
theorem de_B_change_2 : decode by_B_change 2 = .ok (.invokevirtual 65, 3) := by decide +kernel
theorem de_B_change_5 : decode by_B_change 5 = .ok (.aload_n 0, 1) := by decide +kernel
theorem de_B_change_6 : decode by_B_change 6 = .ok (.iload_n 2, 1) := by decide +kernel
theorem de_B_change_7 : decode by_B_change 7 = .ok (.iload_n 3, 1) := by decide +kernel
theorem de_B_change_8 : decode by_B_change 8 = .ok (.iload 4, 2) := by decide +kernel
theorem de_B_change_10 : decode by_B_change 10 = .ok (.iload 5, 2) := by decide +kernel
theorem de_B_change_12 : decode by_B_change 12 = .ok (.invokevirtual 43, 3) := by decide +kernel
theorem de_B_change_15 : decode by_B_change 15 = .ok (.aload_n 0, 1) := by decide +kernel
theorem de_B_change_16 : decode by_B_change 16 = .ok (.getfield 10, 3) := by decide +kernel
theorem de_B_change_19 : decode by_B_change 19 = .ok (.iload_n 1, 1) := by decide +kernel
theorem de_B_change_20 : decode by_B_change 20 = .ok (.iload_n 2, 1) := by decide +kernel
theorem de_B_change_21 : decode by_B_change 21 = .ok (.iload_n 3, 1) := by decide +kernel
theorem de_B_change_22 : decode by_B_change 22 = .ok (.iload 4, 2) := by decide +kernel
theorem de_B_change_24 : decode by_B_change 24 = .ok (.iload 5, 2) := by decide +kernel
theorem de_B_change_26 : decode by_B_change 26 = .ok (.invokevirtual 58, 3) := by decide +kernel
theorem de_B_change_29 : decode by_B_change 29 = .ok (.aload_n 0, 1) := by decide +kernel
theorem de_B_change_30 : decode by_B_change 30 = .ok (.invokevirtual 62, 3) := by decide +kernel
theorem de_B_change_33 : decode by_B_change 33 = .ok (.return_, 1) := by decide +kernel
theorem de_B_clear_0 : decode by_B_clear 0 = .ok (.aload_n 0, 1) := by decide +kernel
theorem de_B_clear_1 : decode by_B_clear 1 = .ok (.getfield 10, 3) := by decide +kernel
theorem de_B_clear_4 : decode by_B_clear 4 = .ok (.getfield 47, 3) := by decide +kernel
theorem de_B_clear_7 : decode by_B_clear 7 = .ok (.istore_n 1, 1) := by decide +kernel
theorem de_B_clear_8 : decode by_B_clear 8 = .ok (.aload_n 0, 1) := by decide +kernel
theorem de_B_clear_9 : decode by_B_clear 9 = .ok (.getfield 10, 3) := by decide +kernel
theorem de_B_clear_12 : decode by_B_clear 12 = .ok (.iconst 0, 1) := by decide +kernel
theorem de_B_clear_13 : decode by_B_clear 13 = .ok (.putfield 47, 3) := by decide +kernel
theorem de_B_clear_16 : decode by_B_clear 16 = .ok (.aload_n 0, 1) := by decide +kernel
theorem de_B_clear_17 : decode by_B_clear 17 = .ok (.invokevirtual 62, 3) := by decide +kernel
theorem de_B_clear_20 : decode by_B_clear 20 = .ok (.iload_n 1, 1) := by decide +kernel
theorem de_B_clear_21 : decode by_B_clear 21 = .ok (.ireturn, 1) := by decide +kernel
theorem de_B_reached_0 : decode by_B_reached 0 = .ok (.aload_n 0, 1) := by decide +kernel
theorem de_B_reached_1 : decode by_B_reached 1 = .ok (.iload_n 1, 1) := by decide +kernel
theorem de_B_reached_2 : decode by_B_reached 2 = .ok (.invokevirtual 65, 3) := by decide +kernel
theorem de_B_reached_5 : decode by_B_reached 5 = .ok (.aload_n 0, 1) := by decide +kernel
theorem de_B_reached_6 : decode by_B_reached 6 = .ok (.invokevirtual 69, 3) := by decide +kernel
theorem de_B_reached_9 : decode by_B_reached 9 = .ok (.aload_n 0, 1) := by decide +kernel
theorem de_B_reached_10 : decode by_B_reached 10 = .ok (.getfield 22, 3) := by decide +kernel
theorem de_B_reached_13 : decode by_B_reached 13 = .ok (.iload_n 1, 1) := by decide +kernel
theorem de_B_reached_14 : decode by_B_reached 14 = .ok (.invokevirtual 72, 3) := by decide +kernel
theorem de_B_reached_17 : decode by_B_reached 17 = .ok (.ireturn, 1) := by decide +kernel
theorem de_B_reachedAll_0 : decode by_B_reachedAll 0 = .ok (.aload_n 0, 1) := by decide +kernel
theorem de_B_reachedAll_1 : decode by_B_reachedAll 1 = .ok (.invokevirtual 69, 3) := by decide +kernel
theorem de_B_reachedAll_4 : decode by_B_reachedAll 4 = .ok (.aload_n 0, 1) := by decide +kernel
theorem de_B_reachedAll_5 : decode by_B_reachedAll 5 = .ok (.getfield 22, 3) := by decide +kernel
theorem de_B_reachedAll_8 : decode by_B_reachedAll 8 = .ok (.aload_n 0, 1) := by decide +kernel
theorem de_B_reachedAll_9 : decode by_B_reachedAll 9 = .ok (.getfield 10, 3) := by decide +kernel
theorem de_B_reachedAll_12 : decode by_B_reachedAll 12 = .ok (.invokevirtual 76, 3) := by decide +kernel
theorem de_B_reachedAll_15 : decode by_B_reachedAll 15 = .ok (.ireturn, 1) := by decide +kernel
theorem de_B_known_0 : decode by_B_known 0 = .ok (.aload_n 0, 1) := by decide +kernel
theorem de_B_known_1 : decode by_B_known 1 = .ok (.iload_n 1, 1) := by decide +kernel
theorem de_B_known_2 : decode by_B_known 2 = .ok (.invokevirtual 65, 3) := by decide +kernel
theorem de_B_known_5 : decode by_B_known 5 = .ok (.aload_n 0, 1) := by decide +kernel
theorem de_B_known_6 : decode by_B_known 6 = .ok (.iload_n 2, 1) := by decide +kernel
theorem de_B_known_7 : decode by_B_known 7 = .ok (.invokevirtual 80, 3) := by decide +kernel
theorem de_B_known_10 : decode by_B_known 10 = .ok (.aload_n 0, 1) := by decide +kernel
theorem de_B_known_11 : decode by_B_known 11 = .ok (.invokevirtual 69, 3) := by decide +kernel
theorem de_B_known_14 : decode by_B_known 14 = .ok (.aload_n 0, 1) := by decide +kernel
theorem de_B_known_15 : decode by_B_known 15 = .ok (.getfield 22, 3) := by decide +kernel
theorem de_B_known_18 : decode by_B_known 18 = .ok (.getfield 83, 3) := by decide +kernel
theorem de_B_known_21 : decode by_B_known 21 = .ok (.iload_n 1, 1) := by decide +kernel
theorem de_B_known_22 : decode by_B_known 22 = .ok (.iload_n 2, 1) := by decide +kernel
theorem de_B_known_23 : decode by_B_known 23 = .ok (.invokestatic 87, 3) := by decide +kernel
theorem de_B_known_26 : decode by_B_known 26 = .ok (.iaload, 1) := by decide +kernel
theorem de_B_known_27 : decode by_B_known 27 = .ok (.ireturn, 1) := by decide +kernel
theorem de_B_constant_0 : decode by_B_constant 0 = .ok (.aload_n 0, 1) := by decide +kernel
theorem de_B_constant_1 : decode by_B_constant 1 = .ok (.iload_n 1, 1) := by decide +kernel
theorem de_B_constant_2 : decode by_B_constant 2 = .ok (.invokevirtual 65, 3) := by decide +kernel
theorem de_B_constant_5 : decode by_B_constant 5 = .ok (.aload_n 0, 1) := by decide +kernel
theorem de_B_constant_6 : decode by_B_constant 6 = .ok (.iload_n 2, 1) := by decide +kernel
theorem de_B_constant_7 : decode by_B_constant 7 = .ok (.invokevirtual 80, 3) := by decide +kernel
theorem de_B_constant_10 : decode by_B_constant 10 = .ok (.aload_n 0, 1) := by decide +kernel
theorem de_B_constant_11 : decode by_B_constant 11 = .ok (.invokevirtual 69, 3) := by decide +kernel
theorem de_B_constant_14 : decode by_B_constant 14 = .ok (.aload_n 0, 1) := by decide +kernel
theorem de_B_constant_15 : decode by_B_constant 15 = .ok (.getfield 22, 3) := by decide +kernel
theorem de_B_constant_18 : decode by_B_constant 18 = .ok (.getfield 91, 3) := by decide +kernel
theorem de_B_constant_21 : decode by_B_constant 21 = .ok (.iload_n 1, 1) := by decide +kernel
theorem de_B_constant_22 : decode by_B_constant 22 = .ok (.iload_n 2, 1) := by decide +kernel
theorem de_B_constant_23 : decode by_B_constant 23 = .ok (.invokestatic 87, 3) := by decide +kernel
theorem de_B_constant_26 : decode by_B_constant 26 = .ok (.iaload, 1) := by decide +kernel
theorem de_B_constant_27 : decode by_B_constant 27 = .ok (.ireturn, 1) := by decide +kernel
theorem de_B_rewrite_0 : decode by_B_rewrite 0 = .ok (.aload_n 0, 1) := by decide +kernel
theorem de_B_rewrite_1 : decode by_B_rewrite 1 = .ok (.getfield 10, 3) := by decide +kernel
theorem de_B_rewrite_4 : decode by_B_rewrite 4 = .ok (.getfield 47, 3) := by decide +kernel
theorem de_B_rewrite_7 : decode by_B_rewrite 7 = .ok (.ifCond .ne 13, 3) := by decide +kernel
theorem de_B_rewrite_10 : decode by_B_rewrite 10 = .ok (.new 51, 3) := by decide +kernel
theorem de_B_rewrite_13 : decode by_B_rewrite 13 = .ok (.dup, 1) := by decide +kernel
theorem de_B_rewrite_14 : decode by_B_rewrite 14 = .ok (.ldc 94, 2) := by decide +kernel
theorem de_B_rewrite_16 : decode by_B_rewrite 16 = .ok (.invokespecial 55, 3) := by decide +kernel
theorem de_B_rewrite_19 : decode by_B_rewrite 19 = .ok (.athrow, 1) := by decide +kernel
theorem de_B_rewrite_20 : decode by_B_rewrite 20 = .ok (.aload_n 0, 1) := by decide +kernel
theorem de_B_rewrite_21 : decode by_B_rewrite 21 = .ok (.invokevirtual 69, 3) := by decide +kernel
theorem de_B_rewrite_24 : decode by_B_rewrite 24 = .ok (.aload_n 0, 1) := by decide +kernel
theorem de_B_rewrite_25 : decode by_B_rewrite 25 = .ok (.getfield 29, 3) := by decide +kernel
theorem de_B_rewrite_28 : decode by_B_rewrite 28 = .ok (.aload_n 0, 1) := by decide +kernel
theorem de_B_rewrite_29 : decode by_B_rewrite 29 = .ok (.getfield 10, 3) := by decide +kernel
theorem de_B_rewrite_32 : decode by_B_rewrite 32 = .ok (.aload_n 0, 1) := by decide +kernel
theorem de_B_rewrite_33 : decode by_B_rewrite 33 = .ok (.getfield 22, 3) := by decide +kernel
theorem de_B_rewrite_36 : decode by_B_rewrite 36 = .ok (.aload_n 0, 1) := by decide +kernel
theorem de_B_rewrite_37 : decode by_B_rewrite 37 = .ok (.getfield 16, 3) := by decide +kernel
theorem de_B_rewrite_40 : decode by_B_rewrite 40 = .ok (.invokevirtual 96, 3) := by decide +kernel
theorem de_B_rewrite_43 : decode by_B_rewrite 43 = .ok (.aload_n 0, 1) := by decide +kernel
theorem de_B_rewrite_44 : decode by_B_rewrite 44 = .ok (.iconst 1, 1) := by decide +kernel
theorem de_B_rewrite_45 : decode by_B_rewrite 45 = .ok (.putfield 100, 3) := by decide +kernel
theorem de_B_rewrite_48 : decode by_B_rewrite 48 = .ok (.aload_n 0, 1) := by decide +kernel
theorem de_B_rewrite_49 : decode by_B_rewrite 49 = .ok (.getfield 40, 3) := by decide +kernel
theorem de_B_rewrite_52 : decode by_B_rewrite 52 = .ok (.iconst 0, 1) := by decide +kernel
theorem de_B_rewrite_53 : decode by_B_rewrite 53 = .ok (.putfield 104, 3) := by decide +kernel
theorem de_B_rewrite_56 : decode by_B_rewrite 56 = .ok (.aload_n 0, 1) := by decide +kernel
theorem de_B_rewrite_57 : decode by_B_rewrite 57 = .ok (.getfield 16, 3) := by decide +kernel
theorem de_B_rewrite_60 : decode by_B_rewrite 60 = .ok (.getfield 47, 3) := by decide +kernel
theorem de_B_rewrite_63 : decode by_B_rewrite 63 = .ok (.ireturn, 1) := by decide +kernel
theorem de_B_code_0 : decode by_B_code 0 = .ok (.aload_n 0, 1) := by decide +kernel
theorem de_B_code_1 : decode by_B_code 1 = .ok (.iload_n 1, 1) := by decide +kernel
theorem de_B_code_2 : decode by_B_code 2 = .ok (.invokevirtual 107, 3) := by decide +kernel
theorem de_B_code_5 : decode by_B_code 5 = .ok (.aload_n 0, 1) := by decide +kernel
theorem de_B_code_6 : decode by_B_code 6 = .ok (.iload_n 1, 1) := by decide +kernel
theorem de_B_code_7 : decode by_B_code 7 = .ok (.invokevirtual 110, 3) := by decide +kernel
theorem de_B_code_10 : decode by_B_code 10 = .ok (.aload_n 0, 1) := by decide +kernel
theorem de_B_code_11 : decode by_B_code 11 = .ok (.iload_n 1, 1) := by decide +kernel
theorem de_B_code_12 : decode by_B_code 12 = .ok (.invokevirtual 113, 3) := by decide +kernel
theorem de_B_code_15 : decode by_B_code 15 = .ok (.astore 4, 2) := by decide +kernel
theorem de_B_code_17 : decode by_B_code 17 = .ok (.iload_n 2, 1) := by decide +kernel
theorem de_B_code_18 : decode by_B_code 18 = .ok (.ifCond .lt 21, 3) := by decide +kernel
theorem de_B_code_21 : decode by_B_code 21 = .ok (.iload_n 2, 1) := by decide +kernel
theorem de_B_code_22 : decode by_B_code 22 = .ok (.aload 4, 2) := by decide +kernel
theorem de_B_code_24 : decode by_B_code 24 = .ok (.getfield 47, 3) := by decide +kernel
theorem de_B_code_27 : decode by_B_code 27 = .ok (.if_icmp .ge 12, 3) := by decide +kernel
theorem de_B_code_30 : decode by_B_code 30 = .ok (.iload_n 3, 1) := by decide +kernel
theorem de_B_code_31 : decode by_B_code 31 = .ok (.ifCond .lt 8, 3) := by decide +kernel
theorem de_B_code_34 : decode by_B_code 34 = .ok (.iload_n 3, 1) := by decide +kernel
theorem de_B_code_35 : decode by_B_code 35 = .ok (.iconst 3, 1) := by decide +kernel
theorem de_B_code_36 : decode by_B_code 36 = .ok (.if_icmp .le 13, 3) := by decide +kernel
theorem de_B_code_39 : decode by_B_code 39 = .ok (.new 117, 3) := by decide +kernel
theorem de_B_code_42 : decode by_B_code 42 = .ok (.dup, 1) := by decide +kernel
theorem de_B_code_43 : decode by_B_code 43 = .ok (.ldc 119, 2) := by decide +kernel
theorem de_B_code_45 : decode by_B_code 45 = .ok (.invokespecial 121, 3) := by decide +kernel
theorem de_B_code_48 : decode by_B_code 48 = .ok (.athrow, 1) := by decide +kernel
theorem de_B_code_49 : decode by_B_code 49 = .ok (.aload 4, 2) := by decide +kernel
theorem de_B_code_51 : decode by_B_code 51 = .ok (.iload_n 2, 1) := by decide +kernel
theorem de_B_code_52 : decode by_B_code 52 = .ok (.iload_n 3, 1) := by decide +kernel
theorem de_B_code_53 : decode by_B_code 53 = .ok (.invokevirtual 122, 3) := by decide +kernel
theorem de_B_code_56 : decode by_B_code 56 = .ok (.ireturn, 1) := by decide +kernel
theorem de_B_start_0 : decode by_B_start 0 = .ok (.aload_n 0, 1) := by decide +kernel
theorem de_B_start_1 : decode by_B_start 1 = .ok (.iload_n 1, 1) := by decide +kernel
theorem de_B_start_2 : decode by_B_start 2 = .ok (.invokevirtual 110, 3) := by decide +kernel
theorem de_B_start_5 : decode by_B_start 5 = .ok (.aload_n 0, 1) := by decide +kernel
theorem de_B_start_6 : decode by_B_start 6 = .ok (.iload_n 1, 1) := by decide +kernel
theorem de_B_start_7 : decode by_B_start 7 = .ok (.invokevirtual 107, 3) := by decide +kernel
theorem de_B_start_10 : decode by_B_start 10 = .ok (.aload_n 0, 1) := by decide +kernel
theorem de_B_start_11 : decode by_B_start 11 = .ok (.iload_n 1, 1) := by decide +kernel
theorem de_B_start_12 : decode by_B_start 12 = .ok (.invokevirtual 125, 3) := by decide +kernel
theorem de_B_start_15 : decode by_B_start 15 = .ok (.aload_n 0, 1) := by decide +kernel
theorem de_B_start_16 : decode by_B_start 16 = .ok (.iload_n 1, 1) := by decide +kernel
theorem de_B_start_17 : decode by_B_start 17 = .ok (.invokevirtual 113, 3) := by decide +kernel
theorem de_B_start_20 : decode by_B_start 20 = .ok (.iload_n 2, 1) := by decide +kernel
theorem de_B_start_21 : decode by_B_start 21 = .ok (.iload_n 3, 1) := by decide +kernel
theorem de_B_start_22 : decode by_B_start 22 = .ok (.iload 4, 2) := by decide +kernel
theorem de_B_start_24 : decode by_B_start 24 = .ok (.iload 5, 2) := by decide +kernel
theorem de_B_start_26 : decode by_B_start 26 = .ok (.invokevirtual 129, 3) := by decide +kernel
theorem de_B_start_29 : decode by_B_start 29 = .ok (.return_, 1) := by decide +kernel
theorem de_B_run_0 : decode by_B_run 0 = .ok (.aload_n 0, 1) := by decide +kernel
theorem de_B_run_1 : decode by_B_run 1 = .ok (.iload_n 1, 1) := by decide +kernel
theorem de_B_run_2 : decode by_B_run 2 = .ok (.invokevirtual 110, 3) := by decide +kernel
theorem de_B_run_5 : decode by_B_run 5 = .ok (.iload_n 2, 1) := by decide +kernel
theorem de_B_run_6 : decode by_B_run 6 = .ok (.ifCond .lt 10, 3) := by decide +kernel
theorem de_B_run_9 : decode by_B_run 9 = .ok (.iload_n 2, 1) := by decide +kernel
theorem de_B_run_10 : decode by_B_run 10 = .ok (.sipush 10000, 3) := by decide +kernel
theorem de_B_run_13 : decode by_B_run 13 = .ok (.if_icmp .le 13, 3) := by decide +kernel
theorem de_B_run_16 : decode by_B_run 16 = .ok (.new 133, 3) := by decide +kernel
theorem de_B_run_19 : decode by_B_run 19 = .ok (.dup, 1) := by decide +kernel
theorem de_B_run_20 : decode by_B_run 20 = .ok (.ldc 135, 2) := by decide +kernel
theorem de_B_run_22 : decode by_B_run 22 = .ok (.invokespecial 137, 3) := by decide +kernel
theorem de_B_run_25 : decode by_B_run 25 = .ok (.athrow, 1) := by decide +kernel
theorem de_B_run_26 : decode by_B_run 26 = .ok (.aload_n 0, 1) := by decide +kernel
theorem de_B_run_27 : decode by_B_run 27 = .ok (.iload_n 1, 1) := by decide +kernel
theorem de_B_run_28 : decode by_B_run 28 = .ok (.invokevirtual 138, 3) := by decide +kernel
theorem de_B_run_31 : decode by_B_run 31 = .ok (.aload_n 0, 1) := by decide +kernel
theorem de_B_run_32 : decode by_B_run 32 = .ok (.iload_n 1, 1) := by decide +kernel
theorem de_B_run_33 : decode by_B_run 33 = .ok (.invokevirtual 125, 3) := by decide +kernel
theorem de_B_run_36 : decode by_B_run 36 = .ok (.aload_n 0, 1) := by decide +kernel
theorem de_B_run_37 : decode by_B_run 37 = .ok (.iload_n 1, 1) := by decide +kernel
theorem de_B_run_38 : decode by_B_run 38 = .ok (.invokevirtual 113, 3) := by decide +kernel
theorem de_B_run_41 : decode by_B_run 41 = .ok (.iload_n 2, 1) := by decide +kernel
theorem de_B_run_42 : decode by_B_run 42 = .ok (.invokevirtual 141, 3) := by decide +kernel
theorem de_B_run_45 : decode by_B_run 45 = .ok (.ireturn, 1) := by decide +kernel
theorem de_B_place_0 : decode by_B_place 0 = .ok (.aload_n 0, 1) := by decide +kernel
theorem de_B_place_1 : decode by_B_place 1 = .ok (.iload_n 1, 1) := by decide +kernel
theorem de_B_place_2 : decode by_B_place 2 = .ok (.invokevirtual 110, 3) := by decide +kernel
theorem de_B_place_5 : decode by_B_place 5 = .ok (.aload_n 0, 1) := by decide +kernel
theorem de_B_place_6 : decode by_B_place 6 = .ok (.iload_n 1, 1) := by decide +kernel
theorem de_B_place_7 : decode by_B_place 7 = .ok (.invokevirtual 138, 3) := by decide +kernel
theorem de_B_place_10 : decode by_B_place 10 = .ok (.aload_n 0, 1) := by decide +kernel
theorem de_B_place_11 : decode by_B_place 11 = .ok (.iload_n 1, 1) := by decide +kernel
theorem de_B_place_12 : decode by_B_place 12 = .ok (.invokevirtual 125, 3) := by decide +kernel
theorem de_B_place_15 : decode by_B_place 15 = .ok (.getfield 145, 3) := by decide +kernel
theorem de_B_place_18 : decode by_B_place 18 = .ok (.ireturn, 1) := by decide +kernel
theorem de_B_value_0 : decode by_B_value 0 = .ok (.aload_n 0, 1) := by decide +kernel
theorem de_B_value_1 : decode by_B_value 1 = .ok (.iload_n 1, 1) := by decide +kernel
theorem de_B_value_2 : decode by_B_value 2 = .ok (.invokevirtual 110, 3) := by decide +kernel
theorem de_B_value_5 : decode by_B_value 5 = .ok (.aload_n 0, 1) := by decide +kernel
theorem de_B_value_6 : decode by_B_value 6 = .ok (.iload_n 2, 1) := by decide +kernel
theorem de_B_value_7 : decode by_B_value 7 = .ok (.invokevirtual 80, 3) := by decide +kernel
theorem de_B_value_10 : decode by_B_value 10 = .ok (.aload_n 0, 1) := by decide +kernel
theorem de_B_value_11 : decode by_B_value 11 = .ok (.iload_n 1, 1) := by decide +kernel
theorem de_B_value_12 : decode by_B_value 12 = .ok (.invokevirtual 138, 3) := by decide +kernel
theorem de_B_value_15 : decode by_B_value 15 = .ok (.aload_n 0, 1) := by decide +kernel
theorem de_B_value_16 : decode by_B_value 16 = .ok (.iload_n 1, 1) := by decide +kernel
theorem de_B_value_17 : decode by_B_value 17 = .ok (.invokevirtual 125, 3) := by decide +kernel
theorem de_B_value_20 : decode by_B_value 20 = .ok (.getfield 148, 3) := by decide +kernel
theorem de_B_value_23 : decode by_B_value 23 = .ok (.iload_n 2, 1) := by decide +kernel
theorem de_B_value_24 : decode by_B_value 24 = .ok (.iaload, 1) := by decide +kernel
theorem de_B_value_25 : decode by_B_value 25 = .ok (.ireturn, 1) := by decide +kernel
theorem de_B_steps_0 : decode by_B_steps 0 = .ok (.aload_n 0, 1) := by decide +kernel
theorem de_B_steps_1 : decode by_B_steps 1 = .ok (.iload_n 1, 1) := by decide +kernel
theorem de_B_steps_2 : decode by_B_steps 2 = .ok (.invokevirtual 110, 3) := by decide +kernel
theorem de_B_steps_5 : decode by_B_steps 5 = .ok (.aload_n 0, 1) := by decide +kernel
theorem de_B_steps_6 : decode by_B_steps 6 = .ok (.iload_n 1, 1) := by decide +kernel
theorem de_B_steps_7 : decode by_B_steps 7 = .ok (.invokevirtual 138, 3) := by decide +kernel
theorem de_B_steps_10 : decode by_B_steps 10 = .ok (.aload_n 0, 1) := by decide +kernel
theorem de_B_steps_11 : decode by_B_steps 11 = .ok (.iload_n 1, 1) := by decide +kernel
theorem de_B_steps_12 : decode by_B_steps 12 = .ok (.invokevirtual 125, 3) := by decide +kernel
theorem de_B_steps_15 : decode by_B_steps 15 = .ok (.getfield 151, 3) := by decide +kernel
theorem de_B_steps_18 : decode by_B_steps 18 = .ok (.ireturn, 1) := by decide +kernel
theorem de_B_forgetWhatFollowed_0 : decode by_B_forgetWhatFollowed 0 = .ok (.aload_n 0, 1) := by decide +kernel
theorem de_B_forgetWhatFollowed_1 : decode by_B_forgetWhatFollowed 1 = .ok (.iconst 0, 1) := by decide +kernel
theorem de_B_forgetWhatFollowed_2 : decode by_B_forgetWhatFollowed 2 = .ok (.putfield 154, 3) := by decide +kernel
theorem de_B_forgetWhatFollowed_5 : decode by_B_forgetWhatFollowed 5 = .ok (.aload_n 0, 1) := by decide +kernel
theorem de_B_forgetWhatFollowed_6 : decode by_B_forgetWhatFollowed 6 = .ok (.iconst 0, 1) := by decide +kernel
theorem de_B_forgetWhatFollowed_7 : decode by_B_forgetWhatFollowed 7 = .ok (.putfield 100, 3) := by decide +kernel
theorem de_B_forgetWhatFollowed_10 : decode by_B_forgetWhatFollowed 10 = .ok (.aload_n 0, 1) := by decide +kernel
theorem de_B_forgetWhatFollowed_11 : decode by_B_forgetWhatFollowed 11 = .ok (.getfield 36, 3) := by decide +kernel
theorem de_B_forgetWhatFollowed_14 : decode by_B_forgetWhatFollowed 14 = .ok (.iconst 0, 1) := by decide +kernel
theorem de_B_forgetWhatFollowed_15 : decode by_B_forgetWhatFollowed 15 = .ok (.putfield 104, 3) := by decide +kernel
theorem de_B_forgetWhatFollowed_18 : decode by_B_forgetWhatFollowed 18 = .ok (.aload_n 0, 1) := by decide +kernel
theorem de_B_forgetWhatFollowed_19 : decode by_B_forgetWhatFollowed 19 = .ok (.getfield 40, 3) := by decide +kernel
theorem de_B_forgetWhatFollowed_22 : decode by_B_forgetWhatFollowed 22 = .ok (.iconst 0, 1) := by decide +kernel
theorem de_B_forgetWhatFollowed_23 : decode by_B_forgetWhatFollowed 23 = .ok (.putfield 104, 3) := by decide +kernel
theorem de_B_forgetWhatFollowed_26 : decode by_B_forgetWhatFollowed 26 = .ok (.return_, 1) := by decide +kernel
theorem de_B_analyseOnce_0 : decode by_B_analyseOnce 0 = .ok (.aload_n 0, 1) := by decide +kernel
theorem de_B_analyseOnce_1 : decode by_B_analyseOnce 1 = .ok (.getfield 154, 3) := by decide +kernel
theorem de_B_analyseOnce_4 : decode by_B_analyseOnce 4 = .ok (.ifCond .ne 19, 3) := by decide +kernel
theorem de_B_analyseOnce_7 : decode by_B_analyseOnce 7 = .ok (.aload_n 0, 1) := by decide +kernel
theorem de_B_analyseOnce_8 : decode by_B_analyseOnce 8 = .ok (.getfield 22, 3) := by decide +kernel
theorem de_B_analyseOnce_11 : decode by_B_analyseOnce 11 = .ok (.aload_n 0, 1) := by decide +kernel
theorem de_B_analyseOnce_12 : decode by_B_analyseOnce 12 = .ok (.getfield 10, 3) := by decide +kernel
theorem de_B_analyseOnce_15 : decode by_B_analyseOnce 15 = .ok (.invokevirtual 157, 3) := by decide +kernel
theorem de_B_analyseOnce_18 : decode by_B_analyseOnce 18 = .ok (.aload_n 0, 1) := by decide +kernel
theorem de_B_analyseOnce_19 : decode by_B_analyseOnce 19 = .ok (.iconst 1, 1) := by decide +kernel
theorem de_B_analyseOnce_20 : decode by_B_analyseOnce 20 = .ok (.putfield 154, 3) := by decide +kernel
theorem de_B_analyseOnce_23 : decode by_B_analyseOnce 23 = .ok (.return_, 1) := by decide +kernel
theorem de_B_codeOf_0 : decode by_B_codeOf 0 = .ok (.iload_n 1, 1) := by decide +kernel
theorem de_B_codeOf_1 : decode by_B_codeOf 1 = .ok (.ifCond .ne 10, 3) := by decide +kernel
theorem de_B_codeOf_4 : decode by_B_codeOf 4 = .ok (.aload_n 0, 1) := by decide +kernel
theorem de_B_codeOf_5 : decode by_B_codeOf 5 = .ok (.getfield 10, 3) := by decide +kernel
theorem de_B_codeOf_8 : decode by_B_codeOf 8 = .ok (.goto 7, 3) := by decide +kernel
theorem de_B_codeOf_11 : decode by_B_codeOf 11 = .ok (.aload_n 0, 1) := by decide +kernel
theorem de_B_codeOf_12 : decode by_B_codeOf 12 = .ok (.getfield 16, 3) := by decide +kernel
theorem de_B_codeOf_15 : decode by_B_codeOf 15 = .ok (.areturn, 1) := by decide +kernel
theorem de_B_runOf_0 : decode by_B_runOf 0 = .ok (.iload_n 1, 1) := by decide +kernel
theorem de_B_runOf_1 : decode by_B_runOf 1 = .ok (.ifCond .ne 10, 3) := by decide +kernel
theorem de_B_runOf_4 : decode by_B_runOf 4 = .ok (.aload_n 0, 1) := by decide +kernel
theorem de_B_runOf_5 : decode by_B_runOf 5 = .ok (.getfield 36, 3) := by decide +kernel
theorem de_B_runOf_8 : decode by_B_runOf 8 = .ok (.goto 7, 3) := by decide +kernel
theorem de_B_runOf_11 : decode by_B_runOf 11 = .ok (.aload_n 0, 1) := by decide +kernel
theorem de_B_runOf_12 : decode by_B_runOf 12 = .ok (.getfield 40, 3) := by decide +kernel
theorem de_B_runOf_15 : decode by_B_runOf 15 = .ok (.areturn, 1) := by decide +kernel
theorem de_B_refuseWrongInstruction_0 : decode by_B_refuseWrongInstruction 0 = .ok (.iload_n 1, 1) := by decide +kernel
theorem de_B_refuseWrongInstruction_1 : decode by_B_refuseWrongInstruction 1 = .ok (.iload_n 2, 1) := by decide +kernel
theorem de_B_refuseWrongInstruction_2 : decode by_B_refuseWrongInstruction 2 = .ok (.iload_n 3, 1) := by decide +kernel
theorem de_B_refuseWrongInstruction_3 : decode by_B_refuseWrongInstruction 3 = .ok (.iload 4, 2) := by decide +kernel
theorem de_B_refuseWrongInstruction_5 : decode by_B_refuseWrongInstruction 5 = .ok (.invokestatic 160, 3) := by decide +kernel
theorem de_B_refuseWrongInstruction_8 : decode by_B_refuseWrongInstruction 8 = .ok (.ifCond .ne 13, 3) := by decide +kernel
theorem de_B_refuseWrongInstruction_11 : decode by_B_refuseWrongInstruction 11 = .ok (.new 133, 3) := by decide +kernel
theorem de_B_refuseWrongInstruction_14 : decode by_B_refuseWrongInstruction 14 = .ok (.dup, 1) := by decide +kernel
theorem de_B_refuseWrongInstruction_15 : decode by_B_refuseWrongInstruction 15 = .ok (.ldc 164, 2) := by decide +kernel
theorem de_B_refuseWrongInstruction_17 : decode by_B_refuseWrongInstruction 17 = .ok (.invokespecial 137, 3) := by decide +kernel
theorem de_B_refuseWrongInstruction_20 : decode by_B_refuseWrongInstruction 20 = .ok (.athrow, 1) := by decide +kernel
theorem de_B_refuseWrongInstruction_21 : decode by_B_refuseWrongInstruction 21 = .ok (.return_, 1) := by decide +kernel
theorem de_B_refuseWrongIndex_0 : decode by_B_refuseWrongIndex 0 = .ok (.iload_n 1, 1) := by decide +kernel
theorem de_B_refuseWrongIndex_1 : decode by_B_refuseWrongIndex 1 = .ok (.ifCond .lt 14, 3) := by decide +kernel
theorem de_B_refuseWrongIndex_4 : decode by_B_refuseWrongIndex 4 = .ok (.iload_n 1, 1) := by decide +kernel
theorem de_B_refuseWrongIndex_5 : decode by_B_refuseWrongIndex 5 = .ok (.aload_n 0, 1) := by decide +kernel
theorem de_B_refuseWrongIndex_6 : decode by_B_refuseWrongIndex 6 = .ok (.getfield 10, 3) := by decide +kernel
theorem de_B_refuseWrongIndex_9 : decode by_B_refuseWrongIndex 9 = .ok (.getfield 47, 3) := by decide +kernel
theorem de_B_refuseWrongIndex_12 : decode by_B_refuseWrongIndex 12 = .ok (.if_icmp .lt 13, 3) := by decide +kernel
theorem de_B_refuseWrongIndex_15 : decode by_B_refuseWrongIndex 15 = .ok (.new 117, 3) := by decide +kernel
theorem de_B_refuseWrongIndex_18 : decode by_B_refuseWrongIndex 18 = .ok (.dup, 1) := by decide +kernel
theorem de_B_refuseWrongIndex_19 : decode by_B_refuseWrongIndex 19 = .ok (.ldc 166, 2) := by decide +kernel
theorem de_B_refuseWrongIndex_21 : decode by_B_refuseWrongIndex 21 = .ok (.invokespecial 121, 3) := by decide +kernel
theorem de_B_refuseWrongIndex_24 : decode by_B_refuseWrongIndex 24 = .ok (.athrow, 1) := by decide +kernel
theorem de_B_refuseWrongIndex_25 : decode by_B_refuseWrongIndex 25 = .ok (.return_, 1) := by decide +kernel
theorem de_B_refuseWrongVariable_0 : decode by_B_refuseWrongVariable 0 = .ok (.iload_n 1, 1) := by decide +kernel
theorem de_B_refuseWrongVariable_1 : decode by_B_refuseWrongVariable 1 = .ok (.invokestatic 168, 3) := by decide +kernel
theorem de_B_refuseWrongVariable_4 : decode by_B_refuseWrongVariable 4 = .ok (.ifCond .ne 13, 3) := by decide +kernel
theorem de_B_refuseWrongVariable_7 : decode by_B_refuseWrongVariable 7 = .ok (.new 117, 3) := by decide +kernel
theorem de_B_refuseWrongVariable_10 : decode by_B_refuseWrongVariable 10 = .ok (.dup, 1) := by decide +kernel
theorem de_B_refuseWrongVariable_11 : decode by_B_refuseWrongVariable 11 = .ok (.ldc 171, 2) := by decide +kernel
theorem de_B_refuseWrongVariable_13 : decode by_B_refuseWrongVariable 13 = .ok (.invokespecial 121, 3) := by decide +kernel
theorem de_B_refuseWrongVariable_16 : decode by_B_refuseWrongVariable 16 = .ok (.athrow, 1) := by decide +kernel
theorem de_B_refuseWrongVariable_17 : decode by_B_refuseWrongVariable 17 = .ok (.return_, 1) := by decide +kernel
theorem de_B_refuseWrongSide_0 : decode by_B_refuseWrongSide 0 = .ok (.iload_n 1, 1) := by decide +kernel
theorem de_B_refuseWrongSide_1 : decode by_B_refuseWrongSide 1 = .ok (.ifCond .eq 18, 3) := by decide +kernel
theorem de_B_refuseWrongSide_4 : decode by_B_refuseWrongSide 4 = .ok (.iload_n 1, 1) := by decide +kernel
theorem de_B_refuseWrongSide_5 : decode by_B_refuseWrongSide 5 = .ok (.iconst 1, 1) := by decide +kernel
theorem de_B_refuseWrongSide_6 : decode by_B_refuseWrongSide 6 = .ok (.if_icmp .eq 13, 3) := by decide +kernel
theorem de_B_refuseWrongSide_9 : decode by_B_refuseWrongSide 9 = .ok (.new 117, 3) := by decide +kernel
theorem de_B_refuseWrongSide_12 : decode by_B_refuseWrongSide 12 = .ok (.dup, 1) := by decide +kernel
theorem de_B_refuseWrongSide_13 : decode by_B_refuseWrongSide 13 = .ok (.ldc 173, 2) := by decide +kernel
theorem de_B_refuseWrongSide_15 : decode by_B_refuseWrongSide 15 = .ok (.invokespecial 121, 3) := by decide +kernel
theorem de_B_refuseWrongSide_18 : decode by_B_refuseWrongSide 18 = .ok (.athrow, 1) := by decide +kernel
theorem de_B_refuseWrongSide_19 : decode by_B_refuseWrongSide 19 = .ok (.return_, 1) := by decide +kernel
theorem de_B_refuseMissingRewritten_0 : decode by_B_refuseMissingRewritten 0 = .ok (.iload_n 1, 1) := by decide +kernel
theorem de_B_refuseMissingRewritten_1 : decode by_B_refuseMissingRewritten 1 = .ok (.iconst 1, 1) := by decide +kernel
theorem de_B_refuseMissingRewritten_2 : decode by_B_refuseMissingRewritten 2 = .ok (.if_icmp .ne 20, 3) := by decide +kernel
theorem de_B_refuseMissingRewritten_5 : decode by_B_refuseMissingRewritten 5 = .ok (.aload_n 0, 1) := by decide +kernel
theorem de_B_refuseMissingRewritten_6 : decode by_B_refuseMissingRewritten 6 = .ok (.getfield 100, 3) := by decide +kernel
theorem de_B_refuseMissingRewritten_9 : decode by_B_refuseMissingRewritten 9 = .ok (.ifCond .ne 13, 3) := by decide +kernel
theorem de_B_refuseMissingRewritten_12 : decode by_B_refuseMissingRewritten 12 = .ok (.new 51, 3) := by decide +kernel
theorem de_B_refuseMissingRewritten_15 : decode by_B_refuseMissingRewritten 15 = .ok (.dup, 1) := by decide +kernel
theorem de_B_refuseMissingRewritten_16 : decode by_B_refuseMissingRewritten 16 = .ok (.ldc 175, 2) := by decide +kernel
theorem de_B_refuseMissingRewritten_18 : decode by_B_refuseMissingRewritten 18 = .ok (.invokespecial 55, 3) := by decide +kernel
theorem de_B_refuseMissingRewritten_21 : decode by_B_refuseMissingRewritten 21 = .ok (.athrow, 1) := by decide +kernel
theorem de_B_refuseMissingRewritten_22 : decode by_B_refuseMissingRewritten 22 = .ok (.return_, 1) := by decide +kernel
theorem de_B_refuseUnstarted_0 : decode by_B_refuseUnstarted 0 = .ok (.aload_n 0, 1) := by decide +kernel
theorem de_B_refuseUnstarted_1 : decode by_B_refuseUnstarted 1 = .ok (.iload_n 1, 1) := by decide +kernel
theorem de_B_refuseUnstarted_2 : decode by_B_refuseUnstarted 2 = .ok (.invokevirtual 125, 3) := by decide +kernel
theorem de_B_refuseUnstarted_5 : decode by_B_refuseUnstarted 5 = .ok (.getfield 104, 3) := by decide +kernel
theorem de_B_refuseUnstarted_8 : decode by_B_refuseUnstarted 8 = .ok (.ifCond .ne 13, 3) := by decide +kernel
theorem de_B_refuseUnstarted_11 : decode by_B_refuseUnstarted 11 = .ok (.new 51, 3) := by decide +kernel
theorem de_B_refuseUnstarted_14 : decode by_B_refuseUnstarted 14 = .ok (.dup, 1) := by decide +kernel
theorem de_B_refuseUnstarted_15 : decode by_B_refuseUnstarted 15 = .ok (.ldc 177, 2) := by decide +kernel
theorem de_B_refuseUnstarted_17 : decode by_B_refuseUnstarted 17 = .ok (.invokespecial 55, 3) := by decide +kernel
theorem de_B_refuseUnstarted_20 : decode by_B_refuseUnstarted 20 = .ok (.athrow, 1) := by decide +kernel
theorem de_B_refuseUnstarted_21 : decode by_B_refuseUnstarted 21 = .ok (.return_, 1) := by decide +kernel
theorem de_B_isInstruction_0 : decode by_B_isInstruction 0 = .ok (.iload_n 0, 1) := by decide +kernel
theorem de_B_isInstruction_1 : decode by_B_isInstruction 1 = .ok (.tableswitch 120 0 6 #[43, 48, 68, 68, 68, 95, 115], 43) := by decide +kernel
theorem de_B_isInstruction_44 : decode by_B_isInstruction 44 = .ok (.iload_n 1, 1) := by decide +kernel
theorem de_B_isInstruction_45 : decode by_B_isInstruction 45 = .ok (.invokestatic 168, 3) := by decide +kernel
theorem de_B_isInstruction_48 : decode by_B_isInstruction 48 = .ok (.ireturn, 1) := by decide +kernel
theorem de_B_isInstruction_49 : decode by_B_isInstruction 49 = .ok (.iload_n 1, 1) := by decide +kernel
theorem de_B_isInstruction_50 : decode by_B_isInstruction 50 = .ok (.invokestatic 168, 3) := by decide +kernel
theorem de_B_isInstruction_53 : decode by_B_isInstruction 53 = .ok (.ifCond .eq 14, 3) := by decide +kernel
theorem de_B_isInstruction_56 : decode by_B_isInstruction 56 = .ok (.iload_n 2, 1) := by decide +kernel
theorem de_B_isInstruction_57 : decode by_B_isInstruction 57 = .ok (.invokestatic 168, 3) := by decide +kernel
theorem de_B_isInstruction_60 : decode by_B_isInstruction 60 = .ok (.ifCond .eq 7, 3) := by decide +kernel
theorem de_B_isInstruction_63 : decode by_B_isInstruction 63 = .ok (.iconst 1, 1) := by decide +kernel
theorem de_B_isInstruction_64 : decode by_B_isInstruction 64 = .ok (.goto 4, 3) := by decide +kernel
theorem de_B_isInstruction_67 : decode by_B_isInstruction 67 = .ok (.iconst 0, 1) := by decide +kernel
theorem de_B_isInstruction_68 : decode by_B_isInstruction 68 = .ok (.ireturn, 1) := by decide +kernel
theorem de_B_isInstruction_69 : decode by_B_isInstruction 69 = .ok (.iload_n 1, 1) := by decide +kernel
theorem de_B_isInstruction_70 : decode by_B_isInstruction 70 = .ok (.invokestatic 168, 3) := by decide +kernel
theorem de_B_isInstruction_73 : decode by_B_isInstruction 73 = .ok (.ifCond .eq 21, 3) := by decide +kernel
theorem de_B_isInstruction_76 : decode by_B_isInstruction 76 = .ok (.iload_n 2, 1) := by decide +kernel
theorem de_B_isInstruction_77 : decode by_B_isInstruction 77 = .ok (.invokestatic 168, 3) := by decide +kernel
theorem de_B_isInstruction_80 : decode by_B_isInstruction 80 = .ok (.ifCond .eq 14, 3) := by decide +kernel
theorem de_B_isInstruction_83 : decode by_B_isInstruction 83 = .ok (.iload_n 3, 1) := by decide +kernel
theorem de_B_isInstruction_84 : decode by_B_isInstruction 84 = .ok (.invokestatic 168, 3) := by decide +kernel
theorem de_B_isInstruction_87 : decode by_B_isInstruction 87 = .ok (.ifCond .eq 7, 3) := by decide +kernel
theorem de_B_isInstruction_90 : decode by_B_isInstruction 90 = .ok (.iconst 1, 1) := by decide +kernel
theorem de_B_isInstruction_91 : decode by_B_isInstruction 91 = .ok (.goto 4, 3) := by decide +kernel
theorem de_B_isInstruction_94 : decode by_B_isInstruction 94 = .ok (.iconst 0, 1) := by decide +kernel
theorem de_B_isInstruction_95 : decode by_B_isInstruction 95 = .ok (.ireturn, 1) := by decide +kernel
theorem de_B_isInstruction_96 : decode by_B_isInstruction 96 = .ok (.iload_n 1, 1) := by decide +kernel
theorem de_B_isInstruction_97 : decode by_B_isInstruction 97 = .ok (.invokestatic 168, 3) := by decide +kernel
theorem de_B_isInstruction_100 : decode by_B_isInstruction 100 = .ok (.ifCond .eq 14, 3) := by decide +kernel
theorem de_B_isInstruction_103 : decode by_B_isInstruction 103 = .ok (.iload_n 2, 1) := by decide +kernel
theorem de_B_isInstruction_104 : decode by_B_isInstruction 104 = .ok (.invokestatic 179, 3) := by decide +kernel
theorem de_B_isInstruction_107 : decode by_B_isInstruction 107 = .ok (.ifCond .eq 7, 3) := by decide +kernel
theorem de_B_isInstruction_110 : decode by_B_isInstruction 110 = .ok (.iconst 1, 1) := by decide +kernel
theorem de_B_isInstruction_111 : decode by_B_isInstruction 111 = .ok (.goto 4, 3) := by decide +kernel
theorem de_B_isInstruction_114 : decode by_B_isInstruction 114 = .ok (.iconst 0, 1) := by decide +kernel
theorem de_B_isInstruction_115 : decode by_B_isInstruction 115 = .ok (.ireturn, 1) := by decide +kernel
theorem de_B_isInstruction_116 : decode by_B_isInstruction 116 = .ok (.iload_n 2, 1) := by decide +kernel
theorem de_B_isInstruction_117 : decode by_B_isInstruction 117 = .ok (.invokestatic 179, 3) := by decide +kernel
theorem de_B_isInstruction_120 : decode by_B_isInstruction 120 = .ok (.ireturn, 1) := by decide +kernel
theorem de_B_isInstruction_121 : decode by_B_isInstruction 121 = .ok (.iload_n 0, 1) := by decide +kernel
theorem de_B_isInstruction_122 : decode by_B_isInstruction 122 = .ok (.bipush 7, 2) := by decide +kernel
theorem de_B_isInstruction_124 : decode by_B_isInstruction 124 = .ok (.if_icmp .ne 7, 3) := by decide +kernel
theorem de_B_isInstruction_127 : decode by_B_isInstruction 127 = .ok (.iconst 1, 1) := by decide +kernel
theorem de_B_isInstruction_128 : decode by_B_isInstruction 128 = .ok (.goto 4, 3) := by decide +kernel
theorem de_B_isInstruction_131 : decode by_B_isInstruction 131 = .ok (.iconst 0, 1) := by decide +kernel
theorem de_B_isInstruction_132 : decode by_B_isInstruction 132 = .ok (.ireturn, 1) := by decide +kernel
theorem de_B_isVariable_0 : decode by_B_isVariable 0 = .ok (.iload_n 0, 1) := by decide +kernel
theorem de_B_isVariable_1 : decode by_B_isVariable 1 = .ok (.ifCond .lt 13, 3) := by decide +kernel
theorem de_B_isVariable_4 : decode by_B_isVariable 4 = .ok (.iload_n 0, 1) := by decide +kernel
theorem de_B_isVariable_5 : decode by_B_isVariable 5 = .ok (.bipush 6, 2) := by decide +kernel
theorem de_B_isVariable_7 : decode by_B_isVariable 7 = .ok (.if_icmp .ge 7, 3) := by decide +kernel
theorem de_B_isVariable_10 : decode by_B_isVariable 10 = .ok (.iconst 1, 1) := by decide +kernel
theorem de_B_isVariable_11 : decode by_B_isVariable 11 = .ok (.goto 4, 3) := by decide +kernel
theorem de_B_isVariable_14 : decode by_B_isVariable 14 = .ok (.iconst 0, 1) := by decide +kernel
theorem de_B_isVariable_15 : decode by_B_isVariable 15 = .ok (.ireturn, 1) := by decide +kernel
theorem de_B_isTarget_0 : decode by_B_isTarget 0 = .ok (.iload_n 0, 1) := by decide +kernel
theorem de_B_isTarget_1 : decode by_B_isTarget 1 = .ok (.ifCond .lt 13, 3) := by decide +kernel
theorem de_B_isTarget_4 : decode by_B_isTarget 4 = .ok (.iload_n 0, 1) := by decide +kernel
theorem de_B_isTarget_5 : decode by_B_isTarget 5 = .ok (.bipush 40, 2) := by decide +kernel
theorem de_B_isTarget_7 : decode by_B_isTarget 7 = .ok (.if_icmp .gt 7, 3) := by decide +kernel
theorem de_B_isTarget_10 : decode by_B_isTarget 10 = .ok (.iconst 1, 1) := by decide +kernel
theorem de_B_isTarget_11 : decode by_B_isTarget 11 = .ok (.goto 4, 3) := by decide +kernel
theorem de_B_isTarget_14 : decode by_B_isTarget 14 = .ok (.iconst 0, 1) := by decide +kernel
theorem de_B_isTarget_15 : decode by_B_isTarget 15 = .ok (.ireturn, 1) := by decide +kernel
theorem de_B_cell_0 : decode by_B_cell 0 = .ok (.iload_n 0, 1) := by decide +kernel
theorem de_B_cell_1 : decode by_B_cell 1 = .ok (.bipush 6, 2) := by decide +kernel
theorem de_B_cell_3 : decode by_B_cell 3 = .ok (.imul, 1) := by decide +kernel
theorem de_B_cell_4 : decode by_B_cell 4 = .ok (.iload_n 1, 1) := by decide +kernel
theorem de_B_cell_5 : decode by_B_cell 5 = .ok (.iadd, 1) := by decide +kernel
theorem de_B_cell_6 : decode by_B_cell 6 = .ok (.ireturn, 1) := by decide +kernel
theorem de_B_calculate_0 : decode by_B_calculate 0 = .ok (.iload_n 0, 1) := by decide +kernel
theorem de_B_calculate_1 : decode by_B_calculate 1 = .ok (.lookupswitch 35 #[(2, 27), (3, 31)], 27) := by decide +kernel
theorem de_B_calculate_28 : decode by_B_calculate 28 = .ok (.iload_n 1, 1) := by decide +kernel
theorem de_B_calculate_29 : decode by_B_calculate 29 = .ok (.iload_n 2, 1) := by decide +kernel
theorem de_B_calculate_30 : decode by_B_calculate 30 = .ok (.iadd, 1) := by decide +kernel
theorem de_B_calculate_31 : decode by_B_calculate 31 = .ok (.ireturn, 1) := by decide +kernel
theorem de_B_calculate_32 : decode by_B_calculate 32 = .ok (.iload_n 1, 1) := by decide +kernel
theorem de_B_calculate_33 : decode by_B_calculate 33 = .ok (.iload_n 2, 1) := by decide +kernel
theorem de_B_calculate_34 : decode by_B_calculate 34 = .ok (.isub, 1) := by decide +kernel
theorem de_B_calculate_35 : decode by_B_calculate 35 = .ok (.ireturn, 1) := by decide +kernel
theorem de_B_calculate_36 : decode by_B_calculate 36 = .ok (.iload_n 1, 1) := by decide +kernel
theorem de_B_calculate_37 : decode by_B_calculate 37 = .ok (.iload_n 2, 1) := by decide +kernel
theorem de_B_calculate_38 : decode by_B_calculate 38 = .ok (.imul, 1) := by decide +kernel
theorem de_B_calculate_39 : decode by_B_calculate 39 = .ok (.ireturn, 1) := by decide +kernel
