/-! decode rows of the law's helpers, by program -/
theorem de_L_add_0 : decode by_L_add 0 = .ok (.aload 5, 2) := by decide +kernel
theorem de_L_add_2 : decode by_L_add 2 = .ok (.iconst 0, 1) := by decide +kernel
theorem de_L_add_3 : decode by_L_add 3 = .ok (.aload_n 0, 1) := by decide +kernel
theorem de_L_add_4 : decode by_L_add 4 = .ok (.iload_n 1, 1) := by decide +kernel
theorem de_L_add_5 : decode by_L_add 5 = .ok (.iload_n 2, 1) := by decide +kernel
theorem de_L_add_6 : decode by_L_add 6 = .ok (.iload_n 3, 1) := by decide +kernel
theorem de_L_add_7 : decode by_L_add 7 = .ok (.iload 4, 2) := by decide +kernel
theorem de_L_add_9 : decode by_L_add 9 = .ok (.invokevirtual 7, 3) := by decide +kernel
theorem de_L_add_12 : decode by_L_add 12 = .ok (.i2l, 1) := by decide +kernel
theorem de_L_add_13 : decode by_L_add 13 = .ok (.lastore, 1) := by decide +kernel
theorem de_L_add_14 : decode by_L_add 14 = .ok (.goto 11, 3) := by decide +kernel
theorem de_L_add_17 : decode by_L_add 17 = .ok (.astore 6, 2) := by decide +kernel
theorem de_L_add_19 : decode by_L_add 19 = .ok (.iconst 1, 1) := by decide +kernel
theorem de_L_add_20 : decode by_L_add 20 = .ok (.ireturn, 1) := by decide +kernel
theorem de_L_add_21 : decode by_L_add 21 = .ok (.astore 6, 2) := by decide +kernel
theorem de_L_add_23 : decode by_L_add 23 = .ok (.iconst 2, 1) := by decide +kernel
theorem de_L_add_24 : decode by_L_add 24 = .ok (.ireturn, 1) := by decide +kernel
theorem de_L_add_25 : decode by_L_add 25 = .ok (.iconst 0, 1) := by decide +kernel
theorem de_L_add_26 : decode by_L_add 26 = .ok (.ireturn, 1) := by decide +kernel
theorem de_L_change_0 : decode by_L_change 0 = .ok (.aload_n 0, 1) := by decide +kernel
theorem de_L_change_1 : decode by_L_change 1 = .ok (.iload_n 1, 1) := by decide +kernel
theorem de_L_change_2 : decode by_L_change 2 = .ok (.iload_n 2, 1) := by decide +kernel
theorem de_L_change_3 : decode by_L_change 3 = .ok (.iload_n 3, 1) := by decide +kernel
theorem de_L_change_4 : decode by_L_change 4 = .ok (.iload 4, 2) := by decide +kernel
theorem de_L_change_6 : decode by_L_change 6 = .ok (.iload 5, 2) := by decide +kernel
theorem de_L_change_8 : decode by_L_change 8 = .ok (.invokevirtual 17, 3) := by decide +kernel
theorem de_L_change_11 : decode by_L_change 11 = .ok (.goto 11, 3) := by decide +kernel
theorem de_L_change_14 : decode by_L_change 14 = .ok (.astore 6, 2) := by decide +kernel
theorem de_L_change_16 : decode by_L_change 16 = .ok (.iconst 1, 1) := by decide +kernel
theorem de_L_change_17 : decode by_L_change 17 = .ok (.ireturn, 1) := by decide +kernel
theorem de_L_change_18 : decode by_L_change 18 = .ok (.astore 6, 2) := by decide +kernel
theorem de_L_change_20 : decode by_L_change 20 = .ok (.iconst 2, 1) := by decide +kernel
theorem de_L_change_21 : decode by_L_change 21 = .ok (.ireturn, 1) := by decide +kernel
theorem de_L_change_22 : decode by_L_change 22 = .ok (.iconst 0, 1) := by decide +kernel
theorem de_L_change_23 : decode by_L_change 23 = .ok (.ireturn, 1) := by decide +kernel
theorem de_L_reached_0 : decode by_L_reached 0 = .ok (.aload_n 2, 1) := by decide +kernel
theorem de_L_reached_1 : decode by_L_reached 1 = .ok (.iconst 0, 1) := by decide +kernel
theorem de_L_reached_2 : decode by_L_reached 2 = .ok (.aload_n 0, 1) := by decide +kernel
theorem de_L_reached_3 : decode by_L_reached 3 = .ok (.iload_n 1, 1) := by decide +kernel
theorem de_L_reached_4 : decode by_L_reached 4 = .ok (.invokevirtual 23, 3) := by decide +kernel
theorem de_L_reached_7 : decode by_L_reached 7 = .ok (.ifCond .eq 7, 3) := by decide +kernel
theorem de_L_reached_10 : decode by_L_reached 10 = .ok (.lconst 1, 1) := by decide +kernel
theorem de_L_reached_11 : decode by_L_reached 11 = .ok (.goto 4, 3) := by decide +kernel
theorem de_L_reached_14 : decode by_L_reached 14 = .ok (.lconst 0, 1) := by decide +kernel
theorem de_L_reached_15 : decode by_L_reached 15 = .ok (.lastore, 1) := by decide +kernel
theorem de_L_reached_16 : decode by_L_reached 16 = .ok (.goto 6, 3) := by decide +kernel
theorem de_L_reached_19 : decode by_L_reached 19 = .ok (.astore_n 3, 1) := by decide +kernel
theorem de_L_reached_20 : decode by_L_reached 20 = .ok (.iconst 1, 1) := by decide +kernel
theorem de_L_reached_21 : decode by_L_reached 21 = .ok (.ireturn, 1) := by decide +kernel
theorem de_L_reached_22 : decode by_L_reached 22 = .ok (.iconst 0, 1) := by decide +kernel
theorem de_L_reached_23 : decode by_L_reached 23 = .ok (.ireturn, 1) := by decide +kernel
theorem de_L_known_0 : decode by_L_known 0 = .ok (.aload_n 3, 1) := by decide +kernel
theorem de_L_known_1 : decode by_L_known 1 = .ok (.iconst 0, 1) := by decide +kernel
theorem de_L_known_2 : decode by_L_known 2 = .ok (.aload_n 0, 1) := by decide +kernel
theorem de_L_known_3 : decode by_L_known 3 = .ok (.iload_n 1, 1) := by decide +kernel
theorem de_L_known_4 : decode by_L_known 4 = .ok (.iload_n 2, 1) := by decide +kernel
theorem de_L_known_5 : decode by_L_known 5 = .ok (.invokevirtual 27, 3) := by decide +kernel
theorem de_L_known_8 : decode by_L_known 8 = .ok (.i2l, 1) := by decide +kernel
theorem de_L_known_9 : decode by_L_known 9 = .ok (.lastore, 1) := by decide +kernel
theorem de_L_known_10 : decode by_L_known 10 = .ok (.goto 7, 3) := by decide +kernel
theorem de_L_known_13 : decode by_L_known 13 = .ok (.astore 4, 2) := by decide +kernel
theorem de_L_known_15 : decode by_L_known 15 = .ok (.iconst 1, 1) := by decide +kernel
theorem de_L_known_16 : decode by_L_known 16 = .ok (.ireturn, 1) := by decide +kernel
theorem de_L_known_17 : decode by_L_known 17 = .ok (.iconst 0, 1) := by decide +kernel
theorem de_L_known_18 : decode by_L_known 18 = .ok (.ireturn, 1) := by decide +kernel
theorem de_L_constant_0 : decode by_L_constant 0 = .ok (.aload_n 3, 1) := by decide +kernel
theorem de_L_constant_1 : decode by_L_constant 1 = .ok (.iconst 0, 1) := by decide +kernel
theorem de_L_constant_2 : decode by_L_constant 2 = .ok (.aload_n 0, 1) := by decide +kernel
theorem de_L_constant_3 : decode by_L_constant 3 = .ok (.iload_n 1, 1) := by decide +kernel
theorem de_L_constant_4 : decode by_L_constant 4 = .ok (.iload_n 2, 1) := by decide +kernel
theorem de_L_constant_5 : decode by_L_constant 5 = .ok (.invokevirtual 31, 3) := by decide +kernel
theorem de_L_constant_8 : decode by_L_constant 8 = .ok (.i2l, 1) := by decide +kernel
theorem de_L_constant_9 : decode by_L_constant 9 = .ok (.lastore, 1) := by decide +kernel
theorem de_L_constant_10 : decode by_L_constant 10 = .ok (.goto 7, 3) := by decide +kernel
theorem de_L_constant_13 : decode by_L_constant 13 = .ok (.astore 4, 2) := by decide +kernel
theorem de_L_constant_15 : decode by_L_constant 15 = .ok (.iconst 1, 1) := by decide +kernel
theorem de_L_constant_16 : decode by_L_constant 16 = .ok (.ireturn, 1) := by decide +kernel
theorem de_L_constant_17 : decode by_L_constant 17 = .ok (.iconst 0, 1) := by decide +kernel
theorem de_L_constant_18 : decode by_L_constant 18 = .ok (.ireturn, 1) := by decide +kernel
theorem de_L_rewrite_0 : decode by_L_rewrite 0 = .ok (.aload_n 1, 1) := by decide +kernel
theorem de_L_rewrite_1 : decode by_L_rewrite 1 = .ok (.iconst 0, 1) := by decide +kernel
theorem de_L_rewrite_2 : decode by_L_rewrite 2 = .ok (.aload_n 0, 1) := by decide +kernel
theorem de_L_rewrite_3 : decode by_L_rewrite 3 = .ok (.invokevirtual 34, 3) := by decide +kernel
theorem de_L_rewrite_6 : decode by_L_rewrite 6 = .ok (.i2l, 1) := by decide +kernel
theorem de_L_rewrite_7 : decode by_L_rewrite 7 = .ok (.lastore, 1) := by decide +kernel
theorem de_L_rewrite_8 : decode by_L_rewrite 8 = .ok (.goto 6, 3) := by decide +kernel
theorem de_L_rewrite_11 : decode by_L_rewrite 11 = .ok (.astore_n 2, 1) := by decide +kernel
theorem de_L_rewrite_12 : decode by_L_rewrite 12 = .ok (.iconst 1, 1) := by decide +kernel
theorem de_L_rewrite_13 : decode by_L_rewrite 13 = .ok (.ireturn, 1) := by decide +kernel
theorem de_L_rewrite_14 : decode by_L_rewrite 14 = .ok (.iconst 0, 1) := by decide +kernel
theorem de_L_rewrite_15 : decode by_L_rewrite 15 = .ok (.ireturn, 1) := by decide +kernel
theorem de_L_code_0 : decode by_L_code 0 = .ok (.aload 4, 2) := by decide +kernel
theorem de_L_code_2 : decode by_L_code 2 = .ok (.iconst 0, 1) := by decide +kernel
theorem de_L_code_3 : decode by_L_code 3 = .ok (.aload_n 0, 1) := by decide +kernel
theorem de_L_code_4 : decode by_L_code 4 = .ok (.iload_n 1, 1) := by decide +kernel
theorem de_L_code_5 : decode by_L_code 5 = .ok (.iload_n 2, 1) := by decide +kernel
theorem de_L_code_6 : decode by_L_code 6 = .ok (.iload_n 3, 1) := by decide +kernel
theorem de_L_code_7 : decode by_L_code 7 = .ok (.invokevirtual 38, 3) := by decide +kernel
theorem de_L_code_10 : decode by_L_code 10 = .ok (.i2l, 1) := by decide +kernel
theorem de_L_code_11 : decode by_L_code 11 = .ok (.lastore, 1) := by decide +kernel
theorem de_L_code_12 : decode by_L_code 12 = .ok (.goto 11, 3) := by decide +kernel
theorem de_L_code_15 : decode by_L_code 15 = .ok (.astore 5, 2) := by decide +kernel
theorem de_L_code_17 : decode by_L_code 17 = .ok (.iconst 1, 1) := by decide +kernel
theorem de_L_code_18 : decode by_L_code 18 = .ok (.ireturn, 1) := by decide +kernel
theorem de_L_code_19 : decode by_L_code 19 = .ok (.astore 5, 2) := by decide +kernel
theorem de_L_code_21 : decode by_L_code 21 = .ok (.iconst 2, 1) := by decide +kernel
theorem de_L_code_22 : decode by_L_code 22 = .ok (.ireturn, 1) := by decide +kernel
theorem de_L_code_23 : decode by_L_code 23 = .ok (.iconst 0, 1) := by decide +kernel
theorem de_L_code_24 : decode by_L_code 24 = .ok (.ireturn, 1) := by decide +kernel
theorem de_L_start_0 : decode by_L_start 0 = .ok (.aload_n 0, 1) := by decide +kernel
theorem de_L_start_1 : decode by_L_start 1 = .ok (.iload_n 1, 1) := by decide +kernel
theorem de_L_start_2 : decode by_L_start 2 = .ok (.iload_n 2, 1) := by decide +kernel
theorem de_L_start_3 : decode by_L_start 3 = .ok (.iload_n 3, 1) := by decide +kernel
theorem de_L_start_4 : decode by_L_start 4 = .ok (.iload 4, 2) := by decide +kernel
theorem de_L_start_6 : decode by_L_start 6 = .ok (.iload 5, 2) := by decide +kernel
theorem de_L_start_8 : decode by_L_start 8 = .ok (.invokevirtual 42, 3) := by decide +kernel
theorem de_L_start_11 : decode by_L_start 11 = .ok (.goto 11, 3) := by decide +kernel
theorem de_L_start_14 : decode by_L_start 14 = .ok (.astore 6, 2) := by decide +kernel
theorem de_L_start_16 : decode by_L_start 16 = .ok (.iconst 1, 1) := by decide +kernel
theorem de_L_start_17 : decode by_L_start 17 = .ok (.ireturn, 1) := by decide +kernel
theorem de_L_start_18 : decode by_L_start 18 = .ok (.astore 6, 2) := by decide +kernel
theorem de_L_start_20 : decode by_L_start 20 = .ok (.iconst 2, 1) := by decide +kernel
theorem de_L_start_21 : decode by_L_start 21 = .ok (.ireturn, 1) := by decide +kernel
theorem de_L_start_22 : decode by_L_start 22 = .ok (.iconst 0, 1) := by decide +kernel
theorem de_L_start_23 : decode by_L_start 23 = .ok (.ireturn, 1) := by decide +kernel
theorem de_L_run_0 : decode by_L_run 0 = .ok (.aload_n 3, 1) := by decide +kernel
theorem de_L_run_1 : decode by_L_run 1 = .ok (.iconst 0, 1) := by decide +kernel
theorem de_L_run_2 : decode by_L_run 2 = .ok (.aload_n 0, 1) := by decide +kernel
theorem de_L_run_3 : decode by_L_run 3 = .ok (.iload_n 1, 1) := by decide +kernel
theorem de_L_run_4 : decode by_L_run 4 = .ok (.iload_n 2, 1) := by decide +kernel
theorem de_L_run_5 : decode by_L_run 5 = .ok (.invokevirtual 45, 3) := by decide +kernel
theorem de_L_run_8 : decode by_L_run 8 = .ok (.i2l, 1) := by decide +kernel
theorem de_L_run_9 : decode by_L_run 9 = .ok (.lastore, 1) := by decide +kernel
theorem de_L_run_10 : decode by_L_run 10 = .ok (.goto 15, 3) := by decide +kernel
theorem de_L_run_13 : decode by_L_run 13 = .ok (.astore 4, 2) := by decide +kernel
theorem de_L_run_15 : decode by_L_run 15 = .ok (.iconst 1, 1) := by decide +kernel
theorem de_L_run_16 : decode by_L_run 16 = .ok (.ireturn, 1) := by decide +kernel
theorem de_L_run_17 : decode by_L_run 17 = .ok (.astore 4, 2) := by decide +kernel
theorem de_L_run_19 : decode by_L_run 19 = .ok (.iconst 2, 1) := by decide +kernel
theorem de_L_run_20 : decode by_L_run 20 = .ok (.ireturn, 1) := by decide +kernel
theorem de_L_run_21 : decode by_L_run 21 = .ok (.astore 4, 2) := by decide +kernel
theorem de_L_run_23 : decode by_L_run 23 = .ok (.iconst 3, 1) := by decide +kernel
theorem de_L_run_24 : decode by_L_run 24 = .ok (.ireturn, 1) := by decide +kernel
theorem de_L_run_25 : decode by_L_run 25 = .ok (.iconst 0, 1) := by decide +kernel
theorem de_L_run_26 : decode by_L_run 26 = .ok (.ireturn, 1) := by decide +kernel
theorem de_L_place_0 : decode by_L_place 0 = .ok (.aload_n 2, 1) := by decide +kernel
theorem de_L_place_1 : decode by_L_place 1 = .ok (.iconst 0, 1) := by decide +kernel
theorem de_L_place_2 : decode by_L_place 2 = .ok (.aload_n 0, 1) := by decide +kernel
theorem de_L_place_3 : decode by_L_place 3 = .ok (.iload_n 1, 1) := by decide +kernel
theorem de_L_place_4 : decode by_L_place 4 = .ok (.invokevirtual 48, 3) := by decide +kernel
theorem de_L_place_7 : decode by_L_place 7 = .ok (.i2l, 1) := by decide +kernel
theorem de_L_place_8 : decode by_L_place 8 = .ok (.lastore, 1) := by decide +kernel
theorem de_L_place_9 : decode by_L_place 9 = .ok (.goto 9, 3) := by decide +kernel
theorem de_L_place_12 : decode by_L_place 12 = .ok (.astore_n 3, 1) := by decide +kernel
theorem de_L_place_13 : decode by_L_place 13 = .ok (.iconst 1, 1) := by decide +kernel
theorem de_L_place_14 : decode by_L_place 14 = .ok (.ireturn, 1) := by decide +kernel
theorem de_L_place_15 : decode by_L_place 15 = .ok (.astore_n 3, 1) := by decide +kernel
theorem de_L_place_16 : decode by_L_place 16 = .ok (.iconst 2, 1) := by decide +kernel
theorem de_L_place_17 : decode by_L_place 17 = .ok (.ireturn, 1) := by decide +kernel
theorem de_L_place_18 : decode by_L_place 18 = .ok (.iconst 0, 1) := by decide +kernel
theorem de_L_place_19 : decode by_L_place 19 = .ok (.ireturn, 1) := by decide +kernel
theorem de_L_value_0 : decode by_L_value 0 = .ok (.aload_n 3, 1) := by decide +kernel
theorem de_L_value_1 : decode by_L_value 1 = .ok (.iconst 0, 1) := by decide +kernel
theorem de_L_value_2 : decode by_L_value 2 = .ok (.aload_n 0, 1) := by decide +kernel
theorem de_L_value_3 : decode by_L_value 3 = .ok (.iload_n 1, 1) := by decide +kernel
theorem de_L_value_4 : decode by_L_value 4 = .ok (.iload_n 2, 1) := by decide +kernel
theorem de_L_value_5 : decode by_L_value 5 = .ok (.invokevirtual 52, 3) := by decide +kernel
theorem de_L_value_8 : decode by_L_value 8 = .ok (.i2l, 1) := by decide +kernel
theorem de_L_value_9 : decode by_L_value 9 = .ok (.lastore, 1) := by decide +kernel
theorem de_L_value_10 : decode by_L_value 10 = .ok (.goto 11, 3) := by decide +kernel
theorem de_L_value_13 : decode by_L_value 13 = .ok (.astore 4, 2) := by decide +kernel
theorem de_L_value_15 : decode by_L_value 15 = .ok (.iconst 1, 1) := by decide +kernel
theorem de_L_value_16 : decode by_L_value 16 = .ok (.ireturn, 1) := by decide +kernel
theorem de_L_value_17 : decode by_L_value 17 = .ok (.astore 4, 2) := by decide +kernel
theorem de_L_value_19 : decode by_L_value 19 = .ok (.iconst 2, 1) := by decide +kernel
theorem de_L_value_20 : decode by_L_value 20 = .ok (.ireturn, 1) := by decide +kernel
theorem de_L_value_21 : decode by_L_value 21 = .ok (.iconst 0, 1) := by decide +kernel
theorem de_L_value_22 : decode by_L_value 22 = .ok (.ireturn, 1) := by decide +kernel
theorem de_L_steps_0 : decode by_L_steps 0 = .ok (.aload_n 2, 1) := by decide +kernel
theorem de_L_steps_1 : decode by_L_steps 1 = .ok (.iconst 0, 1) := by decide +kernel
theorem de_L_steps_2 : decode by_L_steps 2 = .ok (.aload_n 0, 1) := by decide +kernel
theorem de_L_steps_3 : decode by_L_steps 3 = .ok (.iload_n 1, 1) := by decide +kernel
theorem de_L_steps_4 : decode by_L_steps 4 = .ok (.invokevirtual 55, 3) := by decide +kernel
theorem de_L_steps_7 : decode by_L_steps 7 = .ok (.i2l, 1) := by decide +kernel
theorem de_L_steps_8 : decode by_L_steps 8 = .ok (.lastore, 1) := by decide +kernel
theorem de_L_steps_9 : decode by_L_steps 9 = .ok (.goto 9, 3) := by decide +kernel
theorem de_L_steps_12 : decode by_L_steps 12 = .ok (.astore_n 3, 1) := by decide +kernel
theorem de_L_steps_13 : decode by_L_steps 13 = .ok (.iconst 1, 1) := by decide +kernel
theorem de_L_steps_14 : decode by_L_steps 14 = .ok (.ireturn, 1) := by decide +kernel
theorem de_L_steps_15 : decode by_L_steps 15 = .ok (.astore_n 3, 1) := by decide +kernel
theorem de_L_steps_16 : decode by_L_steps 16 = .ok (.iconst 2, 1) := by decide +kernel
theorem de_L_steps_17 : decode by_L_steps 17 = .ok (.ireturn, 1) := by decide +kernel
theorem de_L_steps_18 : decode by_L_steps 18 = .ok (.iconst 0, 1) := by decide +kernel
theorem de_L_steps_19 : decode by_L_steps 19 = .ok (.ireturn, 1) := by decide +kernel
