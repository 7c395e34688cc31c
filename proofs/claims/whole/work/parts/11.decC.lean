/-! decode rows, by program -/
theorem de_C_init_0 : decode by_C_init 0 = .ok (.aload_n 0, 1) := by decide +kernel
theorem de_C_init_1 : decode by_C_init 1 = .ok (.invokespecial 3, 3) := by decide +kernel
theorem de_C_init_4 : decode by_C_init 4 = .ok (.aload_n 0, 1) := by decide +kernel
theorem de_C_init_5 : decode by_C_init 5 = .ok (.bipush 40, 2) := by decide +kernel
theorem de_C_init_7 : decode by_C_init 7 = .ok (.newarray .int, 2) := by decide +kernel
theorem de_C_init_9 : decode by_C_init 9 = .ok (.putfield 9, 3) := by decide +kernel
theorem de_C_init_12 : decode by_C_init 12 = .ok (.aload_n 0, 1) := by decide +kernel
theorem de_C_init_13 : decode by_C_init 13 = .ok (.bipush 40, 2) := by decide +kernel
theorem de_C_init_15 : decode by_C_init 15 = .ok (.newarray .int, 2) := by decide +kernel
theorem de_C_init_17 : decode by_C_init 17 = .ok (.putfield 15, 3) := by decide +kernel
theorem de_C_init_20 : decode by_C_init 20 = .ok (.aload_n 0, 1) := by decide +kernel
theorem de_C_init_21 : decode by_C_init 21 = .ok (.bipush 40, 2) := by decide +kernel
theorem de_C_init_23 : decode by_C_init 23 = .ok (.newarray .int, 2) := by decide +kernel
theorem de_C_init_25 : decode by_C_init 25 = .ok (.putfield 18, 3) := by decide +kernel
theorem de_C_init_28 : decode by_C_init 28 = .ok (.aload_n 0, 1) := by decide +kernel
theorem de_C_init_29 : decode by_C_init 29 = .ok (.bipush 40, 2) := by decide +kernel
theorem de_C_init_31 : decode by_C_init 31 = .ok (.newarray .int, 2) := by decide +kernel
theorem de_C_init_33 : decode by_C_init 33 = .ok (.putfield 21, 3) := by decide +kernel
theorem de_C_init_36 : decode by_C_init 36 = .ok (.return_, 1) := by decide +kernel
theorem de_C_put_0 : decode by_C_put 0 = .ok (.aload_n 0, 1) := by decide +kernel
theorem de_C_put_1 : decode by_C_put 1 = .ok (.getfield 9, 3) := by decide +kernel
theorem de_C_put_4 : decode by_C_put 4 = .ok (.iload_n 1, 1) := by decide +kernel
theorem de_C_put_5 : decode by_C_put 5 = .ok (.iload_n 2, 1) := by decide +kernel
theorem de_C_put_6 : decode by_C_put 6 = .ok (.iastore, 1) := by decide +kernel
theorem de_C_put_7 : decode by_C_put 7 = .ok (.aload_n 0, 1) := by decide +kernel
theorem de_C_put_8 : decode by_C_put 8 = .ok (.getfield 15, 3) := by decide +kernel
theorem de_C_put_11 : decode by_C_put 11 = .ok (.iload_n 1, 1) := by decide +kernel
theorem de_C_put_12 : decode by_C_put 12 = .ok (.iload_n 2, 1) := by decide +kernel
theorem de_C_put_13 : decode by_C_put 13 = .ok (.bipush 6, 2) := by decide +kernel
theorem de_C_put_15 : decode by_C_put 15 = .ok (.if_icmp .eq 9, 3) := by decide +kernel
theorem de_C_put_18 : decode by_C_put 18 = .ok (.iload_n 2, 1) := by decide +kernel
theorem de_C_put_19 : decode by_C_put 19 = .ok (.bipush 7, 2) := by decide +kernel
theorem de_C_put_21 : decode by_C_put 21 = .ok (.if_icmp .ne 7, 3) := by decide +kernel
theorem de_C_put_24 : decode by_C_put 24 = .ok (.iconst 0, 1) := by decide +kernel
theorem de_C_put_25 : decode by_C_put 25 = .ok (.goto 4, 3) := by decide +kernel
theorem de_C_put_28 : decode by_C_put 28 = .ok (.iload_n 3, 1) := by decide +kernel
theorem de_C_put_29 : decode by_C_put 29 = .ok (.iastore, 1) := by decide +kernel
theorem de_C_put_30 : decode by_C_put 30 = .ok (.aload_n 0, 1) := by decide +kernel
theorem de_C_put_31 : decode by_C_put 31 = .ok (.getfield 18, 3) := by decide +kernel
theorem de_C_put_34 : decode by_C_put 34 = .ok (.iload_n 1, 1) := by decide +kernel
theorem de_C_put_35 : decode by_C_put 35 = .ok (.iload_n 2, 1) := by decide +kernel
theorem de_C_put_36 : decode by_C_put 36 = .ok (.bipush 7, 2) := by decide +kernel
theorem de_C_put_38 : decode by_C_put 38 = .ok (.if_icmp .ne 7, 3) := by decide +kernel
theorem de_C_put_41 : decode by_C_put 41 = .ok (.iconst 0, 1) := by decide +kernel
theorem de_C_put_42 : decode by_C_put 42 = .ok (.goto 5, 3) := by decide +kernel
theorem de_C_put_45 : decode by_C_put 45 = .ok (.iload 4, 2) := by decide +kernel
theorem de_C_put_47 : decode by_C_put 47 = .ok (.iastore, 1) := by decide +kernel
theorem de_C_put_48 : decode by_C_put 48 = .ok (.aload_n 0, 1) := by decide +kernel
theorem de_C_put_49 : decode by_C_put 49 = .ok (.getfield 21, 3) := by decide +kernel
theorem de_C_put_52 : decode by_C_put 52 = .ok (.iload_n 1, 1) := by decide +kernel
theorem de_C_put_53 : decode by_C_put 53 = .ok (.iload_n 2, 1) := by decide +kernel
theorem de_C_put_54 : decode by_C_put 54 = .ok (.iconst 2, 1) := by decide +kernel
theorem de_C_put_55 : decode by_C_put 55 = .ok (.if_icmp .eq 13, 3) := by decide +kernel
theorem de_C_put_58 : decode by_C_put 58 = .ok (.iload_n 2, 1) := by decide +kernel
theorem de_C_put_59 : decode by_C_put 59 = .ok (.iconst 3, 1) := by decide +kernel
theorem de_C_put_60 : decode by_C_put 60 = .ok (.if_icmp .eq 8, 3) := by decide +kernel
theorem de_C_put_63 : decode by_C_put 63 = .ok (.iload_n 2, 1) := by decide +kernel
theorem de_C_put_64 : decode by_C_put 64 = .ok (.iconst 4, 1) := by decide +kernel
theorem de_C_put_65 : decode by_C_put 65 = .ok (.if_icmp .ne 8, 3) := by decide +kernel
theorem de_C_put_68 : decode by_C_put 68 = .ok (.iload 5, 2) := by decide +kernel
theorem de_C_put_70 : decode by_C_put 70 = .ok (.goto 4, 3) := by decide +kernel
theorem de_C_put_73 : decode by_C_put 73 = .ok (.iconst 0, 1) := by decide +kernel
theorem de_C_put_74 : decode by_C_put 74 = .ok (.iastore, 1) := by decide +kernel
theorem de_C_put_75 : decode by_C_put 75 = .ok (.return_, 1) := by decide +kernel
theorem de_C_putAllOf_0 : decode by_C_putAllOf 0 = .ok (.aload_n 0, 1) := by decide +kernel
theorem de_C_putAllOf_1 : decode by_C_putAllOf 1 = .ok (.aload_n 1, 1) := by decide +kernel
theorem de_C_putAllOf_2 : decode by_C_putAllOf 2 = .ok (.getfield 24, 3) := by decide +kernel
theorem de_C_putAllOf_5 : decode by_C_putAllOf 5 = .ok (.putfield 24, 3) := by decide +kernel
theorem de_C_putAllOf_8 : decode by_C_putAllOf 8 = .ok (.iconst 0, 1) := by decide +kernel
theorem de_C_putAllOf_9 : decode by_C_putAllOf 9 = .ok (.istore_n 2, 1) := by decide +kernel
theorem de_C_putAllOf_10 : decode by_C_putAllOf 10 = .ok (.iload_n 2, 1) := by decide +kernel
theorem de_C_putAllOf_11 : decode by_C_putAllOf 11 = .ok (.aload_n 0, 1) := by decide +kernel
theorem de_C_putAllOf_12 : decode by_C_putAllOf 12 = .ok (.getfield 24, 3) := by decide +kernel
theorem de_C_putAllOf_15 : decode by_C_putAllOf 15 = .ok (.if_icmp .ge 38, 3) := by decide +kernel
theorem de_C_putAllOf_18 : decode by_C_putAllOf 18 = .ok (.aload_n 0, 1) := by decide +kernel
theorem de_C_putAllOf_19 : decode by_C_putAllOf 19 = .ok (.iload_n 2, 1) := by decide +kernel
theorem de_C_putAllOf_20 : decode by_C_putAllOf 20 = .ok (.aload_n 1, 1) := by decide +kernel
theorem de_C_putAllOf_21 : decode by_C_putAllOf 21 = .ok (.getfield 9, 3) := by decide +kernel
theorem de_C_putAllOf_24 : decode by_C_putAllOf 24 = .ok (.iload_n 2, 1) := by decide +kernel
theorem de_C_putAllOf_25 : decode by_C_putAllOf 25 = .ok (.iaload, 1) := by decide +kernel
theorem de_C_putAllOf_26 : decode by_C_putAllOf 26 = .ok (.aload_n 1, 1) := by decide +kernel
theorem de_C_putAllOf_27 : decode by_C_putAllOf 27 = .ok (.getfield 15, 3) := by decide +kernel
theorem de_C_putAllOf_30 : decode by_C_putAllOf 30 = .ok (.iload_n 2, 1) := by decide +kernel
theorem de_C_putAllOf_31 : decode by_C_putAllOf 31 = .ok (.iaload, 1) := by decide +kernel
theorem de_C_putAllOf_32 : decode by_C_putAllOf 32 = .ok (.aload_n 1, 1) := by decide +kernel
theorem de_C_putAllOf_33 : decode by_C_putAllOf 33 = .ok (.getfield 18, 3) := by decide +kernel
theorem de_C_putAllOf_36 : decode by_C_putAllOf 36 = .ok (.iload_n 2, 1) := by decide +kernel
theorem de_C_putAllOf_37 : decode by_C_putAllOf 37 = .ok (.iaload, 1) := by decide +kernel
theorem de_C_putAllOf_38 : decode by_C_putAllOf 38 = .ok (.aload_n 1, 1) := by decide +kernel
theorem de_C_putAllOf_39 : decode by_C_putAllOf 39 = .ok (.getfield 21, 3) := by decide +kernel
theorem de_C_putAllOf_42 : decode by_C_putAllOf 42 = .ok (.iload_n 2, 1) := by decide +kernel
theorem de_C_putAllOf_43 : decode by_C_putAllOf 43 = .ok (.iaload, 1) := by decide +kernel
theorem de_C_putAllOf_44 : decode by_C_putAllOf 44 = .ok (.invokevirtual 28, 3) := by decide +kernel
theorem de_C_putAllOf_47 : decode by_C_putAllOf 47 = .ok (.iinc 2 1, 3) := by decide +kernel
theorem de_C_putAllOf_50 : decode by_C_putAllOf 50 = .ok (.goto (-40), 3) := by decide +kernel
theorem de_C_putAllOf_53 : decode by_C_putAllOf 53 = .ok (.return_, 1) := by decide +kernel
theorem de_C_number_0 : decode by_C_number 0 = .ok (.iload_n 2, 1) := by decide +kernel
theorem de_C_number_1 : decode by_C_number 1 = .ok (.tableswitch 48 0 2 #[27, 34, 41], 27) := by decide +kernel
theorem de_C_number_28 : decode by_C_number 28 = .ok (.aload_n 0, 1) := by decide +kernel
theorem de_C_number_29 : decode by_C_number 29 = .ok (.getfield 9, 3) := by decide +kernel
theorem de_C_number_32 : decode by_C_number 32 = .ok (.iload_n 1, 1) := by decide +kernel
theorem de_C_number_33 : decode by_C_number 33 = .ok (.iaload, 1) := by decide +kernel
theorem de_C_number_34 : decode by_C_number 34 = .ok (.ireturn, 1) := by decide +kernel
theorem de_C_number_35 : decode by_C_number 35 = .ok (.aload_n 0, 1) := by decide +kernel
theorem de_C_number_36 : decode by_C_number 36 = .ok (.getfield 15, 3) := by decide +kernel
theorem de_C_number_39 : decode by_C_number 39 = .ok (.iload_n 1, 1) := by decide +kernel
theorem de_C_number_40 : decode by_C_number 40 = .ok (.iaload, 1) := by decide +kernel
theorem de_C_number_41 : decode by_C_number 41 = .ok (.ireturn, 1) := by decide +kernel
theorem de_C_number_42 : decode by_C_number 42 = .ok (.aload_n 0, 1) := by decide +kernel
theorem de_C_number_43 : decode by_C_number 43 = .ok (.getfield 18, 3) := by decide +kernel
theorem de_C_number_46 : decode by_C_number 46 = .ok (.iload_n 1, 1) := by decide +kernel
theorem de_C_number_47 : decode by_C_number 47 = .ok (.iaload, 1) := by decide +kernel
theorem de_C_number_48 : decode by_C_number 48 = .ok (.ireturn, 1) := by decide +kernel
theorem de_C_number_49 : decode by_C_number 49 = .ok (.aload_n 0, 1) := by decide +kernel
theorem de_C_number_50 : decode by_C_number 50 = .ok (.getfield 21, 3) := by decide +kernel
theorem de_C_number_53 : decode by_C_number 53 = .ok (.iload_n 1, 1) := by decide +kernel
theorem de_C_number_54 : decode by_C_number 54 = .ok (.iaload, 1) := by decide +kernel
theorem de_C_number_55 : decode by_C_number 55 = .ok (.ireturn, 1) := by decide +kernel
theorem de_C_assigns_0 : decode by_C_assigns 0 = .ok (.aload_n 0, 1) := by decide +kernel
theorem de_C_assigns_1 : decode by_C_assigns 1 = .ok (.getfield 9, 3) := by decide +kernel
theorem de_C_assigns_4 : decode by_C_assigns 4 = .ok (.iload_n 1, 1) := by decide +kernel
theorem de_C_assigns_5 : decode by_C_assigns 5 = .ok (.iaload, 1) := by decide +kernel
theorem de_C_assigns_6 : decode by_C_assigns 6 = .ok (.iconst 4, 1) := by decide +kernel
theorem de_C_assigns_7 : decode by_C_assigns 7 = .ok (.if_icmp .gt 7, 3) := by decide +kernel
theorem de_C_assigns_10 : decode by_C_assigns 10 = .ok (.iconst 1, 1) := by decide +kernel
theorem de_C_assigns_11 : decode by_C_assigns 11 = .ok (.goto 4, 3) := by decide +kernel
theorem de_C_assigns_14 : decode by_C_assigns 14 = .ok (.iconst 0, 1) := by decide +kernel
theorem de_C_assigns_15 : decode by_C_assigns 15 = .ok (.ireturn, 1) := by decide +kernel
theorem de_C_hasTarget_0 : decode by_C_hasTarget 0 = .ok (.aload_n 0, 1) := by decide +kernel
theorem de_C_hasTarget_1 : decode by_C_hasTarget 1 = .ok (.getfield 9, 3) := by decide +kernel
theorem de_C_hasTarget_4 : decode by_C_hasTarget 4 = .ok (.iload_n 1, 1) := by decide +kernel
theorem de_C_hasTarget_5 : decode by_C_hasTarget 5 = .ok (.iaload, 1) := by decide +kernel
theorem de_C_hasTarget_6 : decode by_C_hasTarget 6 = .ok (.iconst 5, 1) := by decide +kernel
theorem de_C_hasTarget_7 : decode by_C_hasTarget 7 = .ok (.if_icmp .eq 14, 3) := by decide +kernel
theorem de_C_hasTarget_10 : decode by_C_hasTarget 10 = .ok (.aload_n 0, 1) := by decide +kernel
theorem de_C_hasTarget_11 : decode by_C_hasTarget 11 = .ok (.getfield 9, 3) := by decide +kernel
theorem de_C_hasTarget_14 : decode by_C_hasTarget 14 = .ok (.iload_n 1, 1) := by decide +kernel
theorem de_C_hasTarget_15 : decode by_C_hasTarget 15 = .ok (.iaload, 1) := by decide +kernel
theorem de_C_hasTarget_16 : decode by_C_hasTarget 16 = .ok (.bipush 6, 2) := by decide +kernel
theorem de_C_hasTarget_18 : decode by_C_hasTarget 18 = .ok (.if_icmp .ne 7, 3) := by decide +kernel
theorem de_C_hasTarget_21 : decode by_C_hasTarget 21 = .ok (.iconst 1, 1) := by decide +kernel
theorem de_C_hasTarget_22 : decode by_C_hasTarget 22 = .ok (.goto 4, 3) := by decide +kernel
theorem de_C_hasTarget_25 : decode by_C_hasTarget 25 = .ok (.iconst 0, 1) := by decide +kernel
theorem de_C_hasTarget_26 : decode by_C_hasTarget 26 = .ok (.ireturn, 1) := by decide +kernel
theorem de_C_target_0 : decode by_C_target 0 = .ok (.aload_n 0, 1) := by decide +kernel
theorem de_C_target_1 : decode by_C_target 1 = .ok (.getfield 18, 3) := by decide +kernel
theorem de_C_target_4 : decode by_C_target 4 = .ok (.iload_n 1, 1) := by decide +kernel
theorem de_C_target_5 : decode by_C_target 5 = .ok (.iaload, 1) := by decide +kernel
theorem de_C_target_6 : decode by_C_target 6 = .ok (.aload_n 0, 1) := by decide +kernel
theorem de_C_target_7 : decode by_C_target 7 = .ok (.getfield 24, 3) := by decide +kernel
theorem de_C_target_10 : decode by_C_target 10 = .ok (.if_icmp .ge 12, 3) := by decide +kernel
theorem de_C_target_13 : decode by_C_target 13 = .ok (.aload_n 0, 1) := by decide +kernel
theorem de_C_target_14 : decode by_C_target 14 = .ok (.getfield 18, 3) := by decide +kernel
theorem de_C_target_17 : decode by_C_target 17 = .ok (.iload_n 1, 1) := by decide +kernel
theorem de_C_target_18 : decode by_C_target 18 = .ok (.iaload, 1) := by decide +kernel
theorem de_C_target_19 : decode by_C_target 19 = .ok (.goto 7, 3) := by decide +kernel
theorem de_C_target_22 : decode by_C_target 22 = .ok (.aload_n 0, 1) := by decide +kernel
theorem de_C_target_23 : decode by_C_target 23 = .ok (.getfield 24, 3) := by decide +kernel
theorem de_C_target_26 : decode by_C_target 26 = .ok (.ireturn, 1) := by decide +kernel
