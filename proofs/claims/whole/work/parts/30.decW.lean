/-! decode rows, by program -/
theorem de_W_init_0 : decode by_W_init 0 = .ok (.aload_n 0, 1) := by decide +kernel
theorem de_W_init_1 : decode by_W_init 1 = .ok (.invokespecial 3, 3) := by decide +kernel
theorem de_W_init_4 : decode by_W_init 4 = .ok (.aload_n 0, 1) := by decide +kernel
theorem de_W_init_5 : decode by_W_init 5 = .ok (.bipush 40, 2) := by decide +kernel
theorem de_W_init_7 : decode by_W_init 7 = .ok (.newarray .boolean, 2) := by decide +kernel
theorem de_W_init_9 : decode by_W_init 9 = .ok (.putfield 9, 3) := by decide +kernel
theorem de_W_init_12 : decode by_W_init 12 = .ok (.aload_n 0, 1) := by decide +kernel
theorem de_W_init_13 : decode by_W_init 13 = .ok (.bipush 40, 2) := by decide +kernel
theorem de_W_init_15 : decode by_W_init 15 = .ok (.newarray .int, 2) := by decide +kernel
theorem de_W_init_17 : decode by_W_init 17 = .ok (.putfield 15, 3) := by decide +kernel
theorem de_W_init_20 : decode by_W_init 20 = .ok (.aload_n 0, 1) := by decide +kernel
theorem de_W_init_21 : decode by_W_init 21 = .ok (.bipush 41, 2) := by decide +kernel
theorem de_W_init_23 : decode by_W_init 23 = .ok (.newarray .int, 2) := by decide +kernel
theorem de_W_init_25 : decode by_W_init 25 = .ok (.putfield 19, 3) := by decide +kernel
theorem de_W_init_28 : decode by_W_init 28 = .ok (.return_, 1) := by decide +kernel
theorem de_W_perform_0 : decode by_W_perform 0 = .ok (.aload_n 3, 1) := by decide +kernel
theorem de_W_perform_1 : decode by_W_perform 1 = .ok (.aload_n 1, 1) := by decide +kernel
theorem de_W_perform_2 : decode by_W_perform 2 = .ok (.invokevirtual 22, 3) := by decide +kernel
theorem de_W_perform_5 : decode by_W_perform 5 = .ok (.aload_n 1, 1) := by decide +kernel
theorem de_W_perform_6 : decode by_W_perform 6 = .ok (.aload_n 2, 1) := by decide +kernel
theorem de_W_perform_7 : decode by_W_perform 7 = .ok (.aload_n 3, 1) := by decide +kernel
theorem de_W_perform_8 : decode by_W_perform 8 = .ok (.invokestatic 28, 3) := by decide +kernel
theorem de_W_perform_11 : decode by_W_perform 11 = .ok (.aload_n 3, 1) := by decide +kernel
theorem de_W_perform_12 : decode by_W_perform 12 = .ok (.invokestatic 32, 3) := by decide +kernel
theorem de_W_perform_15 : decode by_W_perform 15 = .ok (.aload_n 0, 1) := by decide +kernel
theorem de_W_perform_16 : decode by_W_perform 16 = .ok (.aload_n 3, 1) := by decide +kernel
theorem de_W_perform_17 : decode by_W_perform 17 = .ok (.invokevirtual 35, 3) := by decide +kernel
theorem de_W_perform_20 : decode by_W_perform 20 = .ok (.aload_n 0, 1) := by decide +kernel
theorem de_W_perform_21 : decode by_W_perform 21 = .ok (.aload_n 3, 1) := by decide +kernel
theorem de_W_perform_22 : decode by_W_perform 22 = .ok (.invokevirtual 38, 3) := by decide +kernel
theorem de_W_perform_25 : decode by_W_perform 25 = .ok (.aload_n 0, 1) := by decide +kernel
theorem de_W_perform_26 : decode by_W_perform 26 = .ok (.aload_n 3, 1) := by decide +kernel
theorem de_W_perform_27 : decode by_W_perform 27 = .ok (.invokevirtual 41, 3) := by decide +kernel
theorem de_W_perform_30 : decode by_W_perform 30 = .ok (.return_, 1) := by decide +kernel
theorem de_W_fold_0 : decode by_W_fold 0 = .ok (.iconst 0, 1) := by decide +kernel
theorem de_W_fold_1 : decode by_W_fold 1 = .ok (.istore_n 3, 1) := by decide +kernel
theorem de_W_fold_2 : decode by_W_fold 2 = .ok (.iload_n 3, 1) := by decide +kernel
theorem de_W_fold_3 : decode by_W_fold 3 = .ok (.aload_n 0, 1) := by decide +kernel
theorem de_W_fold_4 : decode by_W_fold 4 = .ok (.getfield 44, 3) := by decide +kernel
theorem de_W_fold_7 : decode by_W_fold 7 = .ok (.if_icmp .ge 91, 3) := by decide +kernel
theorem de_W_fold_10 : decode by_W_fold 10 = .ok (.aload_n 1, 1) := by decide +kernel
theorem de_W_fold_11 : decode by_W_fold 11 = .ok (.iload_n 3, 1) := by decide +kernel
theorem de_W_fold_12 : decode by_W_fold 12 = .ok (.invokevirtual 48, 3) := by decide +kernel
theorem de_W_fold_15 : decode by_W_fold 15 = .ok (.ifCond .ne 6, 3) := by decide +kernel
theorem de_W_fold_18 : decode by_W_fold 18 = .ok (.goto 74, 3) := by decide +kernel
theorem de_W_fold_21 : decode by_W_fold 21 = .ok (.aload_n 0, 1) := by decide +kernel
theorem de_W_fold_22 : decode by_W_fold 22 = .ok (.iload_n 3, 1) := by decide +kernel
theorem de_W_fold_23 : decode by_W_fold 23 = .ok (.invokevirtual 54, 3) := by decide +kernel
theorem de_W_fold_26 : decode by_W_fold 26 = .ok (.ifCond .eq 32, 3) := by decide +kernel
theorem de_W_fold_29 : decode by_W_fold 29 = .ok (.aload_n 1, 1) := by decide +kernel
theorem de_W_fold_30 : decode by_W_fold 30 = .ok (.aload_n 0, 1) := by decide +kernel
theorem de_W_fold_31 : decode by_W_fold 31 = .ok (.iload_n 3, 1) := by decide +kernel
theorem de_W_fold_32 : decode by_W_fold 32 = .ok (.invokevirtual 57, 3) := by decide +kernel
theorem de_W_fold_35 : decode by_W_fold 35 = .ok (.ifCond .eq 23, 3) := by decide +kernel
theorem de_W_fold_38 : decode by_W_fold 38 = .ok (.aload_n 2, 1) := by decide +kernel
theorem de_W_fold_39 : decode by_W_fold 39 = .ok (.iload_n 3, 1) := by decide +kernel
theorem de_W_fold_40 : decode by_W_fold 40 = .ok (.iconst 0, 1) := by decide +kernel
theorem de_W_fold_41 : decode by_W_fold 41 = .ok (.aload_n 0, 1) := by decide +kernel
theorem de_W_fold_42 : decode by_W_fold 42 = .ok (.getfield 61, 3) := by decide +kernel
theorem de_W_fold_45 : decode by_W_fold 45 = .ok (.iload_n 3, 1) := by decide +kernel
theorem de_W_fold_46 : decode by_W_fold 46 = .ok (.iaload, 1) := by decide +kernel
theorem de_W_fold_47 : decode by_W_fold 47 = .ok (.aload_n 1, 1) := by decide +kernel
theorem de_W_fold_48 : decode by_W_fold 48 = .ok (.getfield 64, 3) := by decide +kernel
theorem de_W_fold_51 : decode by_W_fold 51 = .ok (.iconst 0, 1) := by decide +kernel
theorem de_W_fold_52 : decode by_W_fold 52 = .ok (.invokevirtual 67, 3) := by decide +kernel
theorem de_W_fold_55 : decode by_W_fold 55 = .ok (.goto 37, 3) := by decide +kernel
theorem de_W_fold_58 : decode by_W_fold 58 = .ok (.aload_n 0, 1) := by decide +kernel
theorem de_W_fold_59 : decode by_W_fold 59 = .ok (.getfield 71, 3) := by decide +kernel
theorem de_W_fold_62 : decode by_W_fold 62 = .ok (.iload_n 3, 1) := by decide +kernel
theorem de_W_fold_63 : decode by_W_fold 63 = .ok (.iaload, 1) := by decide +kernel
theorem de_W_fold_64 : decode by_W_fold 64 = .ok (.iconst 5, 1) := by decide +kernel
theorem de_W_fold_65 : decode by_W_fold 65 = .ok (.if_icmp .ne 27, 3) := by decide +kernel
theorem de_W_fold_68 : decode by_W_fold 68 = .ok (.aload_n 1, 1) := by decide +kernel
theorem de_W_fold_69 : decode by_W_fold 69 = .ok (.aload_n 0, 1) := by decide +kernel
theorem de_W_fold_70 : decode by_W_fold 70 = .ok (.iload_n 3, 1) := by decide +kernel
theorem de_W_fold_71 : decode by_W_fold 71 = .ok (.invokevirtual 74, 3) := by decide +kernel
theorem de_W_fold_74 : decode by_W_fold 74 = .ok (.ifCond .eq 18, 3) := by decide +kernel
theorem de_W_fold_77 : decode by_W_fold 77 = .ok (.aload_n 2, 1) := by decide +kernel
theorem de_W_fold_78 : decode by_W_fold 78 = .ok (.iload_n 3, 1) := by decide +kernel
theorem de_W_fold_79 : decode by_W_fold 79 = .ok (.bipush 6, 2) := by decide +kernel
theorem de_W_fold_81 : decode by_W_fold 81 = .ok (.iconst 0, 1) := by decide +kernel
theorem de_W_fold_82 : decode by_W_fold 82 = .ok (.aload_n 1, 1) := by decide +kernel
theorem de_W_fold_83 : decode by_W_fold 83 = .ok (.aload_n 0, 1) := by decide +kernel
theorem de_W_fold_84 : decode by_W_fold 84 = .ok (.iload_n 3, 1) := by decide +kernel
theorem de_W_fold_85 : decode by_W_fold 85 = .ok (.invokevirtual 77, 3) := by decide +kernel
theorem de_W_fold_88 : decode by_W_fold 88 = .ok (.iconst 0, 1) := by decide +kernel
theorem de_W_fold_89 : decode by_W_fold 89 = .ok (.invokevirtual 67, 3) := by decide +kernel
theorem de_W_fold_92 : decode by_W_fold 92 = .ok (.iinc 3 1, 3) := by decide +kernel
theorem de_W_fold_95 : decode by_W_fold 95 = .ok (.goto (-93), 3) := by decide +kernel
theorem de_W_fold_98 : decode by_W_fold 98 = .ok (.return_, 1) := by decide +kernel
theorem de_W_thread_0 : decode by_W_thread 0 = .ok (.iconst 0, 1) := by decide +kernel
theorem de_W_thread_1 : decode by_W_thread 1 = .ok (.istore_n 1, 1) := by decide +kernel
theorem de_W_thread_2 : decode by_W_thread 2 = .ok (.iload_n 1, 1) := by decide +kernel
theorem de_W_thread_3 : decode by_W_thread 3 = .ok (.aload_n 0, 1) := by decide +kernel
theorem de_W_thread_4 : decode by_W_thread 4 = .ok (.getfield 44, 3) := by decide +kernel
theorem de_W_thread_7 : decode by_W_thread 7 = .ok (.if_icmp .ge 32, 3) := by decide +kernel
theorem de_W_thread_10 : decode by_W_thread 10 = .ok (.aload_n 0, 1) := by decide +kernel
theorem de_W_thread_11 : decode by_W_thread 11 = .ok (.iload_n 1, 1) := by decide +kernel
theorem de_W_thread_12 : decode by_W_thread 12 = .ok (.invokevirtual 81, 3) := by decide +kernel
theorem de_W_thread_15 : decode by_W_thread 15 = .ok (.ifCond .eq 18, 3) := by decide +kernel
theorem de_W_thread_18 : decode by_W_thread 18 = .ok (.aload_n 0, 1) := by decide +kernel
theorem de_W_thread_19 : decode by_W_thread 19 = .ok (.getfield 84, 3) := by decide +kernel
theorem de_W_thread_22 : decode by_W_thread 22 = .ok (.iload_n 1, 1) := by decide +kernel
theorem de_W_thread_23 : decode by_W_thread 23 = .ok (.aload_n 0, 1) := by decide +kernel
theorem de_W_thread_24 : decode by_W_thread 24 = .ok (.aload_n 0, 1) := by decide +kernel
theorem de_W_thread_25 : decode by_W_thread 25 = .ok (.iload_n 1, 1) := by decide +kernel
theorem de_W_thread_26 : decode by_W_thread 26 = .ok (.invokevirtual 87, 3) := by decide +kernel
theorem de_W_thread_29 : decode by_W_thread 29 = .ok (.invokestatic 91, 3) := by decide +kernel
theorem de_W_thread_32 : decode by_W_thread 32 = .ok (.iastore, 1) := by decide +kernel
theorem de_W_thread_33 : decode by_W_thread 33 = .ok (.iinc 1 1, 3) := by decide +kernel
theorem de_W_thread_36 : decode by_W_thread 36 = .ok (.goto (-34), 3) := by decide +kernel
theorem de_W_thread_39 : decode by_W_thread 39 = .ok (.return_, 1) := by decide +kernel
theorem de_W_endOfChain_0 : decode by_W_endOfChain 0 = .ok (.iload_n 1, 1) := by decide +kernel
theorem de_W_endOfChain_1 : decode by_W_endOfChain 1 = .ok (.istore_n 2, 1) := by decide +kernel
theorem de_W_endOfChain_2 : decode by_W_endOfChain 2 = .ok (.iconst 0, 1) := by decide +kernel
theorem de_W_endOfChain_3 : decode by_W_endOfChain 3 = .ok (.istore_n 3, 1) := by decide +kernel
theorem de_W_endOfChain_4 : decode by_W_endOfChain 4 = .ok (.iload_n 3, 1) := by decide +kernel
theorem de_W_endOfChain_5 : decode by_W_endOfChain 5 = .ok (.aload_n 0, 1) := by decide +kernel
theorem de_W_endOfChain_6 : decode by_W_endOfChain 6 = .ok (.getfield 44, 3) := by decide +kernel
theorem de_W_endOfChain_9 : decode by_W_endOfChain 9 = .ok (.if_icmp .gt 36, 3) := by decide +kernel
theorem de_W_endOfChain_12 : decode by_W_endOfChain 12 = .ok (.iload_n 2, 1) := by decide +kernel
theorem de_W_endOfChain_13 : decode by_W_endOfChain 13 = .ok (.aload_n 0, 1) := by decide +kernel
theorem de_W_endOfChain_14 : decode by_W_endOfChain 14 = .ok (.getfield 44, 3) := by decide +kernel
theorem de_W_endOfChain_17 : decode by_W_endOfChain 17 = .ok (.if_icmp .ge 14, 3) := by decide +kernel
theorem de_W_endOfChain_20 : decode by_W_endOfChain 20 = .ok (.aload_n 0, 1) := by decide +kernel
theorem de_W_endOfChain_21 : decode by_W_endOfChain 21 = .ok (.getfield 71, 3) := by decide +kernel
theorem de_W_endOfChain_24 : decode by_W_endOfChain 24 = .ok (.iload_n 2, 1) := by decide +kernel
theorem de_W_endOfChain_25 : decode by_W_endOfChain 25 = .ok (.iaload, 1) := by decide +kernel
theorem de_W_endOfChain_26 : decode by_W_endOfChain 26 = .ok (.bipush 6, 2) := by decide +kernel
theorem de_W_endOfChain_28 : decode by_W_endOfChain 28 = .ok (.if_icmp .eq 5, 3) := by decide +kernel
theorem de_W_endOfChain_31 : decode by_W_endOfChain 31 = .ok (.iload_n 2, 1) := by decide +kernel
theorem de_W_endOfChain_32 : decode by_W_endOfChain 32 = .ok (.ireturn, 1) := by decide +kernel
theorem de_W_endOfChain_33 : decode by_W_endOfChain 33 = .ok (.aload_n 0, 1) := by decide +kernel
theorem de_W_endOfChain_34 : decode by_W_endOfChain 34 = .ok (.iload_n 2, 1) := by decide +kernel
theorem de_W_endOfChain_35 : decode by_W_endOfChain 35 = .ok (.invokevirtual 87, 3) := by decide +kernel
theorem de_W_endOfChain_38 : decode by_W_endOfChain 38 = .ok (.istore_n 2, 1) := by decide +kernel
theorem de_W_endOfChain_39 : decode by_W_endOfChain 39 = .ok (.iinc 3 1, 3) := by decide +kernel
theorem de_W_endOfChain_42 : decode by_W_endOfChain 42 = .ok (.goto (-38), 3) := by decide +kernel
theorem de_W_endOfChain_45 : decode by_W_endOfChain 45 = .ok (.iload_n 1, 1) := by decide +kernel
theorem de_W_endOfChain_46 : decode by_W_endOfChain 46 = .ok (.ireturn, 1) := by decide +kernel
theorem de_W_keepWhatCanBeComeTo_0 : decode by_W_keepWhatCanBeComeTo 0 = .ok (.iconst 0, 1) := by decide +kernel
theorem de_W_keepWhatCanBeComeTo_1 : decode by_W_keepWhatCanBeComeTo 1 = .ok (.istore_n 2, 1) := by decide +kernel
theorem de_W_keepWhatCanBeComeTo_2 : decode by_W_keepWhatCanBeComeTo 2 = .ok (.iload_n 2, 1) := by decide +kernel
theorem de_W_keepWhatCanBeComeTo_3 : decode by_W_keepWhatCanBeComeTo 3 = .ok (.aload_n 1, 1) := by decide +kernel
theorem de_W_keepWhatCanBeComeTo_4 : decode by_W_keepWhatCanBeComeTo 4 = .ok (.getfield 44, 3) := by decide +kernel
theorem de_W_keepWhatCanBeComeTo_7 : decode by_W_keepWhatCanBeComeTo 7 = .ok (.if_icmp .ge 16, 3) := by decide +kernel
theorem de_W_keepWhatCanBeComeTo_10 : decode by_W_keepWhatCanBeComeTo 10 = .ok (.aload_n 0, 1) := by decide +kernel
theorem de_W_keepWhatCanBeComeTo_11 : decode by_W_keepWhatCanBeComeTo 11 = .ok (.getfield 9, 3) := by decide +kernel
theorem de_W_keepWhatCanBeComeTo_14 : decode by_W_keepWhatCanBeComeTo 14 = .ok (.iload_n 2, 1) := by decide +kernel
theorem de_W_keepWhatCanBeComeTo_15 : decode by_W_keepWhatCanBeComeTo 15 = .ok (.iconst 0, 1) := by decide +kernel
theorem de_W_keepWhatCanBeComeTo_16 : decode by_W_keepWhatCanBeComeTo 16 = .ok (.bastore, 1) := by decide +kernel
theorem de_W_keepWhatCanBeComeTo_17 : decode by_W_keepWhatCanBeComeTo 17 = .ok (.iinc 2 1, 3) := by decide +kernel
theorem de_W_keepWhatCanBeComeTo_20 : decode by_W_keepWhatCanBeComeTo 20 = .ok (.goto (-18), 3) := by decide +kernel
theorem de_W_keepWhatCanBeComeTo_23 : decode by_W_keepWhatCanBeComeTo 23 = .ok (.aload_n 0, 1) := by decide +kernel
theorem de_W_keepWhatCanBeComeTo_24 : decode by_W_keepWhatCanBeComeTo 24 = .ok (.iconst 0, 1) := by decide +kernel
theorem de_W_keepWhatCanBeComeTo_25 : decode by_W_keepWhatCanBeComeTo 25 = .ok (.putfield 94, 3) := by decide +kernel
theorem de_W_keepWhatCanBeComeTo_28 : decode by_W_keepWhatCanBeComeTo 28 = .ok (.aload_n 0, 1) := by decide +kernel
theorem de_W_keepWhatCanBeComeTo_29 : decode by_W_keepWhatCanBeComeTo 29 = .ok (.aload_n 1, 1) := by decide +kernel
theorem de_W_keepWhatCanBeComeTo_30 : decode by_W_keepWhatCanBeComeTo 30 = .ok (.iconst 0, 1) := by decide +kernel
theorem de_W_keepWhatCanBeComeTo_31 : decode by_W_keepWhatCanBeComeTo 31 = .ok (.invokevirtual 97, 3) := by decide +kernel
theorem de_W_keepWhatCanBeComeTo_34 : decode by_W_keepWhatCanBeComeTo 34 = .ok (.iconst 0, 1) := by decide +kernel
theorem de_W_keepWhatCanBeComeTo_35 : decode by_W_keepWhatCanBeComeTo 35 = .ok (.istore_n 2, 1) := by decide +kernel
theorem de_W_keepWhatCanBeComeTo_36 : decode by_W_keepWhatCanBeComeTo 36 = .ok (.iload_n 2, 1) := by decide +kernel
theorem de_W_keepWhatCanBeComeTo_37 : decode by_W_keepWhatCanBeComeTo 37 = .ok (.aload_n 0, 1) := by decide +kernel
theorem de_W_keepWhatCanBeComeTo_38 : decode by_W_keepWhatCanBeComeTo 38 = .ok (.getfield 94, 3) := by decide +kernel
theorem de_W_keepWhatCanBeComeTo_41 : decode by_W_keepWhatCanBeComeTo 41 = .ok (.if_icmp .ge 72, 3) := by decide +kernel
theorem de_W_keepWhatCanBeComeTo_44 : decode by_W_keepWhatCanBeComeTo 44 = .ok (.iload_n 2, 1) := by decide +kernel
theorem de_W_keepWhatCanBeComeTo_45 : decode by_W_keepWhatCanBeComeTo 45 = .ok (.aload_n 1, 1) := by decide +kernel
theorem de_W_keepWhatCanBeComeTo_46 : decode by_W_keepWhatCanBeComeTo 46 = .ok (.getfield 44, 3) := by decide +kernel
theorem de_W_keepWhatCanBeComeTo_49 : decode by_W_keepWhatCanBeComeTo 49 = .ok (.if_icmp .ge 64, 3) := by decide +kernel
theorem de_W_keepWhatCanBeComeTo_52 : decode by_W_keepWhatCanBeComeTo 52 = .ok (.aload_n 0, 1) := by decide +kernel
theorem de_W_keepWhatCanBeComeTo_53 : decode by_W_keepWhatCanBeComeTo 53 = .ok (.getfield 15, 3) := by decide +kernel
theorem de_W_keepWhatCanBeComeTo_56 : decode by_W_keepWhatCanBeComeTo 56 = .ok (.iload_n 2, 1) := by decide +kernel
theorem de_W_keepWhatCanBeComeTo_57 : decode by_W_keepWhatCanBeComeTo 57 = .ok (.iaload, 1) := by decide +kernel
theorem de_W_keepWhatCanBeComeTo_58 : decode by_W_keepWhatCanBeComeTo 58 = .ok (.istore_n 3, 1) := by decide +kernel
theorem de_W_keepWhatCanBeComeTo_59 : decode by_W_keepWhatCanBeComeTo 59 = .ok (.aload_n 1, 1) := by decide +kernel
theorem de_W_keepWhatCanBeComeTo_60 : decode by_W_keepWhatCanBeComeTo 60 = .ok (.iload_n 3, 1) := by decide +kernel
theorem de_W_keepWhatCanBeComeTo_61 : decode by_W_keepWhatCanBeComeTo 61 = .ok (.invokevirtual 81, 3) := by decide +kernel
theorem de_W_keepWhatCanBeComeTo_64 : decode by_W_keepWhatCanBeComeTo 64 = .ok (.ifCond .eq 13, 3) := by decide +kernel
theorem de_W_keepWhatCanBeComeTo_67 : decode by_W_keepWhatCanBeComeTo 67 = .ok (.aload_n 0, 1) := by decide +kernel
theorem de_W_keepWhatCanBeComeTo_68 : decode by_W_keepWhatCanBeComeTo 68 = .ok (.aload_n 1, 1) := by decide +kernel
theorem de_W_keepWhatCanBeComeTo_69 : decode by_W_keepWhatCanBeComeTo 69 = .ok (.aload_n 1, 1) := by decide +kernel
theorem de_W_keepWhatCanBeComeTo_70 : decode by_W_keepWhatCanBeComeTo 70 = .ok (.iload_n 3, 1) := by decide +kernel
theorem de_W_keepWhatCanBeComeTo_71 : decode by_W_keepWhatCanBeComeTo 71 = .ok (.invokevirtual 87, 3) := by decide +kernel
theorem de_W_keepWhatCanBeComeTo_74 : decode by_W_keepWhatCanBeComeTo 74 = .ok (.invokevirtual 97, 3) := by decide +kernel
theorem de_W_keepWhatCanBeComeTo_77 : decode by_W_keepWhatCanBeComeTo 77 = .ok (.aload_n 1, 1) := by decide +kernel
theorem de_W_keepWhatCanBeComeTo_78 : decode by_W_keepWhatCanBeComeTo 78 = .ok (.getfield 71, 3) := by decide +kernel
theorem de_W_keepWhatCanBeComeTo_81 : decode by_W_keepWhatCanBeComeTo 81 = .ok (.iload_n 3, 1) := by decide +kernel
theorem de_W_keepWhatCanBeComeTo_82 : decode by_W_keepWhatCanBeComeTo 82 = .ok (.iaload, 1) := by decide +kernel
theorem de_W_keepWhatCanBeComeTo_83 : decode by_W_keepWhatCanBeComeTo 83 = .ok (.bipush 6, 2) := by decide +kernel
theorem de_W_keepWhatCanBeComeTo_85 : decode by_W_keepWhatCanBeComeTo 85 = .ok (.if_icmp .eq 22, 3) := by decide +kernel
theorem de_W_keepWhatCanBeComeTo_88 : decode by_W_keepWhatCanBeComeTo 88 = .ok (.aload_n 1, 1) := by decide +kernel
theorem de_W_keepWhatCanBeComeTo_89 : decode by_W_keepWhatCanBeComeTo 89 = .ok (.getfield 71, 3) := by decide +kernel
theorem de_W_keepWhatCanBeComeTo_92 : decode by_W_keepWhatCanBeComeTo 92 = .ok (.iload_n 3, 1) := by decide +kernel
theorem de_W_keepWhatCanBeComeTo_93 : decode by_W_keepWhatCanBeComeTo 93 = .ok (.iaload, 1) := by decide +kernel
theorem de_W_keepWhatCanBeComeTo_94 : decode by_W_keepWhatCanBeComeTo 94 = .ok (.bipush 7, 2) := by decide +kernel
theorem de_W_keepWhatCanBeComeTo_96 : decode by_W_keepWhatCanBeComeTo 96 = .ok (.if_icmp .eq 11, 3) := by decide +kernel
theorem de_W_keepWhatCanBeComeTo_99 : decode by_W_keepWhatCanBeComeTo 99 = .ok (.aload_n 0, 1) := by decide +kernel
theorem de_W_keepWhatCanBeComeTo_100 : decode by_W_keepWhatCanBeComeTo 100 = .ok (.aload_n 1, 1) := by decide +kernel
theorem de_W_keepWhatCanBeComeTo_101 : decode by_W_keepWhatCanBeComeTo 101 = .ok (.iload_n 3, 1) := by decide +kernel
theorem de_W_keepWhatCanBeComeTo_102 : decode by_W_keepWhatCanBeComeTo 102 = .ok (.iconst 1, 1) := by decide +kernel
theorem de_W_keepWhatCanBeComeTo_103 : decode by_W_keepWhatCanBeComeTo 103 = .ok (.iadd, 1) := by decide +kernel
theorem de_W_keepWhatCanBeComeTo_104 : decode by_W_keepWhatCanBeComeTo 104 = .ok (.invokevirtual 97, 3) := by decide +kernel
theorem de_W_keepWhatCanBeComeTo_107 : decode by_W_keepWhatCanBeComeTo 107 = .ok (.iinc 2 1, 3) := by decide +kernel
theorem de_W_keepWhatCanBeComeTo_110 : decode by_W_keepWhatCanBeComeTo 110 = .ok (.goto (-74), 3) := by decide +kernel
theorem de_W_keepWhatCanBeComeTo_113 : decode by_W_keepWhatCanBeComeTo 113 = .ok (.return_, 1) := by decide +kernel
theorem de_W_keep_0 : decode by_W_keep 0 = .ok (.iload_n 2, 1) := by decide +kernel
theorem de_W_keep_1 : decode by_W_keep 1 = .ok (.aload_n 1, 1) := by decide +kernel
theorem de_W_keep_2 : decode by_W_keep 2 = .ok (.getfield 44, 3) := by decide +kernel
theorem de_W_keep_5 : decode by_W_keep 5 = .ok (.if_icmp .ge 39, 3) := by decide +kernel
theorem de_W_keep_8 : decode by_W_keep 8 = .ok (.aload_n 0, 1) := by decide +kernel
theorem de_W_keep_9 : decode by_W_keep 9 = .ok (.getfield 9, 3) := by decide +kernel
theorem de_W_keep_12 : decode by_W_keep 12 = .ok (.iload_n 2, 1) := by decide +kernel
theorem de_W_keep_13 : decode by_W_keep 13 = .ok (.baload, 1) := by decide +kernel
theorem de_W_keep_14 : decode by_W_keep 14 = .ok (.ifCond .ne 30, 3) := by decide +kernel
theorem de_W_keep_17 : decode by_W_keep 17 = .ok (.aload_n 0, 1) := by decide +kernel
theorem de_W_keep_18 : decode by_W_keep 18 = .ok (.getfield 9, 3) := by decide +kernel
theorem de_W_keep_21 : decode by_W_keep 21 = .ok (.iload_n 2, 1) := by decide +kernel
theorem de_W_keep_22 : decode by_W_keep 22 = .ok (.iconst 1, 1) := by decide +kernel
theorem de_W_keep_23 : decode by_W_keep 23 = .ok (.bastore, 1) := by decide +kernel
theorem de_W_keep_24 : decode by_W_keep 24 = .ok (.aload_n 0, 1) := by decide +kernel
theorem de_W_keep_25 : decode by_W_keep 25 = .ok (.getfield 15, 3) := by decide +kernel
theorem de_W_keep_28 : decode by_W_keep 28 = .ok (.aload_n 0, 1) := by decide +kernel
theorem de_W_keep_29 : decode by_W_keep 29 = .ok (.getfield 94, 3) := by decide +kernel
theorem de_W_keep_32 : decode by_W_keep 32 = .ok (.iload_n 2, 1) := by decide +kernel
theorem de_W_keep_33 : decode by_W_keep 33 = .ok (.iastore, 1) := by decide +kernel
theorem de_W_keep_34 : decode by_W_keep 34 = .ok (.aload_n 0, 1) := by decide +kernel
theorem de_W_keep_35 : decode by_W_keep 35 = .ok (.dup, 1) := by decide +kernel
theorem de_W_keep_36 : decode by_W_keep 36 = .ok (.getfield 94, 3) := by decide +kernel
theorem de_W_keep_39 : decode by_W_keep 39 = .ok (.iconst 1, 1) := by decide +kernel
theorem de_W_keep_40 : decode by_W_keep 40 = .ok (.iadd, 1) := by decide +kernel
theorem de_W_keep_41 : decode by_W_keep 41 = .ok (.putfield 94, 3) := by decide +kernel
theorem de_W_keep_44 : decode by_W_keep 44 = .ok (.return_, 1) := by decide +kernel
theorem de_W_dropJumpsToTheNext_0 : decode by_W_dropJumpsToTheNext 0 = .ok (.aload_n 1, 1) := by decide +kernel
theorem de_W_dropJumpsToTheNext_1 : decode by_W_dropJumpsToTheNext 1 = .ok (.getfield 44, 3) := by decide +kernel
theorem de_W_dropJumpsToTheNext_4 : decode by_W_dropJumpsToTheNext 4 = .ok (.istore_n 2, 1) := by decide +kernel
theorem de_W_dropJumpsToTheNext_5 : decode by_W_dropJumpsToTheNext 5 = .ok (.aload_n 1, 1) := by decide +kernel
theorem de_W_dropJumpsToTheNext_6 : decode by_W_dropJumpsToTheNext 6 = .ok (.getfield 44, 3) := by decide +kernel
theorem de_W_dropJumpsToTheNext_9 : decode by_W_dropJumpsToTheNext 9 = .ok (.iconst 1, 1) := by decide +kernel
theorem de_W_dropJumpsToTheNext_10 : decode by_W_dropJumpsToTheNext 10 = .ok (.isub, 1) := by decide +kernel
theorem de_W_dropJumpsToTheNext_11 : decode by_W_dropJumpsToTheNext 11 = .ok (.istore_n 3, 1) := by decide +kernel
theorem de_W_dropJumpsToTheNext_12 : decode by_W_dropJumpsToTheNext 12 = .ok (.iload_n 3, 1) := by decide +kernel
theorem de_W_dropJumpsToTheNext_13 : decode by_W_dropJumpsToTheNext 13 = .ok (.ifCond .lt 59, 3) := by decide +kernel
theorem de_W_dropJumpsToTheNext_16 : decode by_W_dropJumpsToTheNext 16 = .ok (.aload_n 0, 1) := by decide +kernel
theorem de_W_dropJumpsToTheNext_17 : decode by_W_dropJumpsToTheNext 17 = .ok (.getfield 9, 3) := by decide +kernel
theorem de_W_dropJumpsToTheNext_20 : decode by_W_dropJumpsToTheNext 20 = .ok (.iload_n 3, 1) := by decide +kernel
theorem de_W_dropJumpsToTheNext_21 : decode by_W_dropJumpsToTheNext 21 = .ok (.baload, 1) := by decide +kernel
theorem de_W_dropJumpsToTheNext_22 : decode by_W_dropJumpsToTheNext 22 = .ok (.ifCond .eq 33, 3) := by decide +kernel
theorem de_W_dropJumpsToTheNext_25 : decode by_W_dropJumpsToTheNext 25 = .ok (.aload_n 1, 1) := by decide +kernel
theorem de_W_dropJumpsToTheNext_26 : decode by_W_dropJumpsToTheNext 26 = .ok (.getfield 71, 3) := by decide +kernel
theorem de_W_dropJumpsToTheNext_29 : decode by_W_dropJumpsToTheNext 29 = .ok (.iload_n 3, 1) := by decide +kernel
theorem de_W_dropJumpsToTheNext_30 : decode by_W_dropJumpsToTheNext 30 = .ok (.iaload, 1) := by decide +kernel
theorem de_W_dropJumpsToTheNext_31 : decode by_W_dropJumpsToTheNext 31 = .ok (.bipush 6, 2) := by decide +kernel
theorem de_W_dropJumpsToTheNext_33 : decode by_W_dropJumpsToTheNext 33 = .ok (.if_icmp .ne 22, 3) := by decide +kernel
theorem de_W_dropJumpsToTheNext_36 : decode by_W_dropJumpsToTheNext 36 = .ok (.aload_n 1, 1) := by decide +kernel
theorem de_W_dropJumpsToTheNext_37 : decode by_W_dropJumpsToTheNext 37 = .ok (.iload_n 3, 1) := by decide +kernel
theorem de_W_dropJumpsToTheNext_38 : decode by_W_dropJumpsToTheNext 38 = .ok (.invokevirtual 87, 3) := by decide +kernel
theorem de_W_dropJumpsToTheNext_41 : decode by_W_dropJumpsToTheNext 41 = .ok (.iload_n 2, 1) := by decide +kernel
theorem de_W_dropJumpsToTheNext_42 : decode by_W_dropJumpsToTheNext 42 = .ok (.if_icmp .ne 13, 3) := by decide +kernel
theorem de_W_dropJumpsToTheNext_45 : decode by_W_dropJumpsToTheNext 45 = .ok (.aload_n 0, 1) := by decide +kernel
theorem de_W_dropJumpsToTheNext_46 : decode by_W_dropJumpsToTheNext 46 = .ok (.getfield 9, 3) := by decide +kernel
theorem de_W_dropJumpsToTheNext_49 : decode by_W_dropJumpsToTheNext 49 = .ok (.iload_n 3, 1) := by decide +kernel
theorem de_W_dropJumpsToTheNext_50 : decode by_W_dropJumpsToTheNext 50 = .ok (.iconst 0, 1) := by decide +kernel
theorem de_W_dropJumpsToTheNext_51 : decode by_W_dropJumpsToTheNext 51 = .ok (.bastore, 1) := by decide +kernel
theorem de_W_dropJumpsToTheNext_52 : decode by_W_dropJumpsToTheNext 52 = .ok (.goto 14, 3) := by decide +kernel
theorem de_W_dropJumpsToTheNext_55 : decode by_W_dropJumpsToTheNext 55 = .ok (.aload_n 0, 1) := by decide +kernel
theorem de_W_dropJumpsToTheNext_56 : decode by_W_dropJumpsToTheNext 56 = .ok (.getfield 9, 3) := by decide +kernel
theorem de_W_dropJumpsToTheNext_59 : decode by_W_dropJumpsToTheNext 59 = .ok (.iload_n 3, 1) := by decide +kernel
theorem de_W_dropJumpsToTheNext_60 : decode by_W_dropJumpsToTheNext 60 = .ok (.baload, 1) := by decide +kernel
theorem de_W_dropJumpsToTheNext_61 : decode by_W_dropJumpsToTheNext 61 = .ok (.ifCond .eq 5, 3) := by decide +kernel
theorem de_W_dropJumpsToTheNext_64 : decode by_W_dropJumpsToTheNext 64 = .ok (.iload_n 3, 1) := by decide +kernel
theorem de_W_dropJumpsToTheNext_65 : decode by_W_dropJumpsToTheNext 65 = .ok (.istore_n 2, 1) := by decide +kernel
theorem de_W_dropJumpsToTheNext_66 : decode by_W_dropJumpsToTheNext 66 = .ok (.iinc 3 (-1), 3) := by decide +kernel
theorem de_W_dropJumpsToTheNext_69 : decode by_W_dropJumpsToTheNext 69 = .ok (.goto (-57), 3) := by decide +kernel
theorem de_W_dropJumpsToTheNext_72 : decode by_W_dropJumpsToTheNext 72 = .ok (.return_, 1) := by decide +kernel
theorem de_W_numberAnew_0 : decode by_W_numberAnew 0 = .ok (.iconst 0, 1) := by decide +kernel
theorem de_W_numberAnew_1 : decode by_W_numberAnew 1 = .ok (.istore_n 2, 1) := by decide +kernel
theorem de_W_numberAnew_2 : decode by_W_numberAnew 2 = .ok (.iconst 0, 1) := by decide +kernel
theorem de_W_numberAnew_3 : decode by_W_numberAnew 3 = .ok (.istore_n 3, 1) := by decide +kernel
theorem de_W_numberAnew_4 : decode by_W_numberAnew 4 = .ok (.iload_n 3, 1) := by decide +kernel
theorem de_W_numberAnew_5 : decode by_W_numberAnew 5 = .ok (.aload_n 1, 1) := by decide +kernel
theorem de_W_numberAnew_6 : decode by_W_numberAnew 6 = .ok (.getfield 44, 3) := by decide +kernel
theorem de_W_numberAnew_9 : decode by_W_numberAnew 9 = .ok (.if_icmp .ge 28, 3) := by decide +kernel
theorem de_W_numberAnew_12 : decode by_W_numberAnew 12 = .ok (.aload_n 0, 1) := by decide +kernel
theorem de_W_numberAnew_13 : decode by_W_numberAnew 13 = .ok (.getfield 19, 3) := by decide +kernel
theorem de_W_numberAnew_16 : decode by_W_numberAnew 16 = .ok (.iload_n 3, 1) := by decide +kernel
theorem de_W_numberAnew_17 : decode by_W_numberAnew 17 = .ok (.iload_n 2, 1) := by decide +kernel
theorem de_W_numberAnew_18 : decode by_W_numberAnew 18 = .ok (.iastore, 1) := by decide +kernel
theorem de_W_numberAnew_19 : decode by_W_numberAnew 19 = .ok (.aload_n 0, 1) := by decide +kernel
theorem de_W_numberAnew_20 : decode by_W_numberAnew 20 = .ok (.getfield 9, 3) := by decide +kernel
theorem de_W_numberAnew_23 : decode by_W_numberAnew 23 = .ok (.iload_n 3, 1) := by decide +kernel
theorem de_W_numberAnew_24 : decode by_W_numberAnew 24 = .ok (.baload, 1) := by decide +kernel
theorem de_W_numberAnew_25 : decode by_W_numberAnew 25 = .ok (.ifCond .eq 6, 3) := by decide +kernel
theorem de_W_numberAnew_28 : decode by_W_numberAnew 28 = .ok (.iinc 2 1, 3) := by decide +kernel
theorem de_W_numberAnew_31 : decode by_W_numberAnew 31 = .ok (.iinc 3 1, 3) := by decide +kernel
theorem de_W_numberAnew_34 : decode by_W_numberAnew 34 = .ok (.goto (-30), 3) := by decide +kernel
theorem de_W_numberAnew_37 : decode by_W_numberAnew 37 = .ok (.aload_n 0, 1) := by decide +kernel
theorem de_W_numberAnew_38 : decode by_W_numberAnew 38 = .ok (.getfield 19, 3) := by decide +kernel
theorem de_W_numberAnew_41 : decode by_W_numberAnew 41 = .ok (.aload_n 1, 1) := by decide +kernel
theorem de_W_numberAnew_42 : decode by_W_numberAnew 42 = .ok (.getfield 44, 3) := by decide +kernel
theorem de_W_numberAnew_45 : decode by_W_numberAnew 45 = .ok (.iload_n 2, 1) := by decide +kernel
theorem de_W_numberAnew_46 : decode by_W_numberAnew 46 = .ok (.iastore, 1) := by decide +kernel
theorem de_W_numberAnew_47 : decode by_W_numberAnew 47 = .ok (.iconst 0, 1) := by decide +kernel
theorem de_W_numberAnew_48 : decode by_W_numberAnew 48 = .ok (.istore_n 3, 1) := by decide +kernel
theorem de_W_numberAnew_49 : decode by_W_numberAnew 49 = .ok (.iload_n 3, 1) := by decide +kernel
theorem de_W_numberAnew_50 : decode by_W_numberAnew 50 = .ok (.aload_n 1, 1) := by decide +kernel
theorem de_W_numberAnew_51 : decode by_W_numberAnew 51 = .ok (.getfield 44, 3) := by decide +kernel
theorem de_W_numberAnew_54 : decode by_W_numberAnew 54 = .ok (.if_icmp .ge 24, 3) := by decide +kernel
theorem de_W_numberAnew_57 : decode by_W_numberAnew 57 = .ok (.aload_n 0, 1) := by decide +kernel
theorem de_W_numberAnew_58 : decode by_W_numberAnew 58 = .ok (.getfield 9, 3) := by decide +kernel
theorem de_W_numberAnew_61 : decode by_W_numberAnew 61 = .ok (.iload_n 3, 1) := by decide +kernel
theorem de_W_numberAnew_62 : decode by_W_numberAnew 62 = .ok (.baload, 1) := by decide +kernel
theorem de_W_numberAnew_63 : decode by_W_numberAnew 63 = .ok (.ifCond .eq 9, 3) := by decide +kernel
theorem de_W_numberAnew_66 : decode by_W_numberAnew 66 = .ok (.aload_n 0, 1) := by decide +kernel
theorem de_W_numberAnew_67 : decode by_W_numberAnew 67 = .ok (.aload_n 1, 1) := by decide +kernel
theorem de_W_numberAnew_68 : decode by_W_numberAnew 68 = .ok (.iload_n 3, 1) := by decide +kernel
theorem de_W_numberAnew_69 : decode by_W_numberAnew 69 = .ok (.invokevirtual 101, 3) := by decide +kernel
theorem de_W_numberAnew_72 : decode by_W_numberAnew 72 = .ok (.iinc 3 1, 3) := by decide +kernel
theorem de_W_numberAnew_75 : decode by_W_numberAnew 75 = .ok (.goto (-26), 3) := by decide +kernel
theorem de_W_numberAnew_78 : decode by_W_numberAnew 78 = .ok (.aload_n 1, 1) := by decide +kernel
theorem de_W_numberAnew_79 : decode by_W_numberAnew 79 = .ok (.iload_n 2, 1) := by decide +kernel
theorem de_W_numberAnew_80 : decode by_W_numberAnew 80 = .ok (.putfield 44, 3) := by decide +kernel
theorem de_W_numberAnew_83 : decode by_W_numberAnew 83 = .ok (.return_, 1) := by decide +kernel
theorem de_W_moveToNewNumber_0 : decode by_W_moveToNewNumber 0 = .ok (.aload_n 1, 1) := by decide +kernel
theorem de_W_moveToNewNumber_1 : decode by_W_moveToNewNumber 1 = .ok (.iload_n 2, 1) := by decide +kernel
theorem de_W_moveToNewNumber_2 : decode by_W_moveToNewNumber 2 = .ok (.invokevirtual 81, 3) := by decide +kernel
theorem de_W_moveToNewNumber_5 : decode by_W_moveToNewNumber 5 = .ok (.ifCond .eq 16, 3) := by decide +kernel
theorem de_W_moveToNewNumber_8 : decode by_W_moveToNewNumber 8 = .ok (.aload_n 0, 1) := by decide +kernel
theorem de_W_moveToNewNumber_9 : decode by_W_moveToNewNumber 9 = .ok (.getfield 19, 3) := by decide +kernel
theorem de_W_moveToNewNumber_12 : decode by_W_moveToNewNumber 12 = .ok (.aload_n 1, 1) := by decide +kernel
theorem de_W_moveToNewNumber_13 : decode by_W_moveToNewNumber 13 = .ok (.iload_n 2, 1) := by decide +kernel
theorem de_W_moveToNewNumber_14 : decode by_W_moveToNewNumber 14 = .ok (.invokevirtual 87, 3) := by decide +kernel
theorem de_W_moveToNewNumber_17 : decode by_W_moveToNewNumber 17 = .ok (.iaload, 1) := by decide +kernel
theorem de_W_moveToNewNumber_18 : decode by_W_moveToNewNumber 18 = .ok (.goto 9, 3) := by decide +kernel
theorem de_W_moveToNewNumber_21 : decode by_W_moveToNewNumber 21 = .ok (.aload_n 1, 1) := by decide +kernel
theorem de_W_moveToNewNumber_22 : decode by_W_moveToNewNumber 22 = .ok (.getfield 84, 3) := by decide +kernel
theorem de_W_moveToNewNumber_25 : decode by_W_moveToNewNumber 25 = .ok (.iload_n 2, 1) := by decide +kernel
theorem de_W_moveToNewNumber_26 : decode by_W_moveToNewNumber 26 = .ok (.iaload, 1) := by decide +kernel
theorem de_W_moveToNewNumber_27 : decode by_W_moveToNewNumber 27 = .ok (.istore_n 3, 1) := by decide +kernel
theorem de_W_moveToNewNumber_28 : decode by_W_moveToNewNumber 28 = .ok (.aload_n 1, 1) := by decide +kernel
theorem de_W_moveToNewNumber_29 : decode by_W_moveToNewNumber 29 = .ok (.aload_n 0, 1) := by decide +kernel
theorem de_W_moveToNewNumber_30 : decode by_W_moveToNewNumber 30 = .ok (.getfield 19, 3) := by decide +kernel
theorem de_W_moveToNewNumber_33 : decode by_W_moveToNewNumber 33 = .ok (.iload_n 2, 1) := by decide +kernel
theorem de_W_moveToNewNumber_34 : decode by_W_moveToNewNumber 34 = .ok (.iaload, 1) := by decide +kernel
theorem de_W_moveToNewNumber_35 : decode by_W_moveToNewNumber 35 = .ok (.aload_n 1, 1) := by decide +kernel
theorem de_W_moveToNewNumber_36 : decode by_W_moveToNewNumber 36 = .ok (.getfield 71, 3) := by decide +kernel
theorem de_W_moveToNewNumber_39 : decode by_W_moveToNewNumber 39 = .ok (.iload_n 2, 1) := by decide +kernel
theorem de_W_moveToNewNumber_40 : decode by_W_moveToNewNumber 40 = .ok (.iaload, 1) := by decide +kernel
theorem de_W_moveToNewNumber_41 : decode by_W_moveToNewNumber 41 = .ok (.aload_n 1, 1) := by decide +kernel
theorem de_W_moveToNewNumber_42 : decode by_W_moveToNewNumber 42 = .ok (.getfield 61, 3) := by decide +kernel
theorem de_W_moveToNewNumber_45 : decode by_W_moveToNewNumber 45 = .ok (.iload_n 2, 1) := by decide +kernel
theorem de_W_moveToNewNumber_46 : decode by_W_moveToNewNumber 46 = .ok (.iaload, 1) := by decide +kernel
theorem de_W_moveToNewNumber_47 : decode by_W_moveToNewNumber 47 = .ok (.iload_n 3, 1) := by decide +kernel
theorem de_W_moveToNewNumber_48 : decode by_W_moveToNewNumber 48 = .ok (.aload_n 1, 1) := by decide +kernel
theorem de_W_moveToNewNumber_49 : decode by_W_moveToNewNumber 49 = .ok (.getfield 104, 3) := by decide +kernel
theorem de_W_moveToNewNumber_52 : decode by_W_moveToNewNumber 52 = .ok (.iload_n 2, 1) := by decide +kernel
theorem de_W_moveToNewNumber_53 : decode by_W_moveToNewNumber 53 = .ok (.iaload, 1) := by decide +kernel
theorem de_W_moveToNewNumber_54 : decode by_W_moveToNewNumber 54 = .ok (.invokevirtual 67, 3) := by decide +kernel
theorem de_W_moveToNewNumber_57 : decode by_W_moveToNewNumber 57 = .ok (.return_, 1) := by decide +kernel
