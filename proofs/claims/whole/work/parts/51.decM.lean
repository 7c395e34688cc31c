/-! decode rows, by program -/
theorem de_M_goOn_86 : decode by_M_goOn 86 = .ok (.iaload, 1) := by decide +kernel
theorem de_M_goOn_87 : decode by_M_goOn 87 = .ok (.tableswitch 94 5 7 #[41, 25, 38], 25) := by decide +kernel
theorem de_M_goOn_112 : decode by_M_goOn 112 = .ok (.aload_n 0, 1) := by decide +kernel
theorem de_M_goOn_113 : decode by_M_goOn 113 = .ok (.aload_n 0, 1) := by decide +kernel
theorem de_M_goOn_114 : decode by_M_goOn 114 = .ok (.getfield 16, 3) := by decide +kernel
theorem de_M_goOn_117 : decode by_M_goOn 117 = .ok (.iload_n 1, 1) := by decide +kernel
theorem de_M_goOn_118 : decode by_M_goOn 118 = .ok (.iaload, 1) := by decide +kernel
theorem de_M_goOn_119 : decode by_M_goOn 119 = .ok (.invokevirtual 96, 3) := by decide +kernel
theorem de_M_goOn_122 : decode by_M_goOn 122 = .ok (.goto 71, 3) := by decide +kernel
theorem de_M_goOn_125 : decode by_M_goOn 125 = .ok (.goto 68, 3) := by decide +kernel
theorem de_M_goOn_128 : decode by_M_goOn 128 = .ok (.iload_n 3, 1) := by decide +kernel
theorem de_M_goOn_129 : decode by_M_goOn 129 = .ok (.ifCond .ne 12, 3) := by decide +kernel
theorem de_M_goOn_132 : decode by_M_goOn 132 = .ok (.aload_n 0, 1) := by decide +kernel
theorem de_M_goOn_133 : decode by_M_goOn 133 = .ok (.getfield 38, 3) := by decide +kernel
theorem de_M_goOn_136 : decode by_M_goOn 136 = .ok (.iload_n 2, 1) := by decide +kernel
theorem de_M_goOn_137 : decode by_M_goOn 137 = .ok (.iaload, 1) := by decide +kernel
theorem de_M_goOn_138 : decode by_M_goOn 138 = .ok (.ifCond .eq 10, 3) := by decide +kernel
theorem de_M_goOn_141 : decode by_M_goOn 141 = .ok (.aload_n 0, 1) := by decide +kernel
theorem de_M_goOn_142 : decode by_M_goOn 142 = .ok (.iload_n 1, 1) := by decide +kernel
theorem de_M_goOn_143 : decode by_M_goOn 143 = .ok (.iconst 1, 1) := by decide +kernel
theorem de_M_goOn_144 : decode by_M_goOn 144 = .ok (.iadd, 1) := by decide +kernel
theorem de_M_goOn_145 : decode by_M_goOn 145 = .ok (.invokevirtual 96, 3) := by decide +kernel
theorem de_M_goOn_148 : decode by_M_goOn 148 = .ok (.iload_n 3, 1) := by decide +kernel
theorem de_M_goOn_149 : decode by_M_goOn 149 = .ok (.ifCond .ne 12, 3) := by decide +kernel
theorem de_M_goOn_152 : decode by_M_goOn 152 = .ok (.aload_n 0, 1) := by decide +kernel
theorem de_M_goOn_153 : decode by_M_goOn 153 = .ok (.getfield 38, 3) := by decide +kernel
theorem de_M_goOn_156 : decode by_M_goOn 156 = .ok (.iload_n 2, 1) := by decide +kernel
theorem de_M_goOn_157 : decode by_M_goOn 157 = .ok (.iaload, 1) := by decide +kernel
theorem de_M_goOn_158 : decode by_M_goOn 158 = .ok (.ifCond .ne 35, 3) := by decide +kernel
theorem de_M_goOn_161 : decode by_M_goOn 161 = .ok (.aload_n 0, 1) := by decide +kernel
theorem de_M_goOn_162 : decode by_M_goOn 162 = .ok (.iload_n 2, 1) := by decide +kernel
theorem de_M_goOn_163 : decode by_M_goOn 163 = .ok (.iconst 1, 1) := by decide +kernel
theorem de_M_goOn_164 : decode by_M_goOn 164 = .ok (.iconst 0, 1) := by decide +kernel
theorem de_M_goOn_165 : decode by_M_goOn 165 = .ok (.invokevirtual 88, 3) := by decide +kernel
theorem de_M_goOn_168 : decode by_M_goOn 168 = .ok (.aload_n 0, 1) := by decide +kernel
theorem de_M_goOn_169 : decode by_M_goOn 169 = .ok (.aload_n 0, 1) := by decide +kernel
theorem de_M_goOn_170 : decode by_M_goOn 170 = .ok (.getfield 16, 3) := by decide +kernel
theorem de_M_goOn_173 : decode by_M_goOn 173 = .ok (.iload_n 1, 1) := by decide +kernel
theorem de_M_goOn_174 : decode by_M_goOn 174 = .ok (.iaload, 1) := by decide +kernel
theorem de_M_goOn_175 : decode by_M_goOn 175 = .ok (.invokevirtual 96, 3) := by decide +kernel
theorem de_M_goOn_178 : decode by_M_goOn 178 = .ok (.goto 15, 3) := by decide +kernel
theorem de_M_goOn_181 : decode by_M_goOn 181 = .ok (.aload_n 0, 1) := by decide +kernel
theorem de_M_goOn_182 : decode by_M_goOn 182 = .ok (.iload_n 1, 1) := by decide +kernel
theorem de_M_goOn_183 : decode by_M_goOn 183 = .ok (.invokevirtual 100, 3) := by decide +kernel
theorem de_M_goOn_186 : decode by_M_goOn 186 = .ok (.aload_n 0, 1) := by decide +kernel
theorem de_M_goOn_187 : decode by_M_goOn 187 = .ok (.iload_n 1, 1) := by decide +kernel
theorem de_M_goOn_188 : decode by_M_goOn 188 = .ok (.iconst 1, 1) := by decide +kernel
theorem de_M_goOn_189 : decode by_M_goOn 189 = .ok (.iadd, 1) := by decide +kernel
theorem de_M_goOn_190 : decode by_M_goOn 190 = .ok (.invokevirtual 96, 3) := by decide +kernel
theorem de_M_goOn_193 : decode by_M_goOn 193 = .ok (.return_, 1) := by decide +kernel
theorem de_M_analyse_0 : decode by_M_analyse 0 = .ok (.iconst 0, 1) := by decide +kernel
theorem de_M_analyse_1 : decode by_M_analyse 1 = .ok (.istore_n 1, 1) := by decide +kernel
theorem de_M_analyse_2 : decode by_M_analyse 2 = .ok (.iload_n 1, 1) := by decide +kernel
theorem de_M_analyse_3 : decode by_M_analyse 3 = .ok (.bipush 40, 2) := by decide +kernel
theorem de_M_analyse_5 : decode by_M_analyse 5 = .ok (.if_icmp .ge 62, 3) := by decide +kernel
theorem de_M_analyse_8 : decode by_M_analyse 8 = .ok (.aload_n 0, 1) := by decide +kernel
theorem de_M_analyse_9 : decode by_M_analyse 9 = .ok (.getfield 25, 3) := by decide +kernel
theorem de_M_analyse_12 : decode by_M_analyse 12 = .ok (.iload_n 1, 1) := by decide +kernel
theorem de_M_analyse_13 : decode by_M_analyse 13 = .ok (.iconst 0, 1) := by decide +kernel
theorem de_M_analyse_14 : decode by_M_analyse 14 = .ok (.bastore, 1) := by decide +kernel
theorem de_M_analyse_15 : decode by_M_analyse 15 = .ok (.iconst 0, 1) := by decide +kernel
theorem de_M_analyse_16 : decode by_M_analyse 16 = .ok (.istore_n 2, 1) := by decide +kernel
theorem de_M_analyse_17 : decode by_M_analyse 17 = .ok (.iload_n 2, 1) := by decide +kernel
theorem de_M_analyse_18 : decode by_M_analyse 18 = .ok (.bipush 6, 2) := by decide +kernel
theorem de_M_analyse_20 : decode by_M_analyse 20 = .ok (.if_icmp .ge 41, 3) := by decide +kernel
theorem de_M_analyse_23 : decode by_M_analyse 23 = .ok (.aload_n 0, 1) := by decide +kernel
theorem de_M_analyse_24 : decode by_M_analyse 24 = .ok (.getfield 29, 3) := by decide +kernel
theorem de_M_analyse_27 : decode by_M_analyse 27 = .ok (.bipush 6, 2) := by decide +kernel
theorem de_M_analyse_29 : decode by_M_analyse 29 = .ok (.iload_n 1, 1) := by decide +kernel
theorem de_M_analyse_30 : decode by_M_analyse 30 = .ok (.imul, 1) := by decide +kernel
theorem de_M_analyse_31 : decode by_M_analyse 31 = .ok (.iload_n 2, 1) := by decide +kernel
theorem de_M_analyse_32 : decode by_M_analyse 32 = .ok (.iadd, 1) := by decide +kernel
theorem de_M_analyse_33 : decode by_M_analyse 33 = .ok (.iload_n 1, 1) := by decide +kernel
theorem de_M_analyse_34 : decode by_M_analyse 34 = .ok (.ifCond .ne 7, 3) := by decide +kernel
theorem de_M_analyse_37 : decode by_M_analyse 37 = .ok (.iconst 1, 1) := by decide +kernel
theorem de_M_analyse_38 : decode by_M_analyse 38 = .ok (.goto 4, 3) := by decide +kernel
theorem de_M_analyse_41 : decode by_M_analyse 41 = .ok (.iconst 0, 1) := by decide +kernel
theorem de_M_analyse_42 : decode by_M_analyse 42 = .ok (.iastore, 1) := by decide +kernel
theorem de_M_analyse_43 : decode by_M_analyse 43 = .ok (.aload_n 0, 1) := by decide +kernel
theorem de_M_analyse_44 : decode by_M_analyse 44 = .ok (.getfield 32, 3) := by decide +kernel
theorem de_M_analyse_47 : decode by_M_analyse 47 = .ok (.bipush 6, 2) := by decide +kernel
theorem de_M_analyse_49 : decode by_M_analyse 49 = .ok (.iload_n 1, 1) := by decide +kernel
theorem de_M_analyse_50 : decode by_M_analyse 50 = .ok (.imul, 1) := by decide +kernel
theorem de_M_analyse_51 : decode by_M_analyse 51 = .ok (.iload_n 2, 1) := by decide +kernel
theorem de_M_analyse_52 : decode by_M_analyse 52 = .ok (.iadd, 1) := by decide +kernel
theorem de_M_analyse_53 : decode by_M_analyse 53 = .ok (.iconst 0, 1) := by decide +kernel
theorem de_M_analyse_54 : decode by_M_analyse 54 = .ok (.iastore, 1) := by decide +kernel
theorem de_M_analyse_55 : decode by_M_analyse 55 = .ok (.iinc 2 1, 3) := by decide +kernel
theorem de_M_analyse_58 : decode by_M_analyse 58 = .ok (.goto (-41), 3) := by decide +kernel
theorem de_M_analyse_61 : decode by_M_analyse 61 = .ok (.iinc 1 1, 3) := by decide +kernel
theorem de_M_analyse_64 : decode by_M_analyse 64 = .ok (.goto (-62), 3) := by decide +kernel
theorem de_M_analyse_67 : decode by_M_analyse 67 = .ok (.aload_n 0, 1) := by decide +kernel
theorem de_M_analyse_68 : decode by_M_analyse 68 = .ok (.getfield 25, 3) := by decide +kernel
theorem de_M_analyse_71 : decode by_M_analyse 71 = .ok (.iconst 0, 1) := by decide +kernel
theorem de_M_analyse_72 : decode by_M_analyse 72 = .ok (.aload_n 0, 1) := by decide +kernel
theorem de_M_analyse_73 : decode by_M_analyse 73 = .ok (.getfield 22, 3) := by decide +kernel
theorem de_M_analyse_76 : decode by_M_analyse 76 = .ok (.iconst 0, 1) := by decide +kernel
theorem de_M_analyse_77 : decode by_M_analyse 77 = .ok (.iaload, 1) := by decide +kernel
theorem de_M_analyse_78 : decode by_M_analyse 78 = .ok (.ifCond .le 7, 3) := by decide +kernel
theorem de_M_analyse_81 : decode by_M_analyse 81 = .ok (.iconst 1, 1) := by decide +kernel
theorem de_M_analyse_82 : decode by_M_analyse 82 = .ok (.goto 4, 3) := by decide +kernel
theorem de_M_analyse_85 : decode by_M_analyse 85 = .ok (.iconst 0, 1) := by decide +kernel
theorem de_M_analyse_86 : decode by_M_analyse 86 = .ok (.bastore, 1) := by decide +kernel
theorem de_M_analyse_87 : decode by_M_analyse 87 = .ok (.aload_n 0, 1) := by decide +kernel
theorem de_M_analyse_88 : decode by_M_analyse 88 = .ok (.aload_n 0, 1) := by decide +kernel
theorem de_M_analyse_89 : decode by_M_analyse 89 = .ok (.getfield 25, 3) := by decide +kernel
theorem de_M_analyse_92 : decode by_M_analyse 92 = .ok (.iconst 0, 1) := by decide +kernel
theorem de_M_analyse_93 : decode by_M_analyse 93 = .ok (.baload, 1) := by decide +kernel
theorem de_M_analyse_94 : decode by_M_analyse 94 = .ok (.putfield 85, 3) := by decide +kernel
theorem de_M_analyse_97 : decode by_M_analyse 97 = .ok (.aload_n 0, 1) := by decide +kernel
theorem de_M_analyse_98 : decode by_M_analyse 98 = .ok (.getfield 85, 3) := by decide +kernel
theorem de_M_analyse_101 : decode by_M_analyse 101 = .ok (.ifCond .eq 43, 3) := by decide +kernel
theorem de_M_analyse_104 : decode by_M_analyse 104 = .ok (.aload_n 0, 1) := by decide +kernel
theorem de_M_analyse_105 : decode by_M_analyse 105 = .ok (.iconst 0, 1) := by decide +kernel
theorem de_M_analyse_106 : decode by_M_analyse 106 = .ok (.putfield 85, 3) := by decide +kernel
theorem de_M_analyse_109 : decode by_M_analyse 109 = .ok (.iconst 0, 1) := by decide +kernel
theorem de_M_analyse_110 : decode by_M_analyse 110 = .ok (.istore_n 1, 1) := by decide +kernel
theorem de_M_analyse_111 : decode by_M_analyse 111 = .ok (.iload_n 1, 1) := by decide +kernel
theorem de_M_analyse_112 : decode by_M_analyse 112 = .ok (.aload_n 0, 1) := by decide +kernel
theorem de_M_analyse_113 : decode by_M_analyse 113 = .ok (.getfield 22, 3) := by decide +kernel
theorem de_M_analyse_116 : decode by_M_analyse 116 = .ok (.iconst 0, 1) := by decide +kernel
theorem de_M_analyse_117 : decode by_M_analyse 117 = .ok (.iaload, 1) := by decide +kernel
theorem de_M_analyse_118 : decode by_M_analyse 118 = .ok (.if_icmp .ge 23, 3) := by decide +kernel
theorem de_M_analyse_121 : decode by_M_analyse 121 = .ok (.aload_n 0, 1) := by decide +kernel
theorem de_M_analyse_122 : decode by_M_analyse 122 = .ok (.getfield 25, 3) := by decide +kernel
theorem de_M_analyse_125 : decode by_M_analyse 125 = .ok (.iload_n 1, 1) := by decide +kernel
theorem de_M_analyse_126 : decode by_M_analyse 126 = .ok (.baload, 1) := by decide +kernel
theorem de_M_analyse_127 : decode by_M_analyse 127 = .ok (.ifCond .eq 8, 3) := by decide +kernel
theorem de_M_analyse_130 : decode by_M_analyse 130 = .ok (.aload_n 0, 1) := by decide +kernel
theorem de_M_analyse_131 : decode by_M_analyse 131 = .ok (.iload_n 1, 1) := by decide +kernel
theorem de_M_analyse_132 : decode by_M_analyse 132 = .ok (.invokevirtual 103, 3) := by decide +kernel
theorem de_M_analyse_135 : decode by_M_analyse 135 = .ok (.iinc 1 1, 3) := by decide +kernel
theorem de_M_analyse_138 : decode by_M_analyse 138 = .ok (.goto (-27), 3) := by decide +kernel
theorem de_M_analyse_141 : decode by_M_analyse 141 = .ok (.goto (-44), 3) := by decide +kernel
theorem de_M_analyse_144 : decode by_M_analyse 144 = .ok (.return_, 1) := by decide +kernel
theorem de_M_isThere_0 : decode by_M_isThere 0 = .ok (.iload_n 1, 1) := by decide +kernel
theorem de_M_isThere_1 : decode by_M_isThere 1 = .ok (.ifCond .lt 17, 3) := by decide +kernel
theorem de_M_isThere_4 : decode by_M_isThere 4 = .ok (.iload_n 1, 1) := by decide +kernel
theorem de_M_isThere_5 : decode by_M_isThere 5 = .ok (.aload_n 0, 1) := by decide +kernel
theorem de_M_isThere_6 : decode by_M_isThere 6 = .ok (.getfield 22, 3) := by decide +kernel
theorem de_M_isThere_9 : decode by_M_isThere 9 = .ok (.iconst 0, 1) := by decide +kernel
theorem de_M_isThere_10 : decode by_M_isThere 10 = .ok (.iaload, 1) := by decide +kernel
theorem de_M_isThere_11 : decode by_M_isThere 11 = .ok (.if_icmp .ge 7, 3) := by decide +kernel
theorem de_M_isThere_14 : decode by_M_isThere 14 = .ok (.iconst 1, 1) := by decide +kernel
theorem de_M_isThere_15 : decode by_M_isThere 15 = .ok (.goto 4, 3) := by decide +kernel
theorem de_M_isThere_18 : decode by_M_isThere 18 = .ok (.iconst 0, 1) := by decide +kernel
theorem de_M_isThere_19 : decode by_M_isThere 19 = .ok (.ireturn, 1) := by decide +kernel
theorem de_M_reached_0 : decode by_M_reached 0 = .ok (.aload_n 0, 1) := by decide +kernel
theorem de_M_reached_1 : decode by_M_reached 1 = .ok (.aload_n 0, 1) := by decide +kernel
theorem de_M_reached_2 : decode by_M_reached 2 = .ok (.iload_n 1, 1) := by decide +kernel
theorem de_M_reached_3 : decode by_M_reached 3 = .ok (.invokevirtual 106, 3) := by decide +kernel
theorem de_M_reached_6 : decode by_M_reached 6 = .ok (.ifCond .eq 7, 3) := by decide +kernel
theorem de_M_reached_9 : decode by_M_reached 9 = .ok (.iconst 0, 1) := by decide +kernel
theorem de_M_reached_10 : decode by_M_reached 10 = .ok (.goto 4, 3) := by decide +kernel
theorem de_M_reached_13 : decode by_M_reached 13 = .ok (.iconst 1, 1) := by decide +kernel
theorem de_M_reached_14 : decode by_M_reached 14 = .ok (.invokevirtual 75, 3) := by decide +kernel
theorem de_M_reached_17 : decode by_M_reached 17 = .ok (.ifCond .eq 5, 3) := by decide +kernel
theorem de_M_reached_20 : decode by_M_reached 20 = .ok (.iconst 0, 1) := by decide +kernel
theorem de_M_reached_21 : decode by_M_reached 21 = .ok (.ireturn, 1) := by decide +kernel
theorem de_M_reached_22 : decode by_M_reached 22 = .ok (.aload_n 0, 1) := by decide +kernel
theorem de_M_reached_23 : decode by_M_reached 23 = .ok (.invokevirtual 109, 3) := by decide +kernel
theorem de_M_reached_26 : decode by_M_reached 26 = .ok (.aload_n 0, 1) := by decide +kernel
theorem de_M_reached_27 : decode by_M_reached 27 = .ok (.getfield 25, 3) := by decide +kernel
theorem de_M_reached_30 : decode by_M_reached 30 = .ok (.iload_n 1, 1) := by decide +kernel
theorem de_M_reached_31 : decode by_M_reached 31 = .ok (.baload, 1) := by decide +kernel
theorem de_M_reached_32 : decode by_M_reached 32 = .ok (.ireturn, 1) := by decide +kernel
theorem de_M_reachedAll_0 : decode by_M_reachedAll 0 = .ok (.aload_n 0, 1) := by decide +kernel
theorem de_M_reachedAll_1 : decode by_M_reachedAll 1 = .ok (.iconst 0, 1) := by decide +kernel
theorem de_M_reachedAll_2 : decode by_M_reachedAll 2 = .ok (.putfield 59, 3) := by decide +kernel
theorem de_M_reachedAll_5 : decode by_M_reachedAll 5 = .ok (.aload_n 0, 1) := by decide +kernel
theorem de_M_reachedAll_6 : decode by_M_reachedAll 6 = .ok (.invokevirtual 109, 3) := by decide +kernel
theorem de_M_reachedAll_9 : decode by_M_reachedAll 9 = .ok (.iconst 0, 1) := by decide +kernel
theorem de_M_reachedAll_10 : decode by_M_reachedAll 10 = .ok (.istore_n 1, 1) := by decide +kernel
theorem de_M_reachedAll_11 : decode by_M_reachedAll 11 = .ok (.iconst 0, 1) := by decide +kernel
theorem de_M_reachedAll_12 : decode by_M_reachedAll 12 = .ok (.istore_n 2, 1) := by decide +kernel
theorem de_M_reachedAll_13 : decode by_M_reachedAll 13 = .ok (.iload_n 2, 1) := by decide +kernel
theorem de_M_reachedAll_14 : decode by_M_reachedAll 14 = .ok (.aload_n 0, 1) := by decide +kernel
theorem de_M_reachedAll_15 : decode by_M_reachedAll 15 = .ok (.getfield 22, 3) := by decide +kernel
theorem de_M_reachedAll_18 : decode by_M_reachedAll 18 = .ok (.iconst 0, 1) := by decide +kernel
theorem de_M_reachedAll_19 : decode by_M_reachedAll 19 = .ok (.iaload, 1) := by decide +kernel
theorem de_M_reachedAll_20 : decode by_M_reachedAll 20 = .ok (.if_icmp .ge 26, 3) := by decide +kernel
theorem de_M_reachedAll_23 : decode by_M_reachedAll 23 = .ok (.aload_n 0, 1) := by decide +kernel
theorem de_M_reachedAll_24 : decode by_M_reachedAll 24 = .ok (.getfield 25, 3) := by decide +kernel
theorem de_M_reachedAll_27 : decode by_M_reachedAll 27 = .ok (.iload_n 2, 1) := by decide +kernel
theorem de_M_reachedAll_28 : decode by_M_reachedAll 28 = .ok (.baload, 1) := by decide +kernel
theorem de_M_reachedAll_29 : decode by_M_reachedAll 29 = .ok (.ifCond .eq 9, 3) := by decide +kernel
theorem de_M_reachedAll_32 : decode by_M_reachedAll 32 = .ok (.iload_n 1, 1) := by decide +kernel
theorem de_M_reachedAll_33 : decode by_M_reachedAll 33 = .ok (.iconst 1, 1) := by decide +kernel
theorem de_M_reachedAll_34 : decode by_M_reachedAll 34 = .ok (.iadd, 1) := by decide +kernel
theorem de_M_reachedAll_35 : decode by_M_reachedAll 35 = .ok (.goto 4, 3) := by decide +kernel
theorem de_M_reachedAll_38 : decode by_M_reachedAll 38 = .ok (.iload_n 1, 1) := by decide +kernel
theorem de_M_reachedAll_39 : decode by_M_reachedAll 39 = .ok (.istore_n 1, 1) := by decide +kernel
theorem de_M_reachedAll_40 : decode by_M_reachedAll 40 = .ok (.iinc 2 1, 3) := by decide +kernel
theorem de_M_reachedAll_43 : decode by_M_reachedAll 43 = .ok (.goto (-30), 3) := by decide +kernel
theorem de_M_reachedAll_46 : decode by_M_reachedAll 46 = .ok (.iload_n 1, 1) := by decide +kernel
theorem de_M_reachedAll_47 : decode by_M_reachedAll 47 = .ok (.ireturn, 1) := by decide +kernel
theorem de_M_known_0 : decode by_M_known 0 = .ok (.aload_n 0, 1) := by decide +kernel
theorem de_M_known_1 : decode by_M_known 1 = .ok (.aload_n 0, 1) := by decide +kernel
theorem de_M_known_2 : decode by_M_known 2 = .ok (.iload_n 1, 1) := by decide +kernel
theorem de_M_known_3 : decode by_M_known 3 = .ok (.invokevirtual 106, 3) := by decide +kernel
theorem de_M_known_6 : decode by_M_known 6 = .ok (.ifCond .eq 14, 3) := by decide +kernel
theorem de_M_known_9 : decode by_M_known 9 = .ok (.iload_n 2, 1) := by decide +kernel
theorem de_M_known_10 : decode by_M_known 10 = .ok (.invokestatic 63, 3) := by decide +kernel
theorem de_M_known_13 : decode by_M_known 13 = .ok (.ifCond .eq 7, 3) := by decide +kernel
theorem de_M_known_16 : decode by_M_known 16 = .ok (.iconst 0, 1) := by decide +kernel
theorem de_M_known_17 : decode by_M_known 17 = .ok (.goto 4, 3) := by decide +kernel
theorem de_M_known_20 : decode by_M_known 20 = .ok (.iconst 1, 1) := by decide +kernel
theorem de_M_known_21 : decode by_M_known 21 = .ok (.invokevirtual 75, 3) := by decide +kernel
theorem de_M_known_24 : decode by_M_known 24 = .ok (.ifCond .eq 5, 3) := by decide +kernel
theorem de_M_known_27 : decode by_M_known 27 = .ok (.iconst 0, 1) := by decide +kernel
theorem de_M_known_28 : decode by_M_known 28 = .ok (.ireturn, 1) := by decide +kernel
theorem de_M_known_29 : decode by_M_known 29 = .ok (.aload_n 0, 1) := by decide +kernel
theorem de_M_known_30 : decode by_M_known 30 = .ok (.invokevirtual 109, 3) := by decide +kernel
theorem de_M_known_33 : decode by_M_known 33 = .ok (.aload_n 0, 1) := by decide +kernel
theorem de_M_known_34 : decode by_M_known 34 = .ok (.getfield 25, 3) := by decide +kernel
theorem de_M_known_37 : decode by_M_known 37 = .ok (.iload_n 1, 1) := by decide +kernel
theorem de_M_known_38 : decode by_M_known 38 = .ok (.baload, 1) := by decide +kernel
theorem de_M_known_39 : decode by_M_known 39 = .ok (.ifCond .eq 17, 3) := by decide +kernel
theorem de_M_known_42 : decode by_M_known 42 = .ok (.aload_n 0, 1) := by decide +kernel
theorem de_M_known_43 : decode by_M_known 43 = .ok (.getfield 29, 3) := by decide +kernel
theorem de_M_known_46 : decode by_M_known 46 = .ok (.bipush 6, 2) := by decide +kernel
theorem de_M_known_48 : decode by_M_known 48 = .ok (.iload_n 1, 1) := by decide +kernel
theorem de_M_known_49 : decode by_M_known 49 = .ok (.imul, 1) := by decide +kernel
theorem de_M_known_50 : decode by_M_known 50 = .ok (.iload_n 2, 1) := by decide +kernel
theorem de_M_known_51 : decode by_M_known 51 = .ok (.iadd, 1) := by decide +kernel
theorem de_M_known_52 : decode by_M_known 52 = .ok (.iaload, 1) := by decide +kernel
theorem de_M_known_53 : decode by_M_known 53 = .ok (.goto 4, 3) := by decide +kernel
theorem de_M_known_56 : decode by_M_known 56 = .ok (.iconst 0, 1) := by decide +kernel
theorem de_M_known_57 : decode by_M_known 57 = .ok (.ireturn, 1) := by decide +kernel
theorem de_M_constant_0 : decode by_M_constant 0 = .ok (.aload_n 0, 1) := by decide +kernel
theorem de_M_constant_1 : decode by_M_constant 1 = .ok (.aload_n 0, 1) := by decide +kernel
theorem de_M_constant_2 : decode by_M_constant 2 = .ok (.iload_n 1, 1) := by decide +kernel
theorem de_M_constant_3 : decode by_M_constant 3 = .ok (.invokevirtual 106, 3) := by decide +kernel
theorem de_M_constant_6 : decode by_M_constant 6 = .ok (.ifCond .eq 14, 3) := by decide +kernel
theorem de_M_constant_9 : decode by_M_constant 9 = .ok (.iload_n 2, 1) := by decide +kernel
theorem de_M_constant_10 : decode by_M_constant 10 = .ok (.invokestatic 63, 3) := by decide +kernel
theorem de_M_constant_13 : decode by_M_constant 13 = .ok (.ifCond .eq 7, 3) := by decide +kernel
theorem de_M_constant_16 : decode by_M_constant 16 = .ok (.iconst 0, 1) := by decide +kernel
theorem de_M_constant_17 : decode by_M_constant 17 = .ok (.goto 4, 3) := by decide +kernel
theorem de_M_constant_20 : decode by_M_constant 20 = .ok (.iconst 1, 1) := by decide +kernel
theorem de_M_constant_21 : decode by_M_constant 21 = .ok (.invokevirtual 75, 3) := by decide +kernel
theorem de_M_constant_24 : decode by_M_constant 24 = .ok (.ifCond .eq 5, 3) := by decide +kernel
theorem de_M_constant_27 : decode by_M_constant 27 = .ok (.iconst 0, 1) := by decide +kernel
theorem de_M_constant_28 : decode by_M_constant 28 = .ok (.ireturn, 1) := by decide +kernel
theorem de_M_constant_29 : decode by_M_constant 29 = .ok (.aload_n 0, 1) := by decide +kernel
theorem de_M_constant_30 : decode by_M_constant 30 = .ok (.invokevirtual 109, 3) := by decide +kernel
theorem de_M_constant_33 : decode by_M_constant 33 = .ok (.aload_n 0, 1) := by decide +kernel
theorem de_M_constant_34 : decode by_M_constant 34 = .ok (.getfield 25, 3) := by decide +kernel
theorem de_M_constant_37 : decode by_M_constant 37 = .ok (.iload_n 1, 1) := by decide +kernel
theorem de_M_constant_38 : decode by_M_constant 38 = .ok (.baload, 1) := by decide +kernel
theorem de_M_constant_39 : decode by_M_constant 39 = .ok (.ifCond .eq 32, 3) := by decide +kernel
theorem de_M_constant_42 : decode by_M_constant 42 = .ok (.aload_n 0, 1) := by decide +kernel
theorem de_M_constant_43 : decode by_M_constant 43 = .ok (.getfield 29, 3) := by decide +kernel
theorem de_M_constant_46 : decode by_M_constant 46 = .ok (.bipush 6, 2) := by decide +kernel
theorem de_M_constant_48 : decode by_M_constant 48 = .ok (.iload_n 1, 1) := by decide +kernel
theorem de_M_constant_49 : decode by_M_constant 49 = .ok (.imul, 1) := by decide +kernel
theorem de_M_constant_50 : decode by_M_constant 50 = .ok (.iload_n 2, 1) := by decide +kernel
theorem de_M_constant_51 : decode by_M_constant 51 = .ok (.iadd, 1) := by decide +kernel
theorem de_M_constant_52 : decode by_M_constant 52 = .ok (.iaload, 1) := by decide +kernel
theorem de_M_constant_53 : decode by_M_constant 53 = .ok (.iconst 2, 1) := by decide +kernel
theorem de_M_constant_54 : decode by_M_constant 54 = .ok (.if_icmp .ne 17, 3) := by decide +kernel
theorem de_M_constant_57 : decode by_M_constant 57 = .ok (.aload_n 0, 1) := by decide +kernel
theorem de_M_constant_58 : decode by_M_constant 58 = .ok (.getfield 32, 3) := by decide +kernel
theorem de_M_constant_61 : decode by_M_constant 61 = .ok (.bipush 6, 2) := by decide +kernel
theorem de_M_constant_63 : decode by_M_constant 63 = .ok (.iload_n 1, 1) := by decide +kernel
theorem de_M_constant_64 : decode by_M_constant 64 = .ok (.imul, 1) := by decide +kernel
theorem de_M_constant_65 : decode by_M_constant 65 = .ok (.iload_n 2, 1) := by decide +kernel
theorem de_M_constant_66 : decode by_M_constant 66 = .ok (.iadd, 1) := by decide +kernel
theorem de_M_constant_67 : decode by_M_constant 67 = .ok (.iaload, 1) := by decide +kernel
theorem de_M_constant_68 : decode by_M_constant 68 = .ok (.goto 4, 3) := by decide +kernel
theorem de_M_constant_71 : decode by_M_constant 71 = .ok (.iconst 0, 1) := by decide +kernel
theorem de_M_constant_72 : decode by_M_constant 72 = .ok (.ireturn, 1) := by decide +kernel
theorem de_M_fold_0 : decode by_M_fold 0 = .ok (.aload_n 0, 1) := by decide +kernel
theorem de_M_fold_1 : decode by_M_fold 1 = .ok (.getfield 22, 3) := by decide +kernel
theorem de_M_fold_4 : decode by_M_fold 4 = .ok (.iconst 0, 1) := by decide +kernel
theorem de_M_fold_5 : decode by_M_fold 5 = .ok (.iaload, 1) := by decide +kernel
theorem de_M_fold_6 : decode by_M_fold 6 = .ok (.istore_n 1, 1) := by decide +kernel
theorem de_M_fold_7 : decode by_M_fold 7 = .ok (.iconst 0, 1) := by decide +kernel
theorem de_M_fold_8 : decode by_M_fold 8 = .ok (.istore_n 2, 1) := by decide +kernel
theorem de_M_fold_9 : decode by_M_fold 9 = .ok (.iload_n 2, 1) := by decide +kernel
theorem de_M_fold_10 : decode by_M_fold 10 = .ok (.iload_n 1, 1) := by decide +kernel
theorem de_M_fold_11 : decode by_M_fold 11 = .ok (.if_icmp .ge 189, 3) := by decide +kernel
theorem de_M_fold_14 : decode by_M_fold 14 = .ok (.aload_n 0, 1) := by decide +kernel
theorem de_M_fold_15 : decode by_M_fold 15 = .ok (.bipush 40, 2) := by decide +kernel
theorem de_M_fold_17 : decode by_M_fold 17 = .ok (.iload_n 2, 1) := by decide +kernel
theorem de_M_fold_18 : decode by_M_fold 18 = .ok (.iadd, 1) := by decide +kernel
theorem de_M_fold_19 : decode by_M_fold 19 = .ok (.aload_n 0, 1) := by decide +kernel
theorem de_M_fold_20 : decode by_M_fold 20 = .ok (.getfield 7, 3) := by decide +kernel
theorem de_M_fold_23 : decode by_M_fold 23 = .ok (.iload_n 2, 1) := by decide +kernel
theorem de_M_fold_24 : decode by_M_fold 24 = .ok (.iaload, 1) := by decide +kernel
theorem de_M_fold_25 : decode by_M_fold 25 = .ok (.aload_n 0, 1) := by decide +kernel
theorem de_M_fold_26 : decode by_M_fold 26 = .ok (.getfield 13, 3) := by decide +kernel
theorem de_M_fold_29 : decode by_M_fold 29 = .ok (.iload_n 2, 1) := by decide +kernel
theorem de_M_fold_30 : decode by_M_fold 30 = .ok (.iaload, 1) := by decide +kernel
theorem de_M_fold_31 : decode by_M_fold 31 = .ok (.aload_n 0, 1) := by decide +kernel
theorem de_M_fold_32 : decode by_M_fold 32 = .ok (.getfield 16, 3) := by decide +kernel
theorem de_M_fold_35 : decode by_M_fold 35 = .ok (.iload_n 2, 1) := by decide +kernel
theorem de_M_fold_36 : decode by_M_fold 36 = .ok (.iaload, 1) := by decide +kernel
theorem de_M_fold_37 : decode by_M_fold 37 = .ok (.aload_n 0, 1) := by decide +kernel
theorem de_M_fold_38 : decode by_M_fold 38 = .ok (.getfield 19, 3) := by decide +kernel
theorem de_M_fold_41 : decode by_M_fold 41 = .ok (.iload_n 2, 1) := by decide +kernel
theorem de_M_fold_42 : decode by_M_fold 42 = .ok (.iaload, 1) := by decide +kernel
theorem de_M_fold_43 : decode by_M_fold 43 = .ok (.invokevirtual 78, 3) := by decide +kernel
theorem de_M_fold_46 : decode by_M_fold 46 = .ok (.aload_n 0, 1) := by decide +kernel
theorem de_M_fold_47 : decode by_M_fold 47 = .ok (.getfield 25, 3) := by decide +kernel
theorem de_M_fold_50 : decode by_M_fold 50 = .ok (.iload_n 2, 1) := by decide +kernel
theorem de_M_fold_51 : decode by_M_fold 51 = .ok (.baload, 1) := by decide +kernel
theorem de_M_fold_52 : decode by_M_fold 52 = .ok (.ifCond .eq 76, 3) := by decide +kernel
theorem de_M_fold_55 : decode by_M_fold 55 = .ok (.aload_n 0, 1) := by decide +kernel
theorem de_M_fold_56 : decode by_M_fold 56 = .ok (.getfield 7, 3) := by decide +kernel
theorem de_M_fold_59 : decode by_M_fold 59 = .ok (.iload_n 2, 1) := by decide +kernel
theorem de_M_fold_60 : decode by_M_fold 60 = .ok (.iaload, 1) := by decide +kernel
theorem de_M_fold_61 : decode by_M_fold 61 = .ok (.iconst 5, 1) := by decide +kernel
theorem de_M_fold_62 : decode by_M_fold 62 = .ok (.if_icmp .ne 66, 3) := by decide +kernel
theorem de_M_fold_65 : decode by_M_fold 65 = .ok (.aload_n 0, 1) := by decide +kernel
theorem de_M_fold_66 : decode by_M_fold 66 = .ok (.getfield 29, 3) := by decide +kernel
theorem de_M_fold_69 : decode by_M_fold 69 = .ok (.bipush 6, 2) := by decide +kernel
theorem de_M_fold_71 : decode by_M_fold 71 = .ok (.iload_n 2, 1) := by decide +kernel
theorem de_M_fold_72 : decode by_M_fold 72 = .ok (.imul, 1) := by decide +kernel
theorem de_M_fold_73 : decode by_M_fold 73 = .ok (.aload_n 0, 1) := by decide +kernel
theorem de_M_fold_74 : decode by_M_fold 74 = .ok (.getfield 13, 3) := by decide +kernel
theorem de_M_fold_77 : decode by_M_fold 77 = .ok (.iload_n 2, 1) := by decide +kernel
theorem de_M_fold_78 : decode by_M_fold 78 = .ok (.iaload, 1) := by decide +kernel
theorem de_M_fold_79 : decode by_M_fold 79 = .ok (.iadd, 1) := by decide +kernel
theorem de_M_fold_80 : decode by_M_fold 80 = .ok (.iaload, 1) := by decide +kernel
theorem de_M_fold_81 : decode by_M_fold 81 = .ok (.iconst 2, 1) := by decide +kernel
theorem de_M_fold_82 : decode by_M_fold 82 = .ok (.if_icmp .ne 46, 3) := by decide +kernel
theorem de_M_fold_85 : decode by_M_fold 85 = .ok (.aload_n 0, 1) := by decide +kernel
theorem de_M_fold_86 : decode by_M_fold 86 = .ok (.bipush 40, 2) := by decide +kernel
theorem de_M_fold_88 : decode by_M_fold 88 = .ok (.iload_n 2, 1) := by decide +kernel
theorem de_M_fold_89 : decode by_M_fold 89 = .ok (.iadd, 1) := by decide +kernel
theorem de_M_fold_90 : decode by_M_fold 90 = .ok (.bipush 6, 2) := by decide +kernel
theorem de_M_fold_92 : decode by_M_fold 92 = .ok (.iconst 0, 1) := by decide +kernel
theorem de_M_fold_93 : decode by_M_fold 93 = .ok (.aload_n 0, 1) := by decide +kernel
theorem de_M_fold_94 : decode by_M_fold 94 = .ok (.getfield 32, 3) := by decide +kernel
theorem de_M_fold_97 : decode by_M_fold 97 = .ok (.bipush 6, 2) := by decide +kernel
theorem de_M_fold_99 : decode by_M_fold 99 = .ok (.iload_n 2, 1) := by decide +kernel
theorem de_M_fold_100 : decode by_M_fold 100 = .ok (.imul, 1) := by decide +kernel
theorem de_M_fold_101 : decode by_M_fold 101 = .ok (.aload_n 0, 1) := by decide +kernel
theorem de_M_fold_102 : decode by_M_fold 102 = .ok (.getfield 13, 3) := by decide +kernel
theorem de_M_fold_105 : decode by_M_fold 105 = .ok (.iload_n 2, 1) := by decide +kernel
theorem de_M_fold_106 : decode by_M_fold 106 = .ok (.iaload, 1) := by decide +kernel
theorem de_M_fold_107 : decode by_M_fold 107 = .ok (.iadd, 1) := by decide +kernel
theorem de_M_fold_108 : decode by_M_fold 108 = .ok (.iaload, 1) := by decide +kernel
theorem de_M_fold_109 : decode by_M_fold 109 = .ok (.ifCond .ne 12, 3) := by decide +kernel
theorem de_M_fold_112 : decode by_M_fold 112 = .ok (.aload_n 0, 1) := by decide +kernel
theorem de_M_fold_113 : decode by_M_fold 113 = .ok (.getfield 16, 3) := by decide +kernel
theorem de_M_fold_116 : decode by_M_fold 116 = .ok (.iload_n 2, 1) := by decide +kernel
theorem de_M_fold_117 : decode by_M_fold 117 = .ok (.iaload, 1) := by decide +kernel
theorem de_M_fold_118 : decode by_M_fold 118 = .ok (.goto 6, 3) := by decide +kernel
theorem de_M_fold_121 : decode by_M_fold 121 = .ok (.iload_n 2, 1) := by decide +kernel
theorem de_M_fold_122 : decode by_M_fold 122 = .ok (.iconst 1, 1) := by decide +kernel
theorem de_M_fold_123 : decode by_M_fold 123 = .ok (.iadd, 1) := by decide +kernel
theorem de_M_fold_124 : decode by_M_fold 124 = .ok (.iconst 0, 1) := by decide +kernel
theorem de_M_fold_125 : decode by_M_fold 125 = .ok (.invokevirtual 78, 3) := by decide +kernel
theorem de_M_fold_128 : decode by_M_fold 128 = .ok (.aload_n 0, 1) := by decide +kernel
theorem de_M_fold_129 : decode by_M_fold 129 = .ok (.getfield 25, 3) := by decide +kernel
theorem de_M_fold_132 : decode by_M_fold 132 = .ok (.iload_n 2, 1) := by decide +kernel
theorem de_M_fold_133 : decode by_M_fold 133 = .ok (.baload, 1) := by decide +kernel
theorem de_M_fold_134 : decode by_M_fold 134 = .ok (.ifCond .eq 60, 3) := by decide +kernel
theorem de_M_fold_137 : decode by_M_fold 137 = .ok (.aload_n 0, 1) := by decide +kernel
theorem de_M_fold_138 : decode by_M_fold 138 = .ok (.getfield 7, 3) := by decide +kernel
theorem de_M_fold_141 : decode by_M_fold 141 = .ok (.iload_n 2, 1) := by decide +kernel
theorem de_M_fold_142 : decode by_M_fold 142 = .ok (.iaload, 1) := by decide +kernel
theorem de_M_fold_143 : decode by_M_fold 143 = .ok (.iconst 5, 1) := by decide +kernel
theorem de_M_fold_144 : decode by_M_fold 144 = .ok (.if_icmp .ge 50, 3) := by decide +kernel
theorem de_M_fold_147 : decode by_M_fold 147 = .ok (.aload_n 0, 1) := by decide +kernel
theorem de_M_fold_148 : decode by_M_fold 148 = .ok (.iload_n 2, 1) := by decide +kernel
theorem de_M_fold_149 : decode by_M_fold 149 = .ok (.invokevirtual 100, 3) := by decide +kernel
theorem de_M_fold_152 : decode by_M_fold 152 = .ok (.aload_n 0, 1) := by decide +kernel
theorem de_M_fold_153 : decode by_M_fold 153 = .ok (.getfield 35, 3) := by decide +kernel
theorem de_M_fold_156 : decode by_M_fold 156 = .ok (.aload_n 0, 1) := by decide +kernel
theorem de_M_fold_157 : decode by_M_fold 157 = .ok (.getfield 13, 3) := by decide +kernel
theorem de_M_fold_160 : decode by_M_fold 160 = .ok (.iload_n 2, 1) := by decide +kernel
theorem de_M_fold_161 : decode by_M_fold 161 = .ok (.iaload, 1) := by decide +kernel
theorem de_M_fold_162 : decode by_M_fold 162 = .ok (.iaload, 1) := by decide +kernel
theorem de_M_fold_163 : decode by_M_fold 163 = .ok (.iconst 2, 1) := by decide +kernel
theorem de_M_fold_164 : decode by_M_fold 164 = .ok (.if_icmp .ne 30, 3) := by decide +kernel
theorem de_M_fold_167 : decode by_M_fold 167 = .ok (.aload_n 0, 1) := by decide +kernel
theorem de_M_fold_168 : decode by_M_fold 168 = .ok (.bipush 40, 2) := by decide +kernel
theorem de_M_fold_170 : decode by_M_fold 170 = .ok (.iload_n 2, 1) := by decide +kernel
theorem de_M_fold_171 : decode by_M_fold 171 = .ok (.iadd, 1) := by decide +kernel
theorem de_M_fold_172 : decode by_M_fold 172 = .ok (.iconst 0, 1) := by decide +kernel
theorem de_M_fold_173 : decode by_M_fold 173 = .ok (.aload_n 0, 1) := by decide +kernel
theorem de_M_fold_174 : decode by_M_fold 174 = .ok (.getfield 13, 3) := by decide +kernel
theorem de_M_fold_177 : decode by_M_fold 177 = .ok (.iload_n 2, 1) := by decide +kernel
theorem de_M_fold_178 : decode by_M_fold 178 = .ok (.iaload, 1) := by decide +kernel
theorem de_M_fold_179 : decode by_M_fold 179 = .ok (.aload_n 0, 1) := by decide +kernel
theorem de_M_fold_180 : decode by_M_fold 180 = .ok (.getfield 38, 3) := by decide +kernel
theorem de_M_fold_183 : decode by_M_fold 183 = .ok (.aload_n 0, 1) := by decide +kernel
theorem de_M_fold_184 : decode by_M_fold 184 = .ok (.getfield 13, 3) := by decide +kernel
theorem de_M_fold_187 : decode by_M_fold 187 = .ok (.iload_n 2, 1) := by decide +kernel
theorem de_M_fold_188 : decode by_M_fold 188 = .ok (.iaload, 1) := by decide +kernel
theorem de_M_fold_189 : decode by_M_fold 189 = .ok (.iaload, 1) := by decide +kernel
theorem de_M_fold_190 : decode by_M_fold 190 = .ok (.iconst 0, 1) := by decide +kernel
theorem de_M_fold_191 : decode by_M_fold 191 = .ok (.invokevirtual 78, 3) := by decide +kernel
theorem de_M_fold_194 : decode by_M_fold 194 = .ok (.iinc 2 1, 3) := by decide +kernel
theorem de_M_fold_197 : decode by_M_fold 197 = .ok (.goto (-188), 3) := by decide +kernel
theorem de_M_fold_200 : decode by_M_fold 200 = .ok (.return_, 1) := by decide +kernel
theorem de_M_goes_0 : decode by_M_goes 0 = .ok (.aload_n 0, 1) := by decide +kernel
theorem de_M_goes_1 : decode by_M_goes 1 = .ok (.getfield 7, 3) := by decide +kernel
theorem de_M_goes_4 : decode by_M_goes 4 = .ok (.bipush 40, 2) := by decide +kernel
theorem de_M_goes_6 : decode by_M_goes 6 = .ok (.iload_n 1, 1) := by decide +kernel
theorem de_M_goes_7 : decode by_M_goes 7 = .ok (.iadd, 1) := by decide +kernel
theorem de_M_goes_8 : decode by_M_goes 8 = .ok (.iaload, 1) := by decide +kernel
theorem de_M_goes_9 : decode by_M_goes 9 = .ok (.bipush 6, 2) := by decide +kernel
theorem de_M_goes_11 : decode by_M_goes 11 = .ok (.if_icmp .eq 16, 3) := by decide +kernel
theorem de_M_goes_14 : decode by_M_goes 14 = .ok (.aload_n 0, 1) := by decide +kernel
theorem de_M_goes_15 : decode by_M_goes 15 = .ok (.getfield 7, 3) := by decide +kernel
theorem de_M_goes_18 : decode by_M_goes 18 = .ok (.bipush 40, 2) := by decide +kernel
theorem de_M_goes_20 : decode by_M_goes 20 = .ok (.iload_n 1, 1) := by decide +kernel
theorem de_M_goes_21 : decode by_M_goes 21 = .ok (.iadd, 1) := by decide +kernel
theorem de_M_goes_22 : decode by_M_goes 22 = .ok (.iaload, 1) := by decide +kernel
theorem de_M_goes_23 : decode by_M_goes 23 = .ok (.iconst 5, 1) := by decide +kernel
theorem de_M_goes_24 : decode by_M_goes 24 = .ok (.if_icmp .ne 7, 3) := by decide +kernel
theorem de_M_goes_27 : decode by_M_goes 27 = .ok (.iconst 1, 1) := by decide +kernel
theorem de_M_goes_28 : decode by_M_goes 28 = .ok (.goto 4, 3) := by decide +kernel
theorem de_M_goes_31 : decode by_M_goes 31 = .ok (.iconst 0, 1) := by decide +kernel
theorem de_M_goes_32 : decode by_M_goes 32 = .ok (.ireturn, 1) := by decide +kernel
theorem de_M_thread_0 : decode by_M_thread 0 = .ok (.aload_n 0, 1) := by decide +kernel
theorem de_M_thread_1 : decode by_M_thread 1 = .ok (.getfield 22, 3) := by decide +kernel
theorem de_M_thread_4 : decode by_M_thread 4 = .ok (.iconst 0, 1) := by decide +kernel
theorem de_M_thread_5 : decode by_M_thread 5 = .ok (.iaload, 1) := by decide +kernel
theorem de_M_thread_6 : decode by_M_thread 6 = .ok (.istore_n 1, 1) := by decide +kernel
theorem de_M_thread_7 : decode by_M_thread 7 = .ok (.iconst 0, 1) := by decide +kernel
theorem de_M_thread_8 : decode by_M_thread 8 = .ok (.istore_n 2, 1) := by decide +kernel
theorem de_M_thread_9 : decode by_M_thread 9 = .ok (.iload_n 2, 1) := by decide +kernel
theorem de_M_thread_10 : decode by_M_thread 10 = .ok (.iload_n 1, 1) := by decide +kernel
theorem de_M_thread_11 : decode by_M_thread 11 = .ok (.if_icmp .ge 129, 3) := by decide +kernel
theorem de_M_thread_14 : decode by_M_thread 14 = .ok (.aload_n 0, 1) := by decide +kernel
theorem de_M_thread_15 : decode by_M_thread 15 = .ok (.getfield 16, 3) := by decide +kernel
theorem de_M_thread_18 : decode by_M_thread 18 = .ok (.bipush 40, 2) := by decide +kernel
theorem de_M_thread_20 : decode by_M_thread 20 = .ok (.iload_n 2, 1) := by decide +kernel
theorem de_M_thread_21 : decode by_M_thread 21 = .ok (.iadd, 1) := by decide +kernel
theorem de_M_thread_22 : decode by_M_thread 22 = .ok (.iaload, 1) := by decide +kernel
theorem de_M_thread_23 : decode by_M_thread 23 = .ok (.istore_n 3, 1) := by decide +kernel
theorem de_M_thread_24 : decode by_M_thread 24 = .ok (.iconst 0, 1) := by decide +kernel
theorem de_M_thread_25 : decode by_M_thread 25 = .ok (.istore 4, 2) := by decide +kernel
theorem de_M_thread_27 : decode by_M_thread 27 = .ok (.iload 4, 2) := by decide +kernel
theorem de_M_thread_29 : decode by_M_thread 29 = .ok (.iload_n 1, 1) := by decide +kernel
theorem de_M_thread_30 : decode by_M_thread 30 = .ok (.if_icmp .gt 46, 3) := by decide +kernel
theorem de_M_thread_33 : decode by_M_thread 33 = .ok (.iload_n 3, 1) := by decide +kernel
theorem de_M_thread_34 : decode by_M_thread 34 = .ok (.iload_n 1, 1) := by decide +kernel
theorem de_M_thread_35 : decode by_M_thread 35 = .ok (.if_icmp .ge 41, 3) := by decide +kernel
theorem de_M_thread_38 : decode by_M_thread 38 = .ok (.aload_n 0, 1) := by decide +kernel
theorem de_M_thread_39 : decode by_M_thread 39 = .ok (.iload_n 2, 1) := by decide +kernel
theorem de_M_thread_40 : decode by_M_thread 40 = .ok (.invokevirtual 112, 3) := by decide +kernel
theorem de_M_thread_43 : decode by_M_thread 43 = .ok (.ifCond .eq 33, 3) := by decide +kernel
theorem de_M_thread_46 : decode by_M_thread 46 = .ok (.aload_n 0, 1) := by decide +kernel
theorem de_M_thread_47 : decode by_M_thread 47 = .ok (.getfield 7, 3) := by decide +kernel
theorem de_M_thread_50 : decode by_M_thread 50 = .ok (.bipush 40, 2) := by decide +kernel
theorem de_M_thread_52 : decode by_M_thread 52 = .ok (.iload_n 3, 1) := by decide +kernel
theorem de_M_thread_53 : decode by_M_thread 53 = .ok (.iadd, 1) := by decide +kernel
theorem de_M_thread_54 : decode by_M_thread 54 = .ok (.iaload, 1) := by decide +kernel
theorem de_M_thread_55 : decode by_M_thread 55 = .ok (.bipush 6, 2) := by decide +kernel
theorem de_M_thread_57 : decode by_M_thread 57 = .ok (.if_icmp .ne 19, 3) := by decide +kernel
theorem de_M_thread_60 : decode by_M_thread 60 = .ok (.aload_n 0, 1) := by decide +kernel
theorem de_M_thread_61 : decode by_M_thread 61 = .ok (.getfield 16, 3) := by decide +kernel
theorem de_M_thread_64 : decode by_M_thread 64 = .ok (.bipush 40, 2) := by decide +kernel
theorem de_M_thread_66 : decode by_M_thread 66 = .ok (.iload_n 3, 1) := by decide +kernel
theorem de_M_thread_67 : decode by_M_thread 67 = .ok (.iadd, 1) := by decide +kernel
theorem de_M_thread_68 : decode by_M_thread 68 = .ok (.iaload, 1) := by decide +kernel
theorem de_M_thread_69 : decode by_M_thread 69 = .ok (.istore_n 3, 1) := by decide +kernel
theorem de_M_thread_70 : decode by_M_thread 70 = .ok (.iinc 4 1, 3) := by decide +kernel
theorem de_M_thread_73 : decode by_M_thread 73 = .ok (.goto (-46), 3) := by decide +kernel
theorem de_M_thread_76 : decode by_M_thread 76 = .ok (.aload_n 0, 1) := by decide +kernel
theorem de_M_thread_77 : decode by_M_thread 77 = .ok (.iload_n 2, 1) := by decide +kernel
theorem de_M_thread_78 : decode by_M_thread 78 = .ok (.invokevirtual 112, 3) := by decide +kernel
theorem de_M_thread_81 : decode by_M_thread 81 = .ok (.ifCond .eq 22, 3) := by decide +kernel
theorem de_M_thread_84 : decode by_M_thread 84 = .ok (.iload_n 3, 1) := by decide +kernel
theorem de_M_thread_85 : decode by_M_thread 85 = .ok (.iload_n 1, 1) := by decide +kernel
theorem de_M_thread_86 : decode by_M_thread 86 = .ok (.if_icmp .ge 17, 3) := by decide +kernel
theorem de_M_thread_89 : decode by_M_thread 89 = .ok (.aload_n 0, 1) := by decide +kernel
theorem de_M_thread_90 : decode by_M_thread 90 = .ok (.getfield 7, 3) := by decide +kernel
theorem de_M_thread_93 : decode by_M_thread 93 = .ok (.bipush 40, 2) := by decide +kernel
theorem de_M_thread_95 : decode by_M_thread 95 = .ok (.iload_n 3, 1) := by decide +kernel
theorem de_M_thread_96 : decode by_M_thread 96 = .ok (.iadd, 1) := by decide +kernel
theorem de_M_thread_97 : decode by_M_thread 97 = .ok (.iaload, 1) := by decide +kernel
theorem de_M_thread_98 : decode by_M_thread 98 = .ok (.bipush 6, 2) := by decide +kernel
theorem de_M_thread_100 : decode by_M_thread 100 = .ok (.if_icmp .eq 7, 3) := by decide +kernel
theorem de_M_thread_103 : decode by_M_thread 103 = .ok (.iconst 1, 1) := by decide +kernel
theorem de_M_thread_104 : decode by_M_thread 104 = .ok (.goto 4, 3) := by decide +kernel
theorem de_M_thread_107 : decode by_M_thread 107 = .ok (.iconst 0, 1) := by decide +kernel
theorem de_M_thread_108 : decode by_M_thread 108 = .ok (.istore 4, 2) := by decide +kernel
theorem de_M_thread_110 : decode by_M_thread 110 = .ok (.aload_n 0, 1) := by decide +kernel
theorem de_M_thread_111 : decode by_M_thread 111 = .ok (.getfield 44, 3) := by decide +kernel
theorem de_M_thread_114 : decode by_M_thread 114 = .ok (.iload_n 2, 1) := by decide +kernel
theorem de_M_thread_115 : decode by_M_thread 115 = .ok (.iload 4, 2) := by decide +kernel
theorem de_M_thread_117 : decode by_M_thread 117 = .ok (.ifCond .eq 7, 3) := by decide +kernel
theorem de_M_thread_120 : decode by_M_thread 120 = .ok (.iload_n 3, 1) := by decide +kernel
theorem de_M_thread_121 : decode by_M_thread 121 = .ok (.goto 12, 3) := by decide +kernel
theorem de_M_thread_124 : decode by_M_thread 124 = .ok (.aload_n 0, 1) := by decide +kernel
theorem de_M_thread_125 : decode by_M_thread 125 = .ok (.getfield 16, 3) := by decide +kernel
theorem de_M_thread_128 : decode by_M_thread 128 = .ok (.bipush 40, 2) := by decide +kernel
theorem de_M_thread_130 : decode by_M_thread 130 = .ok (.iload_n 2, 1) := by decide +kernel
theorem de_M_thread_131 : decode by_M_thread 131 = .ok (.iadd, 1) := by decide +kernel
theorem de_M_thread_132 : decode by_M_thread 132 = .ok (.iaload, 1) := by decide +kernel
theorem de_M_thread_133 : decode by_M_thread 133 = .ok (.iastore, 1) := by decide +kernel
theorem de_M_thread_134 : decode by_M_thread 134 = .ok (.iinc 2 1, 3) := by decide +kernel
theorem de_M_thread_137 : decode by_M_thread 137 = .ok (.goto (-128), 3) := by decide +kernel
theorem de_M_thread_140 : decode by_M_thread 140 = .ok (.iconst 0, 1) := by decide +kernel
theorem de_M_thread_141 : decode by_M_thread 141 = .ok (.istore_n 2, 1) := by decide +kernel
theorem de_M_thread_142 : decode by_M_thread 142 = .ok (.iload_n 2, 1) := by decide +kernel
theorem de_M_thread_143 : decode by_M_thread 143 = .ok (.iload_n 1, 1) := by decide +kernel
theorem de_M_thread_144 : decode by_M_thread 144 = .ok (.if_icmp .ge 24, 3) := by decide +kernel
theorem de_M_thread_147 : decode by_M_thread 147 = .ok (.aload_n 0, 1) := by decide +kernel
theorem de_M_thread_148 : decode by_M_thread 148 = .ok (.getfield 16, 3) := by decide +kernel
theorem de_M_thread_151 : decode by_M_thread 151 = .ok (.bipush 40, 2) := by decide +kernel
theorem de_M_thread_153 : decode by_M_thread 153 = .ok (.iload_n 2, 1) := by decide +kernel
theorem de_M_thread_154 : decode by_M_thread 154 = .ok (.iadd, 1) := by decide +kernel
theorem de_M_thread_155 : decode by_M_thread 155 = .ok (.aload_n 0, 1) := by decide +kernel
theorem de_M_thread_156 : decode by_M_thread 156 = .ok (.getfield 44, 3) := by decide +kernel
theorem de_M_thread_159 : decode by_M_thread 159 = .ok (.iload_n 2, 1) := by decide +kernel
theorem de_M_thread_160 : decode by_M_thread 160 = .ok (.iaload, 1) := by decide +kernel
theorem de_M_thread_161 : decode by_M_thread 161 = .ok (.iastore, 1) := by decide +kernel
theorem de_M_thread_162 : decode by_M_thread 162 = .ok (.iinc 2 1, 3) := by decide +kernel
theorem de_M_thread_165 : decode by_M_thread 165 = .ok (.goto (-23), 3) := by decide +kernel
theorem de_M_thread_168 : decode by_M_thread 168 = .ok (.return_, 1) := by decide +kernel
theorem de_M_mark_0 : decode by_M_mark 0 = .ok (.iload_n 1, 1) := by decide +kernel
theorem de_M_mark_1 : decode by_M_mark 1 = .ok (.aload_n 0, 1) := by decide +kernel
theorem de_M_mark_2 : decode by_M_mark 2 = .ok (.getfield 22, 3) := by decide +kernel
theorem de_M_mark_5 : decode by_M_mark 5 = .ok (.iconst 0, 1) := by decide +kernel
theorem de_M_mark_6 : decode by_M_mark 6 = .ok (.iaload, 1) := by decide +kernel
theorem de_M_mark_7 : decode by_M_mark 7 = .ok (.if_icmp .ge 24, 3) := by decide +kernel
theorem de_M_mark_10 : decode by_M_mark 10 = .ok (.aload_n 0, 1) := by decide +kernel
theorem de_M_mark_11 : decode by_M_mark 11 = .ok (.getfield 41, 3) := by decide +kernel
theorem de_M_mark_14 : decode by_M_mark 14 = .ok (.iload_n 1, 1) := by decide +kernel
theorem de_M_mark_15 : decode by_M_mark 15 = .ok (.baload, 1) := by decide +kernel
theorem de_M_mark_16 : decode by_M_mark 16 = .ok (.ifCond .ne 15, 3) := by decide +kernel
theorem de_M_mark_19 : decode by_M_mark 19 = .ok (.aload_n 0, 1) := by decide +kernel
theorem de_M_mark_20 : decode by_M_mark 20 = .ok (.getfield 41, 3) := by decide +kernel
theorem de_M_mark_23 : decode by_M_mark 23 = .ok (.iload_n 1, 1) := by decide +kernel
theorem de_M_mark_24 : decode by_M_mark 24 = .ok (.iconst 1, 1) := by decide +kernel
theorem de_M_mark_25 : decode by_M_mark 25 = .ok (.bastore, 1) := by decide +kernel
theorem de_M_mark_26 : decode by_M_mark 26 = .ok (.aload_n 0, 1) := by decide +kernel
theorem de_M_mark_27 : decode by_M_mark 27 = .ok (.iconst 1, 1) := by decide +kernel
theorem de_M_mark_28 : decode by_M_mark 28 = .ok (.putfield 85, 3) := by decide +kernel
theorem de_M_mark_31 : decode by_M_mark 31 = .ok (.return_, 1) := by decide +kernel
theorem de_M_nextStaying_0 : decode by_M_nextStaying 0 = .ok (.iload_n 1, 1) := by decide +kernel
theorem de_M_nextStaying_1 : decode by_M_nextStaying 1 = .ok (.istore_n 2, 1) := by decide +kernel
theorem de_M_nextStaying_2 : decode by_M_nextStaying 2 = .ok (.iload_n 2, 1) := by decide +kernel
theorem de_M_nextStaying_3 : decode by_M_nextStaying 3 = .ok (.aload_n 0, 1) := by decide +kernel
theorem de_M_nextStaying_4 : decode by_M_nextStaying 4 = .ok (.getfield 22, 3) := by decide +kernel
theorem de_M_nextStaying_7 : decode by_M_nextStaying 7 = .ok (.iconst 0, 1) := by decide +kernel
theorem de_M_nextStaying_8 : decode by_M_nextStaying 8 = .ok (.iaload, 1) := by decide +kernel
theorem de_M_nextStaying_9 : decode by_M_nextStaying 9 = .ok (.if_icmp .ge 18, 3) := by decide +kernel
theorem de_M_nextStaying_12 : decode by_M_nextStaying 12 = .ok (.aload_n 0, 1) := by decide +kernel
theorem de_M_nextStaying_13 : decode by_M_nextStaying 13 = .ok (.getfield 41, 3) := by decide +kernel
theorem de_M_nextStaying_16 : decode by_M_nextStaying 16 = .ok (.iload_n 2, 1) := by decide +kernel
theorem de_M_nextStaying_17 : decode by_M_nextStaying 17 = .ok (.baload, 1) := by decide +kernel
theorem de_M_nextStaying_18 : decode by_M_nextStaying 18 = .ok (.ifCond .ne 9, 3) := by decide +kernel
theorem de_M_nextStaying_21 : decode by_M_nextStaying 21 = .ok (.iinc 2 1, 3) := by decide +kernel
theorem de_M_nextStaying_24 : decode by_M_nextStaying 24 = .ok (.goto (-22), 3) := by decide +kernel
theorem de_M_nextStaying_27 : decode by_M_nextStaying 27 = .ok (.iload_n 2, 1) := by decide +kernel
theorem de_M_nextStaying_28 : decode by_M_nextStaying 28 = .ok (.ireturn, 1) := by decide +kernel
theorem de_M_drop_0 : decode by_M_drop 0 = .ok (.aload_n 0, 1) := by decide +kernel
theorem de_M_drop_1 : decode by_M_drop 1 = .ok (.getfield 22, 3) := by decide +kernel
theorem de_M_drop_4 : decode by_M_drop 4 = .ok (.iconst 0, 1) := by decide +kernel
theorem de_M_drop_5 : decode by_M_drop 5 = .ok (.iaload, 1) := by decide +kernel
theorem de_M_drop_6 : decode by_M_drop 6 = .ok (.istore_n 1, 1) := by decide +kernel
theorem de_M_drop_7 : decode by_M_drop 7 = .ok (.iconst 0, 1) := by decide +kernel
theorem de_M_drop_8 : decode by_M_drop 8 = .ok (.istore_n 2, 1) := by decide +kernel
theorem de_M_drop_9 : decode by_M_drop 9 = .ok (.iload_n 2, 1) := by decide +kernel
theorem de_M_drop_10 : decode by_M_drop 10 = .ok (.iload_n 1, 1) := by decide +kernel
theorem de_M_drop_11 : decode by_M_drop 11 = .ok (.if_icmp .ge 24, 3) := by decide +kernel
theorem de_M_drop_14 : decode by_M_drop 14 = .ok (.aload_n 0, 1) := by decide +kernel
theorem de_M_drop_15 : decode by_M_drop 15 = .ok (.getfield 41, 3) := by decide +kernel
theorem de_M_drop_18 : decode by_M_drop 18 = .ok (.iload_n 2, 1) := by decide +kernel
theorem de_M_drop_19 : decode by_M_drop 19 = .ok (.iload_n 2, 1) := by decide +kernel
theorem de_M_drop_20 : decode by_M_drop 20 = .ok (.ifCond .ne 7, 3) := by decide +kernel
theorem de_M_drop_23 : decode by_M_drop 23 = .ok (.iconst 1, 1) := by decide +kernel
theorem de_M_drop_24 : decode by_M_drop 24 = .ok (.goto 4, 3) := by decide +kernel
theorem de_M_drop_27 : decode by_M_drop 27 = .ok (.iconst 0, 1) := by decide +kernel
theorem de_M_drop_28 : decode by_M_drop 28 = .ok (.bastore, 1) := by decide +kernel
theorem de_M_drop_29 : decode by_M_drop 29 = .ok (.iinc 2 1, 3) := by decide +kernel
theorem de_M_drop_32 : decode by_M_drop 32 = .ok (.goto (-23), 3) := by decide +kernel
theorem de_M_drop_35 : decode by_M_drop 35 = .ok (.aload_n 0, 1) := by decide +kernel
theorem de_M_drop_36 : decode by_M_drop 36 = .ok (.iconst 1, 1) := by decide +kernel
theorem de_M_drop_37 : decode by_M_drop 37 = .ok (.putfield 85, 3) := by decide +kernel
theorem de_M_drop_40 : decode by_M_drop 40 = .ok (.aload_n 0, 1) := by decide +kernel
theorem de_M_drop_41 : decode by_M_drop 41 = .ok (.getfield 85, 3) := by decide +kernel
theorem de_M_drop_44 : decode by_M_drop 44 = .ok (.ifCond .eq 98, 3) := by decide +kernel
theorem de_M_drop_47 : decode by_M_drop 47 = .ok (.aload_n 0, 1) := by decide +kernel
theorem de_M_drop_48 : decode by_M_drop 48 = .ok (.iconst 0, 1) := by decide +kernel
theorem de_M_drop_49 : decode by_M_drop 49 = .ok (.putfield 85, 3) := by decide +kernel
theorem de_M_drop_52 : decode by_M_drop 52 = .ok (.iconst 0, 1) := by decide +kernel
theorem de_M_drop_53 : decode by_M_drop 53 = .ok (.istore_n 2, 1) := by decide +kernel
theorem de_M_drop_54 : decode by_M_drop 54 = .ok (.iload_n 2, 1) := by decide +kernel
theorem de_M_drop_55 : decode by_M_drop 55 = .ok (.iload_n 1, 1) := by decide +kernel
theorem de_M_drop_56 : decode by_M_drop 56 = .ok (.if_icmp .ge 83, 3) := by decide +kernel
theorem de_M_drop_59 : decode by_M_drop 59 = .ok (.aload_n 0, 1) := by decide +kernel
theorem de_M_drop_60 : decode by_M_drop 60 = .ok (.getfield 41, 3) := by decide +kernel
theorem de_M_drop_63 : decode by_M_drop 63 = .ok (.iload_n 2, 1) := by decide +kernel
theorem de_M_drop_64 : decode by_M_drop 64 = .ok (.baload, 1) := by decide +kernel
theorem de_M_drop_65 : decode by_M_drop 65 = .ok (.ifCond .eq 24, 3) := by decide +kernel
theorem de_M_drop_68 : decode by_M_drop 68 = .ok (.aload_n 0, 1) := by decide +kernel
theorem de_M_drop_69 : decode by_M_drop 69 = .ok (.iload_n 2, 1) := by decide +kernel
theorem de_M_drop_70 : decode by_M_drop 70 = .ok (.invokevirtual 112, 3) := by decide +kernel
theorem de_M_drop_73 : decode by_M_drop 73 = .ok (.ifCond .eq 16, 3) := by decide +kernel
theorem de_M_drop_76 : decode by_M_drop 76 = .ok (.aload_n 0, 1) := by decide +kernel
theorem de_M_drop_77 : decode by_M_drop 77 = .ok (.aload_n 0, 1) := by decide +kernel
theorem de_M_drop_78 : decode by_M_drop 78 = .ok (.getfield 16, 3) := by decide +kernel
theorem de_M_drop_81 : decode by_M_drop 81 = .ok (.bipush 40, 2) := by decide +kernel
theorem de_M_drop_83 : decode by_M_drop 83 = .ok (.iload_n 2, 1) := by decide +kernel
theorem de_M_drop_84 : decode by_M_drop 84 = .ok (.iadd, 1) := by decide +kernel
theorem de_M_drop_85 : decode by_M_drop 85 = .ok (.iaload, 1) := by decide +kernel
theorem de_M_drop_86 : decode by_M_drop 86 = .ok (.invokevirtual 115, 3) := by decide +kernel
theorem de_M_drop_89 : decode by_M_drop 89 = .ok (.aload_n 0, 1) := by decide +kernel
theorem de_M_drop_90 : decode by_M_drop 90 = .ok (.getfield 41, 3) := by decide +kernel
theorem de_M_drop_93 : decode by_M_drop 93 = .ok (.iload_n 2, 1) := by decide +kernel
theorem de_M_drop_94 : decode by_M_drop 94 = .ok (.baload, 1) := by decide +kernel
theorem de_M_drop_95 : decode by_M_drop 95 = .ok (.ifCond .eq 38, 3) := by decide +kernel
theorem de_M_drop_98 : decode by_M_drop 98 = .ok (.aload_n 0, 1) := by decide +kernel
theorem de_M_drop_99 : decode by_M_drop 99 = .ok (.getfield 7, 3) := by decide +kernel
theorem de_M_drop_102 : decode by_M_drop 102 = .ok (.bipush 40, 2) := by decide +kernel
theorem de_M_drop_104 : decode by_M_drop 104 = .ok (.iload_n 2, 1) := by decide +kernel
theorem de_M_drop_105 : decode by_M_drop 105 = .ok (.iadd, 1) := by decide +kernel
theorem de_M_drop_106 : decode by_M_drop 106 = .ok (.iaload, 1) := by decide +kernel
theorem de_M_drop_107 : decode by_M_drop 107 = .ok (.bipush 6, 2) := by decide +kernel
theorem de_M_drop_109 : decode by_M_drop 109 = .ok (.if_icmp .eq 24, 3) := by decide +kernel
theorem de_M_drop_112 : decode by_M_drop 112 = .ok (.aload_n 0, 1) := by decide +kernel
theorem de_M_drop_113 : decode by_M_drop 113 = .ok (.getfield 7, 3) := by decide +kernel
theorem de_M_drop_116 : decode by_M_drop 116 = .ok (.bipush 40, 2) := by decide +kernel
theorem de_M_drop_118 : decode by_M_drop 118 = .ok (.iload_n 2, 1) := by decide +kernel
theorem de_M_drop_119 : decode by_M_drop 119 = .ok (.iadd, 1) := by decide +kernel
theorem de_M_drop_120 : decode by_M_drop 120 = .ok (.iaload, 1) := by decide +kernel
theorem de_M_drop_121 : decode by_M_drop 121 = .ok (.bipush 7, 2) := by decide +kernel
