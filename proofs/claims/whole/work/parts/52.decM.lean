/-! decode rows, by program -/
theorem de_M_drop_123 : decode by_M_drop 123 = .ok (.if_icmp .eq 10, 3) := by decide +kernel
theorem de_M_drop_126 : decode by_M_drop 126 = .ok (.aload_n 0, 1) := by decide +kernel
theorem de_M_drop_127 : decode by_M_drop 127 = .ok (.iload_n 2, 1) := by decide +kernel
theorem de_M_drop_128 : decode by_M_drop 128 = .ok (.iconst 1, 1) := by decide +kernel
theorem de_M_drop_129 : decode by_M_drop 129 = .ok (.iadd, 1) := by decide +kernel
theorem de_M_drop_130 : decode by_M_drop 130 = .ok (.invokevirtual 115, 3) := by decide +kernel
theorem de_M_drop_133 : decode by_M_drop 133 = .ok (.iinc 2 1, 3) := by decide +kernel
theorem de_M_drop_136 : decode by_M_drop 136 = .ok (.goto (-82), 3) := by decide +kernel
theorem de_M_drop_139 : decode by_M_drop 139 = .ok (.goto (-99), 3) := by decide +kernel
theorem de_M_drop_142 : decode by_M_drop 142 = .ok (.iload_n 1, 1) := by decide +kernel
theorem de_M_drop_143 : decode by_M_drop 143 = .ok (.iconst 1, 1) := by decide +kernel
theorem de_M_drop_144 : decode by_M_drop 144 = .ok (.isub, 1) := by decide +kernel
theorem de_M_drop_145 : decode by_M_drop 145 = .ok (.istore_n 2, 1) := by decide +kernel
theorem de_M_drop_146 : decode by_M_drop 146 = .ok (.iload_n 2, 1) := by decide +kernel
theorem de_M_drop_147 : decode by_M_drop 147 = .ok (.ifCond .lt 81, 3) := by decide +kernel
theorem de_M_drop_150 : decode by_M_drop 150 = .ok (.aload_n 0, 1) := by decide +kernel
theorem de_M_drop_151 : decode by_M_drop 151 = .ok (.iload_n 2, 1) := by decide +kernel
theorem de_M_drop_152 : decode by_M_drop 152 = .ok (.iconst 1, 1) := by decide +kernel
theorem de_M_drop_153 : decode by_M_drop 153 = .ok (.iadd, 1) := by decide +kernel
theorem de_M_drop_154 : decode by_M_drop 154 = .ok (.invokevirtual 118, 3) := by decide +kernel
theorem de_M_drop_157 : decode by_M_drop 157 = .ok (.istore_n 3, 1) := by decide +kernel
theorem de_M_drop_158 : decode by_M_drop 158 = .ok (.aload_n 0, 1) := by decide +kernel
theorem de_M_drop_159 : decode by_M_drop 159 = .ok (.getfield 16, 3) := by decide +kernel
theorem de_M_drop_162 : decode by_M_drop 162 = .ok (.bipush 40, 2) := by decide +kernel
theorem de_M_drop_164 : decode by_M_drop 164 = .ok (.iload_n 2, 1) := by decide +kernel
theorem de_M_drop_165 : decode by_M_drop 165 = .ok (.iadd, 1) := by decide +kernel
theorem de_M_drop_166 : decode by_M_drop 166 = .ok (.iaload, 1) := by decide +kernel
theorem de_M_drop_167 : decode by_M_drop 167 = .ok (.iload_n 1, 1) := by decide +kernel
theorem de_M_drop_168 : decode by_M_drop 168 = .ok (.if_icmp .ge 15, 3) := by decide +kernel
theorem de_M_drop_171 : decode by_M_drop 171 = .ok (.aload_n 0, 1) := by decide +kernel
theorem de_M_drop_172 : decode by_M_drop 172 = .ok (.getfield 16, 3) := by decide +kernel
theorem de_M_drop_175 : decode by_M_drop 175 = .ok (.bipush 40, 2) := by decide +kernel
theorem de_M_drop_177 : decode by_M_drop 177 = .ok (.iload_n 2, 1) := by decide +kernel
theorem de_M_drop_178 : decode by_M_drop 178 = .ok (.iadd, 1) := by decide +kernel
theorem de_M_drop_179 : decode by_M_drop 179 = .ok (.iaload, 1) := by decide +kernel
theorem de_M_drop_180 : decode by_M_drop 180 = .ok (.goto 4, 3) := by decide +kernel
theorem de_M_drop_183 : decode by_M_drop 183 = .ok (.iload_n 1, 1) := by decide +kernel
theorem de_M_drop_184 : decode by_M_drop 184 = .ok (.istore 4, 2) := by decide +kernel
theorem de_M_drop_186 : decode by_M_drop 186 = .ok (.aload_n 0, 1) := by decide +kernel
theorem de_M_drop_187 : decode by_M_drop 187 = .ok (.getfield 41, 3) := by decide +kernel
theorem de_M_drop_190 : decode by_M_drop 190 = .ok (.iload_n 2, 1) := by decide +kernel
theorem de_M_drop_191 : decode by_M_drop 191 = .ok (.baload, 1) := by decide +kernel
theorem de_M_drop_192 : decode by_M_drop 192 = .ok (.ifCond .eq 30, 3) := by decide +kernel
theorem de_M_drop_195 : decode by_M_drop 195 = .ok (.aload_n 0, 1) := by decide +kernel
theorem de_M_drop_196 : decode by_M_drop 196 = .ok (.getfield 7, 3) := by decide +kernel
theorem de_M_drop_199 : decode by_M_drop 199 = .ok (.bipush 40, 2) := by decide +kernel
theorem de_M_drop_201 : decode by_M_drop 201 = .ok (.iload_n 2, 1) := by decide +kernel
theorem de_M_drop_202 : decode by_M_drop 202 = .ok (.iadd, 1) := by decide +kernel
theorem de_M_drop_203 : decode by_M_drop 203 = .ok (.iaload, 1) := by decide +kernel
theorem de_M_drop_204 : decode by_M_drop 204 = .ok (.bipush 6, 2) := by decide +kernel
theorem de_M_drop_206 : decode by_M_drop 206 = .ok (.if_icmp .ne 16, 3) := by decide +kernel
theorem de_M_drop_209 : decode by_M_drop 209 = .ok (.iload 4, 2) := by decide +kernel
theorem de_M_drop_211 : decode by_M_drop 211 = .ok (.iload_n 3, 1) := by decide +kernel
theorem de_M_drop_212 : decode by_M_drop 212 = .ok (.if_icmp .ne 10, 3) := by decide +kernel
theorem de_M_drop_215 : decode by_M_drop 215 = .ok (.aload_n 0, 1) := by decide +kernel
theorem de_M_drop_216 : decode by_M_drop 216 = .ok (.getfield 41, 3) := by decide +kernel
theorem de_M_drop_219 : decode by_M_drop 219 = .ok (.iload_n 2, 1) := by decide +kernel
theorem de_M_drop_220 : decode by_M_drop 220 = .ok (.iconst 0, 1) := by decide +kernel
theorem de_M_drop_221 : decode by_M_drop 221 = .ok (.bastore, 1) := by decide +kernel
theorem de_M_drop_222 : decode by_M_drop 222 = .ok (.iinc 2 (-1), 3) := by decide +kernel
theorem de_M_drop_225 : decode by_M_drop 225 = .ok (.goto (-79), 3) := by decide +kernel
theorem de_M_drop_228 : decode by_M_drop 228 = .ok (.return_, 1) := by decide +kernel
theorem de_M_number_0 : decode by_M_number 0 = .ok (.aload_n 0, 1) := by decide +kernel
theorem de_M_number_1 : decode by_M_number 1 = .ok (.getfield 22, 3) := by decide +kernel
theorem de_M_number_4 : decode by_M_number 4 = .ok (.iconst 0, 1) := by decide +kernel
theorem de_M_number_5 : decode by_M_number 5 = .ok (.iaload, 1) := by decide +kernel
theorem de_M_number_6 : decode by_M_number 6 = .ok (.istore_n 1, 1) := by decide +kernel
theorem de_M_number_7 : decode by_M_number 7 = .ok (.iconst 0, 1) := by decide +kernel
theorem de_M_number_8 : decode by_M_number 8 = .ok (.istore_n 2, 1) := by decide +kernel
theorem de_M_number_9 : decode by_M_number 9 = .ok (.iconst 0, 1) := by decide +kernel
theorem de_M_number_10 : decode by_M_number 10 = .ok (.istore_n 3, 1) := by decide +kernel
theorem de_M_number_11 : decode by_M_number 11 = .ok (.iload_n 3, 1) := by decide +kernel
theorem de_M_number_12 : decode by_M_number 12 = .ok (.iload_n 1, 1) := by decide +kernel
theorem de_M_number_13 : decode by_M_number 13 = .ok (.if_icmp .ge 33, 3) := by decide +kernel
theorem de_M_number_16 : decode by_M_number 16 = .ok (.aload_n 0, 1) := by decide +kernel
theorem de_M_number_17 : decode by_M_number 17 = .ok (.getfield 44, 3) := by decide +kernel
theorem de_M_number_20 : decode by_M_number 20 = .ok (.iload_n 3, 1) := by decide +kernel
theorem de_M_number_21 : decode by_M_number 21 = .ok (.iload_n 2, 1) := by decide +kernel
theorem de_M_number_22 : decode by_M_number 22 = .ok (.iastore, 1) := by decide +kernel
theorem de_M_number_23 : decode by_M_number 23 = .ok (.aload_n 0, 1) := by decide +kernel
theorem de_M_number_24 : decode by_M_number 24 = .ok (.getfield 41, 3) := by decide +kernel
theorem de_M_number_27 : decode by_M_number 27 = .ok (.iload_n 3, 1) := by decide +kernel
theorem de_M_number_28 : decode by_M_number 28 = .ok (.baload, 1) := by decide +kernel
theorem de_M_number_29 : decode by_M_number 29 = .ok (.ifCond .eq 9, 3) := by decide +kernel
theorem de_M_number_32 : decode by_M_number 32 = .ok (.iload_n 2, 1) := by decide +kernel
theorem de_M_number_33 : decode by_M_number 33 = .ok (.iconst 1, 1) := by decide +kernel
theorem de_M_number_34 : decode by_M_number 34 = .ok (.iadd, 1) := by decide +kernel
theorem de_M_number_35 : decode by_M_number 35 = .ok (.goto 4, 3) := by decide +kernel
theorem de_M_number_38 : decode by_M_number 38 = .ok (.iload_n 2, 1) := by decide +kernel
theorem de_M_number_39 : decode by_M_number 39 = .ok (.istore_n 2, 1) := by decide +kernel
theorem de_M_number_40 : decode by_M_number 40 = .ok (.iinc 3 1, 3) := by decide +kernel
theorem de_M_number_43 : decode by_M_number 43 = .ok (.goto (-32), 3) := by decide +kernel
theorem de_M_number_46 : decode by_M_number 46 = .ok (.iconst 0, 1) := by decide +kernel
theorem de_M_number_47 : decode by_M_number 47 = .ok (.istore_n 3, 1) := by decide +kernel
theorem de_M_number_48 : decode by_M_number 48 = .ok (.iconst 0, 1) := by decide +kernel
theorem de_M_number_49 : decode by_M_number 49 = .ok (.istore 4, 2) := by decide +kernel
theorem de_M_number_51 : decode by_M_number 51 = .ok (.iload 4, 2) := by decide +kernel
theorem de_M_number_53 : decode by_M_number 53 = .ok (.iload_n 1, 1) := by decide +kernel
theorem de_M_number_54 : decode by_M_number 54 = .ok (.if_icmp .ge 146, 3) := by decide +kernel
theorem de_M_number_57 : decode by_M_number 57 = .ok (.aload_n 0, 1) := by decide +kernel
theorem de_M_number_58 : decode by_M_number 58 = .ok (.getfield 41, 3) := by decide +kernel
theorem de_M_number_61 : decode by_M_number 61 = .ok (.iload 4, 2) := by decide +kernel
theorem de_M_number_63 : decode by_M_number 63 = .ok (.baload, 1) := by decide +kernel
theorem de_M_number_64 : decode by_M_number 64 = .ok (.ifCond .eq 130, 3) := by decide +kernel
theorem de_M_number_67 : decode by_M_number 67 = .ok (.aload_n 0, 1) := by decide +kernel
theorem de_M_number_68 : decode by_M_number 68 = .ok (.iload 4, 2) := by decide +kernel
theorem de_M_number_70 : decode by_M_number 70 = .ok (.invokevirtual 112, 3) := by decide +kernel
theorem de_M_number_73 : decode by_M_number 73 = .ok (.ifCond .eq 34, 3) := by decide +kernel
theorem de_M_number_76 : decode by_M_number 76 = .ok (.aload_n 0, 1) := by decide +kernel
theorem de_M_number_77 : decode by_M_number 77 = .ok (.getfield 16, 3) := by decide +kernel
theorem de_M_number_80 : decode by_M_number 80 = .ok (.bipush 40, 2) := by decide +kernel
theorem de_M_number_82 : decode by_M_number 82 = .ok (.iload 4, 2) := by decide +kernel
theorem de_M_number_84 : decode by_M_number 84 = .ok (.iadd, 1) := by decide +kernel
theorem de_M_number_85 : decode by_M_number 85 = .ok (.iaload, 1) := by decide +kernel
theorem de_M_number_86 : decode by_M_number 86 = .ok (.iload_n 1, 1) := by decide +kernel
theorem de_M_number_87 : decode by_M_number 87 = .ok (.if_icmp .ge 20, 3) := by decide +kernel
theorem de_M_number_90 : decode by_M_number 90 = .ok (.aload_n 0, 1) := by decide +kernel
theorem de_M_number_91 : decode by_M_number 91 = .ok (.aload_n 0, 1) := by decide +kernel
theorem de_M_number_92 : decode by_M_number 92 = .ok (.getfield 16, 3) := by decide +kernel
theorem de_M_number_95 : decode by_M_number 95 = .ok (.bipush 40, 2) := by decide +kernel
theorem de_M_number_97 : decode by_M_number 97 = .ok (.iload 4, 2) := by decide +kernel
theorem de_M_number_99 : decode by_M_number 99 = .ok (.iadd, 1) := by decide +kernel
theorem de_M_number_100 : decode by_M_number 100 = .ok (.iaload, 1) := by decide +kernel
theorem de_M_number_101 : decode by_M_number 101 = .ok (.invokevirtual 118, 3) := by decide +kernel
theorem de_M_number_104 : decode by_M_number 104 = .ok (.goto 4, 3) := by decide +kernel
theorem de_M_number_107 : decode by_M_number 107 = .ok (.iload_n 1, 1) := by decide +kernel
theorem de_M_number_108 : decode by_M_number 108 = .ok (.istore 5, 2) := by decide +kernel
theorem de_M_number_110 : decode by_M_number 110 = .ok (.iload 5, 2) := by decide +kernel
theorem de_M_number_112 : decode by_M_number 112 = .ok (.iload_n 1, 1) := by decide +kernel
theorem de_M_number_113 : decode by_M_number 113 = .ok (.if_icmp .ge 13, 3) := by decide +kernel
theorem de_M_number_116 : decode by_M_number 116 = .ok (.aload_n 0, 1) := by decide +kernel
theorem de_M_number_117 : decode by_M_number 117 = .ok (.getfield 44, 3) := by decide +kernel
theorem de_M_number_120 : decode by_M_number 120 = .ok (.iload 5, 2) := by decide +kernel
theorem de_M_number_122 : decode by_M_number 122 = .ok (.iaload, 1) := by decide +kernel
theorem de_M_number_123 : decode by_M_number 123 = .ok (.goto 4, 3) := by decide +kernel
theorem de_M_number_126 : decode by_M_number 126 = .ok (.iload_n 2, 1) := by decide +kernel
theorem de_M_number_127 : decode by_M_number 127 = .ok (.istore 6, 2) := by decide +kernel
theorem de_M_number_129 : decode by_M_number 129 = .ok (.aload_n 0, 1) := by decide +kernel
theorem de_M_number_130 : decode by_M_number 130 = .ok (.bipush 40, 2) := by decide +kernel
theorem de_M_number_132 : decode by_M_number 132 = .ok (.iload_n 3, 1) := by decide +kernel
theorem de_M_number_133 : decode by_M_number 133 = .ok (.iadd, 1) := by decide +kernel
theorem de_M_number_134 : decode by_M_number 134 = .ok (.aload_n 0, 1) := by decide +kernel
theorem de_M_number_135 : decode by_M_number 135 = .ok (.getfield 7, 3) := by decide +kernel
theorem de_M_number_138 : decode by_M_number 138 = .ok (.bipush 40, 2) := by decide +kernel
theorem de_M_number_140 : decode by_M_number 140 = .ok (.iload 4, 2) := by decide +kernel
theorem de_M_number_142 : decode by_M_number 142 = .ok (.iadd, 1) := by decide +kernel
theorem de_M_number_143 : decode by_M_number 143 = .ok (.iaload, 1) := by decide +kernel
theorem de_M_number_144 : decode by_M_number 144 = .ok (.aload_n 0, 1) := by decide +kernel
theorem de_M_number_145 : decode by_M_number 145 = .ok (.getfield 13, 3) := by decide +kernel
theorem de_M_number_148 : decode by_M_number 148 = .ok (.bipush 40, 2) := by decide +kernel
theorem de_M_number_150 : decode by_M_number 150 = .ok (.iload 4, 2) := by decide +kernel
theorem de_M_number_152 : decode by_M_number 152 = .ok (.iadd, 1) := by decide +kernel
theorem de_M_number_153 : decode by_M_number 153 = .ok (.iaload, 1) := by decide +kernel
theorem de_M_number_154 : decode by_M_number 154 = .ok (.aload_n 0, 1) := by decide +kernel
theorem de_M_number_155 : decode by_M_number 155 = .ok (.iload 4, 2) := by decide +kernel
theorem de_M_number_157 : decode by_M_number 157 = .ok (.invokevirtual 112, 3) := by decide +kernel
theorem de_M_number_160 : decode by_M_number 160 = .ok (.ifCond .eq 8, 3) := by decide +kernel
theorem de_M_number_163 : decode by_M_number 163 = .ok (.iload 6, 2) := by decide +kernel
theorem de_M_number_165 : decode by_M_number 165 = .ok (.goto 13, 3) := by decide +kernel
theorem de_M_number_168 : decode by_M_number 168 = .ok (.aload_n 0, 1) := by decide +kernel
theorem de_M_number_169 : decode by_M_number 169 = .ok (.getfield 16, 3) := by decide +kernel
theorem de_M_number_172 : decode by_M_number 172 = .ok (.bipush 40, 2) := by decide +kernel
theorem de_M_number_174 : decode by_M_number 174 = .ok (.iload 4, 2) := by decide +kernel
theorem de_M_number_176 : decode by_M_number 176 = .ok (.iadd, 1) := by decide +kernel
theorem de_M_number_177 : decode by_M_number 177 = .ok (.iaload, 1) := by decide +kernel
theorem de_M_number_178 : decode by_M_number 178 = .ok (.aload_n 0, 1) := by decide +kernel
theorem de_M_number_179 : decode by_M_number 179 = .ok (.getfield 19, 3) := by decide +kernel
theorem de_M_number_182 : decode by_M_number 182 = .ok (.bipush 40, 2) := by decide +kernel
theorem de_M_number_184 : decode by_M_number 184 = .ok (.iload 4, 2) := by decide +kernel
theorem de_M_number_186 : decode by_M_number 186 = .ok (.iadd, 1) := by decide +kernel
theorem de_M_number_187 : decode by_M_number 187 = .ok (.iaload, 1) := by decide +kernel
theorem de_M_number_188 : decode by_M_number 188 = .ok (.invokevirtual 78, 3) := by decide +kernel
theorem de_M_number_191 : decode by_M_number 191 = .ok (.iinc 3 1, 3) := by decide +kernel
theorem de_M_number_194 : decode by_M_number 194 = .ok (.iinc 4 1, 3) := by decide +kernel
theorem de_M_number_197 : decode by_M_number 197 = .ok (.goto (-146), 3) := by decide +kernel
theorem de_M_number_200 : decode by_M_number 200 = .ok (.aload_n 0, 1) := by decide +kernel
theorem de_M_number_201 : decode by_M_number 201 = .ok (.getfield 22, 3) := by decide +kernel
theorem de_M_number_204 : decode by_M_number 204 = .ok (.iconst 1, 1) := by decide +kernel
theorem de_M_number_205 : decode by_M_number 205 = .ok (.iload_n 2, 1) := by decide +kernel
theorem de_M_number_206 : decode by_M_number 206 = .ok (.iastore, 1) := by decide +kernel
theorem de_M_number_207 : decode by_M_number 207 = .ok (.return_, 1) := by decide +kernel
theorem de_M_rewrite_0 : decode by_M_rewrite 0 = .ok (.aload_n 0, 1) := by decide +kernel
theorem de_M_rewrite_1 : decode by_M_rewrite 1 = .ok (.aload_n 0, 1) := by decide +kernel
theorem de_M_rewrite_2 : decode by_M_rewrite 2 = .ok (.getfield 22, 3) := by decide +kernel
theorem de_M_rewrite_5 : decode by_M_rewrite 5 = .ok (.iconst 0, 1) := by decide +kernel
theorem de_M_rewrite_6 : decode by_M_rewrite 6 = .ok (.iaload, 1) := by decide +kernel
theorem de_M_rewrite_7 : decode by_M_rewrite 7 = .ok (.ifCond .ne 7, 3) := by decide +kernel
theorem de_M_rewrite_10 : decode by_M_rewrite 10 = .ok (.iconst 1, 1) := by decide +kernel
theorem de_M_rewrite_11 : decode by_M_rewrite 11 = .ok (.goto 4, 3) := by decide +kernel
theorem de_M_rewrite_14 : decode by_M_rewrite 14 = .ok (.iconst 0, 1) := by decide +kernel
theorem de_M_rewrite_15 : decode by_M_rewrite 15 = .ok (.invokevirtual 75, 3) := by decide +kernel
theorem de_M_rewrite_18 : decode by_M_rewrite 18 = .ok (.ifCond .eq 5, 3) := by decide +kernel
theorem de_M_rewrite_21 : decode by_M_rewrite 21 = .ok (.iconst 0, 1) := by decide +kernel
theorem de_M_rewrite_22 : decode by_M_rewrite 22 = .ok (.ireturn, 1) := by decide +kernel
theorem de_M_rewrite_23 : decode by_M_rewrite 23 = .ok (.aload_n 0, 1) := by decide +kernel
theorem de_M_rewrite_24 : decode by_M_rewrite 24 = .ok (.invokevirtual 109, 3) := by decide +kernel
theorem de_M_rewrite_27 : decode by_M_rewrite 27 = .ok (.aload_n 0, 1) := by decide +kernel
theorem de_M_rewrite_28 : decode by_M_rewrite 28 = .ok (.invokevirtual 122, 3) := by decide +kernel
theorem de_M_rewrite_31 : decode by_M_rewrite 31 = .ok (.aload_n 0, 1) := by decide +kernel
theorem de_M_rewrite_32 : decode by_M_rewrite 32 = .ok (.invokevirtual 125, 3) := by decide +kernel
theorem de_M_rewrite_35 : decode by_M_rewrite 35 = .ok (.aload_n 0, 1) := by decide +kernel
theorem de_M_rewrite_36 : decode by_M_rewrite 36 = .ok (.invokevirtual 128, 3) := by decide +kernel
theorem de_M_rewrite_39 : decode by_M_rewrite 39 = .ok (.aload_n 0, 1) := by decide +kernel
theorem de_M_rewrite_40 : decode by_M_rewrite 40 = .ok (.invokevirtual 131, 3) := by decide +kernel
theorem de_M_rewrite_43 : decode by_M_rewrite 43 = .ok (.aload_n 0, 1) := by decide +kernel
theorem de_M_rewrite_44 : decode by_M_rewrite 44 = .ok (.iconst 1, 1) := by decide +kernel
theorem de_M_rewrite_45 : decode by_M_rewrite 45 = .ok (.putfield 67, 3) := by decide +kernel
theorem de_M_rewrite_48 : decode by_M_rewrite 48 = .ok (.aload_n 0, 1) := by decide +kernel
theorem de_M_rewrite_49 : decode by_M_rewrite 49 = .ok (.getfield 47, 3) := by decide +kernel
theorem de_M_rewrite_52 : decode by_M_rewrite 52 = .ok (.iconst 1, 1) := by decide +kernel
theorem de_M_rewrite_53 : decode by_M_rewrite 53 = .ok (.iconst 0, 1) := by decide +kernel
theorem de_M_rewrite_54 : decode by_M_rewrite 54 = .ok (.bastore, 1) := by decide +kernel
theorem de_M_rewrite_55 : decode by_M_rewrite 55 = .ok (.aload_n 0, 1) := by decide +kernel
theorem de_M_rewrite_56 : decode by_M_rewrite 56 = .ok (.getfield 22, 3) := by decide +kernel
theorem de_M_rewrite_59 : decode by_M_rewrite 59 = .ok (.iconst 1, 1) := by decide +kernel
theorem de_M_rewrite_60 : decode by_M_rewrite 60 = .ok (.iaload, 1) := by decide +kernel
theorem de_M_rewrite_61 : decode by_M_rewrite 61 = .ok (.ireturn, 1) := by decide +kernel
theorem de_M_code_0 : decode by_M_code 0 = .ok (.iload_n 1, 1) := by decide +kernel
theorem de_M_code_1 : decode by_M_code 1 = .ok (.ifCond .eq 8, 3) := by decide +kernel
theorem de_M_code_4 : decode by_M_code 4 = .ok (.iload_n 1, 1) := by decide +kernel
theorem de_M_code_5 : decode by_M_code 5 = .ok (.iconst 1, 1) := by decide +kernel
theorem de_M_code_6 : decode by_M_code 6 = .ok (.if_icmp .ne 39, 3) := by decide +kernel
theorem de_M_code_9 : decode by_M_code 9 = .ok (.iload_n 2, 1) := by decide +kernel
theorem de_M_code_10 : decode by_M_code 10 = .ok (.ifCond .lt 35, 3) := by decide +kernel
theorem de_M_code_13 : decode by_M_code 13 = .ok (.iload_n 3, 1) := by decide +kernel
theorem de_M_code_14 : decode by_M_code 14 = .ok (.ifCond .lt 31, 3) := by decide +kernel
theorem de_M_code_17 : decode by_M_code 17 = .ok (.iload_n 3, 1) := by decide +kernel
theorem de_M_code_18 : decode by_M_code 18 = .ok (.iconst 3, 1) := by decide +kernel
theorem de_M_code_19 : decode by_M_code 19 = .ok (.if_icmp .gt 26, 3) := by decide +kernel
theorem de_M_code_22 : decode by_M_code 22 = .ok (.iload_n 2, 1) := by decide +kernel
theorem de_M_code_23 : decode by_M_code 23 = .ok (.aload_n 0, 1) := by decide +kernel
theorem de_M_code_24 : decode by_M_code 24 = .ok (.getfield 22, 3) := by decide +kernel
theorem de_M_code_27 : decode by_M_code 27 = .ok (.iload_n 1, 1) := by decide +kernel
theorem de_M_code_28 : decode by_M_code 28 = .ok (.iconst 1, 1) := by decide +kernel
theorem de_M_code_29 : decode by_M_code 29 = .ok (.if_icmp .ne 7, 3) := by decide +kernel
theorem de_M_code_32 : decode by_M_code 32 = .ok (.iconst 1, 1) := by decide +kernel
theorem de_M_code_33 : decode by_M_code 33 = .ok (.goto 4, 3) := by decide +kernel
theorem de_M_code_36 : decode by_M_code 36 = .ok (.iconst 0, 1) := by decide +kernel
theorem de_M_code_37 : decode by_M_code 37 = .ok (.iaload, 1) := by decide +kernel
theorem de_M_code_38 : decode by_M_code 38 = .ok (.if_icmp .ge 7, 3) := by decide +kernel
theorem de_M_code_41 : decode by_M_code 41 = .ok (.iconst 1, 1) := by decide +kernel
theorem de_M_code_42 : decode by_M_code 42 = .ok (.goto 4, 3) := by decide +kernel
theorem de_M_code_45 : decode by_M_code 45 = .ok (.iconst 0, 1) := by decide +kernel
theorem de_M_code_46 : decode by_M_code 46 = .ok (.istore 4, 2) := by decide +kernel
theorem de_M_code_48 : decode by_M_code 48 = .ok (.aload_n 0, 1) := by decide +kernel
theorem de_M_code_49 : decode by_M_code 49 = .ok (.iload_n 1, 1) := by decide +kernel
theorem de_M_code_50 : decode by_M_code 50 = .ok (.iconst 1, 1) := by decide +kernel
theorem de_M_code_51 : decode by_M_code 51 = .ok (.if_icmp .ne 14, 3) := by decide +kernel
theorem de_M_code_54 : decode by_M_code 54 = .ok (.aload_n 0, 1) := by decide +kernel
theorem de_M_code_55 : decode by_M_code 55 = .ok (.getfield 67, 3) := by decide +kernel
theorem de_M_code_58 : decode by_M_code 58 = .ok (.ifCond .ne 7, 3) := by decide +kernel
theorem de_M_code_61 : decode by_M_code 61 = .ok (.iconst 1, 1) := by decide +kernel
theorem de_M_code_62 : decode by_M_code 62 = .ok (.goto 13, 3) := by decide +kernel
theorem de_M_code_65 : decode by_M_code 65 = .ok (.iload 4, 2) := by decide +kernel
theorem de_M_code_67 : decode by_M_code 67 = .ok (.ifCond .ne 7, 3) := by decide +kernel
theorem de_M_code_70 : decode by_M_code 70 = .ok (.iconst 2, 1) := by decide +kernel
theorem de_M_code_71 : decode by_M_code 71 = .ok (.goto 4, 3) := by decide +kernel
theorem de_M_code_74 : decode by_M_code 74 = .ok (.iconst 0, 1) := by decide +kernel
theorem de_M_code_75 : decode by_M_code 75 = .ok (.invokevirtual 75, 3) := by decide +kernel
theorem de_M_code_78 : decode by_M_code 78 = .ok (.ifCond .eq 5, 3) := by decide +kernel
theorem de_M_code_81 : decode by_M_code 81 = .ok (.iconst 0, 1) := by decide +kernel
theorem de_M_code_82 : decode by_M_code 82 = .ok (.ireturn, 1) := by decide +kernel
theorem de_M_code_83 : decode by_M_code 83 = .ok (.bipush 40, 2) := by decide +kernel
theorem de_M_code_85 : decode by_M_code 85 = .ok (.iload_n 1, 1) := by decide +kernel
theorem de_M_code_86 : decode by_M_code 86 = .ok (.imul, 1) := by decide +kernel
theorem de_M_code_87 : decode by_M_code 87 = .ok (.iload_n 2, 1) := by decide +kernel
theorem de_M_code_88 : decode by_M_code 88 = .ok (.iadd, 1) := by decide +kernel
theorem de_M_code_89 : decode by_M_code 89 = .ok (.istore 5, 2) := by decide +kernel
theorem de_M_code_91 : decode by_M_code 91 = .ok (.iload_n 3, 1) := by decide +kernel
theorem de_M_code_92 : decode by_M_code 92 = .ok (.ifCond .ne 13, 3) := by decide +kernel
theorem de_M_code_95 : decode by_M_code 95 = .ok (.aload_n 0, 1) := by decide +kernel
theorem de_M_code_96 : decode by_M_code 96 = .ok (.getfield 7, 3) := by decide +kernel
theorem de_M_code_99 : decode by_M_code 99 = .ok (.iload 5, 2) := by decide +kernel
theorem de_M_code_101 : decode by_M_code 101 = .ok (.iaload, 1) := by decide +kernel
theorem de_M_code_102 : decode by_M_code 102 = .ok (.goto 40, 3) := by decide +kernel
theorem de_M_code_105 : decode by_M_code 105 = .ok (.iload_n 3, 1) := by decide +kernel
theorem de_M_code_106 : decode by_M_code 106 = .ok (.iconst 1, 1) := by decide +kernel
theorem de_M_code_107 : decode by_M_code 107 = .ok (.if_icmp .ne 13, 3) := by decide +kernel
theorem de_M_code_110 : decode by_M_code 110 = .ok (.aload_n 0, 1) := by decide +kernel
theorem de_M_code_111 : decode by_M_code 111 = .ok (.getfield 13, 3) := by decide +kernel
theorem de_M_code_114 : decode by_M_code 114 = .ok (.iload 5, 2) := by decide +kernel
theorem de_M_code_116 : decode by_M_code 116 = .ok (.iaload, 1) := by decide +kernel
theorem de_M_code_117 : decode by_M_code 117 = .ok (.goto 25, 3) := by decide +kernel
theorem de_M_code_120 : decode by_M_code 120 = .ok (.iload_n 3, 1) := by decide +kernel
theorem de_M_code_121 : decode by_M_code 121 = .ok (.iconst 2, 1) := by decide +kernel
theorem de_M_code_122 : decode by_M_code 122 = .ok (.if_icmp .ne 13, 3) := by decide +kernel
theorem de_M_code_125 : decode by_M_code 125 = .ok (.aload_n 0, 1) := by decide +kernel
theorem de_M_code_126 : decode by_M_code 126 = .ok (.getfield 16, 3) := by decide +kernel
theorem de_M_code_129 : decode by_M_code 129 = .ok (.iload 5, 2) := by decide +kernel
theorem de_M_code_131 : decode by_M_code 131 = .ok (.iaload, 1) := by decide +kernel
theorem de_M_code_132 : decode by_M_code 132 = .ok (.goto 10, 3) := by decide +kernel
theorem de_M_code_135 : decode by_M_code 135 = .ok (.aload_n 0, 1) := by decide +kernel
theorem de_M_code_136 : decode by_M_code 136 = .ok (.getfield 19, 3) := by decide +kernel
theorem de_M_code_139 : decode by_M_code 139 = .ok (.iload 5, 2) := by decide +kernel
theorem de_M_code_141 : decode by_M_code 141 = .ok (.iaload, 1) := by decide +kernel
theorem de_M_code_142 : decode by_M_code 142 = .ok (.ireturn, 1) := by decide +kernel
theorem de_M_isSide_0 : decode by_M_isSide 0 = .ok (.iload_n 0, 1) := by decide +kernel
theorem de_M_isSide_1 : decode by_M_isSide 1 = .ok (.ifCond .eq 8, 3) := by decide +kernel
theorem de_M_isSide_4 : decode by_M_isSide 4 = .ok (.iload_n 0, 1) := by decide +kernel
theorem de_M_isSide_5 : decode by_M_isSide 5 = .ok (.iconst 1, 1) := by decide +kernel
theorem de_M_isSide_6 : decode by_M_isSide 6 = .ok (.if_icmp .ne 7, 3) := by decide +kernel
theorem de_M_isSide_9 : decode by_M_isSide 9 = .ok (.iconst 1, 1) := by decide +kernel
theorem de_M_isSide_10 : decode by_M_isSide 10 = .ok (.goto 4, 3) := by decide +kernel
theorem de_M_isSide_13 : decode by_M_isSide 13 = .ok (.iconst 0, 1) := by decide +kernel
theorem de_M_isSide_14 : decode by_M_isSide 14 = .ok (.ireturn, 1) := by decide +kernel
theorem de_M_start_0 : decode by_M_start 0 = .ok (.aload_n 0, 1) := by decide +kernel
theorem de_M_start_1 : decode by_M_start 1 = .ok (.iload_n 1, 1) := by decide +kernel
theorem de_M_start_2 : decode by_M_start 2 = .ok (.invokestatic 134, 3) := by decide +kernel
theorem de_M_start_5 : decode by_M_start 5 = .ok (.ifCond .ne 7, 3) := by decide +kernel
theorem de_M_start_8 : decode by_M_start 8 = .ok (.iconst 1, 1) := by decide +kernel
theorem de_M_start_9 : decode by_M_start 9 = .ok (.goto 20, 3) := by decide +kernel
theorem de_M_start_12 : decode by_M_start 12 = .ok (.iload_n 1, 1) := by decide +kernel
theorem de_M_start_13 : decode by_M_start 13 = .ok (.iconst 1, 1) := by decide +kernel
theorem de_M_start_14 : decode by_M_start 14 = .ok (.if_icmp .ne 14, 3) := by decide +kernel
theorem de_M_start_17 : decode by_M_start 17 = .ok (.aload_n 0, 1) := by decide +kernel
theorem de_M_start_18 : decode by_M_start 18 = .ok (.getfield 67, 3) := by decide +kernel
theorem de_M_start_21 : decode by_M_start 21 = .ok (.ifCond .ne 7, 3) := by decide +kernel
theorem de_M_start_24 : decode by_M_start 24 = .ok (.iconst 2, 1) := by decide +kernel
theorem de_M_start_25 : decode by_M_start 25 = .ok (.goto 4, 3) := by decide +kernel
theorem de_M_start_28 : decode by_M_start 28 = .ok (.iconst 0, 1) := by decide +kernel
theorem de_M_start_29 : decode by_M_start 29 = .ok (.invokevirtual 75, 3) := by decide +kernel
theorem de_M_start_32 : decode by_M_start 32 = .ok (.ifCond .eq 4, 3) := by decide +kernel
theorem de_M_start_35 : decode by_M_start 35 = .ok (.return_, 1) := by decide +kernel
theorem de_M_start_36 : decode by_M_start 36 = .ok (.aload_n 0, 1) := by decide +kernel
theorem de_M_start_37 : decode by_M_start 37 = .ok (.getfield 47, 3) := by decide +kernel
theorem de_M_start_40 : decode by_M_start 40 = .ok (.iload_n 1, 1) := by decide +kernel
theorem de_M_start_41 : decode by_M_start 41 = .ok (.iconst 1, 1) := by decide +kernel
theorem de_M_start_42 : decode by_M_start 42 = .ok (.bastore, 1) := by decide +kernel
theorem de_M_start_43 : decode by_M_start 43 = .ok (.aload_n 0, 1) := by decide +kernel
theorem de_M_start_44 : decode by_M_start 44 = .ok (.getfield 50, 3) := by decide +kernel
theorem de_M_start_47 : decode by_M_start 47 = .ok (.iload_n 1, 1) := by decide +kernel
theorem de_M_start_48 : decode by_M_start 48 = .ok (.aload_n 0, 1) := by decide +kernel
theorem de_M_start_49 : decode by_M_start 49 = .ok (.getfield 22, 3) := by decide +kernel
theorem de_M_start_52 : decode by_M_start 52 = .ok (.iload_n 1, 1) := by decide +kernel
theorem de_M_start_53 : decode by_M_start 53 = .ok (.iaload, 1) := by decide +kernel
theorem de_M_start_54 : decode by_M_start 54 = .ok (.ifCond .ne 7, 3) := by decide +kernel
theorem de_M_start_57 : decode by_M_start 57 = .ok (.iconst (-1), 1) := by decide +kernel
theorem de_M_start_58 : decode by_M_start 58 = .ok (.goto 4, 3) := by decide +kernel
theorem de_M_start_61 : decode by_M_start 61 = .ok (.iconst 0, 1) := by decide +kernel
theorem de_M_start_62 : decode by_M_start 62 = .ok (.iastore, 1) := by decide +kernel
theorem de_M_start_63 : decode by_M_start 63 = .ok (.aload_n 0, 1) := by decide +kernel
theorem de_M_start_64 : decode by_M_start 64 = .ok (.getfield 53, 3) := by decide +kernel
theorem de_M_start_67 : decode by_M_start 67 = .ok (.iload_n 1, 1) := by decide +kernel
theorem de_M_start_68 : decode by_M_start 68 = .ok (.iconst 0, 1) := by decide +kernel
theorem de_M_start_69 : decode by_M_start 69 = .ok (.iastore, 1) := by decide +kernel
theorem de_M_start_70 : decode by_M_start 70 = .ok (.aload_n 0, 1) := by decide +kernel
theorem de_M_start_71 : decode by_M_start 71 = .ok (.getfield 56, 3) := by decide +kernel
theorem de_M_start_74 : decode by_M_start 74 = .ok (.bipush 6, 2) := by decide +kernel
theorem de_M_start_76 : decode by_M_start 76 = .ok (.iload_n 1, 1) := by decide +kernel
theorem de_M_start_77 : decode by_M_start 77 = .ok (.imul, 1) := by decide +kernel
theorem de_M_start_78 : decode by_M_start 78 = .ok (.iload_n 2, 1) := by decide +kernel
theorem de_M_start_79 : decode by_M_start 79 = .ok (.iastore, 1) := by decide +kernel
theorem de_M_start_80 : decode by_M_start 80 = .ok (.aload_n 0, 1) := by decide +kernel
theorem de_M_start_81 : decode by_M_start 81 = .ok (.getfield 56, 3) := by decide +kernel
theorem de_M_start_84 : decode by_M_start 84 = .ok (.bipush 6, 2) := by decide +kernel
theorem de_M_start_86 : decode by_M_start 86 = .ok (.iload_n 1, 1) := by decide +kernel
theorem de_M_start_87 : decode by_M_start 87 = .ok (.imul, 1) := by decide +kernel
theorem de_M_start_88 : decode by_M_start 88 = .ok (.iconst 1, 1) := by decide +kernel
theorem de_M_start_89 : decode by_M_start 89 = .ok (.iadd, 1) := by decide +kernel
theorem de_M_start_90 : decode by_M_start 90 = .ok (.iload_n 3, 1) := by decide +kernel
theorem de_M_start_91 : decode by_M_start 91 = .ok (.iastore, 1) := by decide +kernel
theorem de_M_start_92 : decode by_M_start 92 = .ok (.aload_n 0, 1) := by decide +kernel
theorem de_M_start_93 : decode by_M_start 93 = .ok (.getfield 56, 3) := by decide +kernel
theorem de_M_start_96 : decode by_M_start 96 = .ok (.bipush 6, 2) := by decide +kernel
theorem de_M_start_98 : decode by_M_start 98 = .ok (.iload_n 1, 1) := by decide +kernel
theorem de_M_start_99 : decode by_M_start 99 = .ok (.imul, 1) := by decide +kernel
theorem de_M_start_100 : decode by_M_start 100 = .ok (.iconst 2, 1) := by decide +kernel
theorem de_M_start_101 : decode by_M_start 101 = .ok (.iadd, 1) := by decide +kernel
theorem de_M_start_102 : decode by_M_start 102 = .ok (.iload 4, 2) := by decide +kernel
theorem de_M_start_104 : decode by_M_start 104 = .ok (.iastore, 1) := by decide +kernel
theorem de_M_start_105 : decode by_M_start 105 = .ok (.aload_n 0, 1) := by decide +kernel
theorem de_M_start_106 : decode by_M_start 106 = .ok (.getfield 56, 3) := by decide +kernel
theorem de_M_start_109 : decode by_M_start 109 = .ok (.bipush 6, 2) := by decide +kernel
theorem de_M_start_111 : decode by_M_start 111 = .ok (.iload_n 1, 1) := by decide +kernel
theorem de_M_start_112 : decode by_M_start 112 = .ok (.imul, 1) := by decide +kernel
theorem de_M_start_113 : decode by_M_start 113 = .ok (.iconst 3, 1) := by decide +kernel
theorem de_M_start_114 : decode by_M_start 114 = .ok (.iadd, 1) := by decide +kernel
theorem de_M_start_115 : decode by_M_start 115 = .ok (.iload 5, 2) := by decide +kernel
theorem de_M_start_117 : decode by_M_start 117 = .ok (.iastore, 1) := by decide +kernel
theorem de_M_start_118 : decode by_M_start 118 = .ok (.aload_n 0, 1) := by decide +kernel
theorem de_M_start_119 : decode by_M_start 119 = .ok (.getfield 56, 3) := by decide +kernel
theorem de_M_start_122 : decode by_M_start 122 = .ok (.bipush 6, 2) := by decide +kernel
theorem de_M_start_124 : decode by_M_start 124 = .ok (.iload_n 1, 1) := by decide +kernel
theorem de_M_start_125 : decode by_M_start 125 = .ok (.imul, 1) := by decide +kernel
theorem de_M_start_126 : decode by_M_start 126 = .ok (.iconst 4, 1) := by decide +kernel
theorem de_M_start_127 : decode by_M_start 127 = .ok (.iadd, 1) := by decide +kernel
theorem de_M_start_128 : decode by_M_start 128 = .ok (.iconst 0, 1) := by decide +kernel
theorem de_M_start_129 : decode by_M_start 129 = .ok (.iastore, 1) := by decide +kernel
theorem de_M_start_130 : decode by_M_start 130 = .ok (.aload_n 0, 1) := by decide +kernel
theorem de_M_start_131 : decode by_M_start 131 = .ok (.getfield 56, 3) := by decide +kernel
theorem de_M_start_134 : decode by_M_start 134 = .ok (.bipush 6, 2) := by decide +kernel
theorem de_M_start_136 : decode by_M_start 136 = .ok (.iload_n 1, 1) := by decide +kernel
theorem de_M_start_137 : decode by_M_start 137 = .ok (.imul, 1) := by decide +kernel
theorem de_M_start_138 : decode by_M_start 138 = .ok (.iconst 5, 1) := by decide +kernel
theorem de_M_start_139 : decode by_M_start 139 = .ok (.iadd, 1) := by decide +kernel
theorem de_M_start_140 : decode by_M_start 140 = .ok (.iconst 0, 1) := by decide +kernel
theorem de_M_start_141 : decode by_M_start 141 = .ok (.iastore, 1) := by decide +kernel
theorem de_M_start_142 : decode by_M_start 142 = .ok (.return_, 1) := by decide +kernel
theorem de_M_step_0 : decode by_M_step 0 = .ok (.bipush 40, 2) := by decide +kernel
theorem de_M_step_2 : decode by_M_step 2 = .ok (.iload_n 1, 1) := by decide +kernel
theorem de_M_step_3 : decode by_M_step 3 = .ok (.imul, 1) := by decide +kernel
theorem de_M_step_4 : decode by_M_step 4 = .ok (.aload_n 0, 1) := by decide +kernel
theorem de_M_step_5 : decode by_M_step 5 = .ok (.getfield 50, 3) := by decide +kernel
theorem de_M_step_8 : decode by_M_step 8 = .ok (.iload_n 1, 1) := by decide +kernel
theorem de_M_step_9 : decode by_M_step 9 = .ok (.iaload, 1) := by decide +kernel
theorem de_M_step_10 : decode by_M_step 10 = .ok (.iadd, 1) := by decide +kernel
theorem de_M_step_11 : decode by_M_step 11 = .ok (.istore_n 2, 1) := by decide +kernel
theorem de_M_step_12 : decode by_M_step 12 = .ok (.bipush 6, 2) := by decide +kernel
theorem de_M_step_14 : decode by_M_step 14 = .ok (.iload_n 1, 1) := by decide +kernel
theorem de_M_step_15 : decode by_M_step 15 = .ok (.imul, 1) := by decide +kernel
theorem de_M_step_16 : decode by_M_step 16 = .ok (.aload_n 0, 1) := by decide +kernel
theorem de_M_step_17 : decode by_M_step 17 = .ok (.getfield 13, 3) := by decide +kernel
theorem de_M_step_20 : decode by_M_step 20 = .ok (.iload_n 2, 1) := by decide +kernel
theorem de_M_step_21 : decode by_M_step 21 = .ok (.iaload, 1) := by decide +kernel
theorem de_M_step_22 : decode by_M_step 22 = .ok (.iadd, 1) := by decide +kernel
theorem de_M_step_23 : decode by_M_step 23 = .ok (.istore_n 3, 1) := by decide +kernel
theorem de_M_step_24 : decode by_M_step 24 = .ok (.aload_n 0, 1) := by decide +kernel
theorem de_M_step_25 : decode by_M_step 25 = .ok (.getfield 50, 3) := by decide +kernel
theorem de_M_step_28 : decode by_M_step 28 = .ok (.iload_n 1, 1) := by decide +kernel
theorem de_M_step_29 : decode by_M_step 29 = .ok (.iaload, 1) := by decide +kernel
theorem de_M_step_30 : decode by_M_step 30 = .ok (.iconst 1, 1) := by decide +kernel
theorem de_M_step_31 : decode by_M_step 31 = .ok (.iadd, 1) := by decide +kernel
theorem de_M_step_32 : decode by_M_step 32 = .ok (.istore 4, 2) := by decide +kernel
theorem de_M_step_34 : decode by_M_step 34 = .ok (.aload_n 0, 1) := by decide +kernel
theorem de_M_step_35 : decode by_M_step 35 = .ok (.getfield 7, 3) := by decide +kernel
theorem de_M_step_38 : decode by_M_step 38 = .ok (.iload_n 2, 1) := by decide +kernel
theorem de_M_step_39 : decode by_M_step 39 = .ok (.iaload, 1) := by decide +kernel
theorem de_M_step_40 : decode by_M_step 40 = .ok (.tableswitch 131 0 7 #[48, 63, 131, 131, 131, 88, 113, 124], 48) := by decide +kernel
theorem de_M_step_88 : decode by_M_step 88 = .ok (.aload_n 0, 1) := by decide +kernel
theorem de_M_step_89 : decode by_M_step 89 = .ok (.getfield 56, 3) := by decide +kernel
theorem de_M_step_92 : decode by_M_step 92 = .ok (.iload_n 3, 1) := by decide +kernel
theorem de_M_step_93 : decode by_M_step 93 = .ok (.aload_n 0, 1) := by decide +kernel
theorem de_M_step_94 : decode by_M_step 94 = .ok (.getfield 16, 3) := by decide +kernel
theorem de_M_step_97 : decode by_M_step 97 = .ok (.iload_n 2, 1) := by decide +kernel
theorem de_M_step_98 : decode by_M_step 98 = .ok (.iaload, 1) := by decide +kernel
theorem de_M_step_99 : decode by_M_step 99 = .ok (.iastore, 1) := by decide +kernel
theorem de_M_step_100 : decode by_M_step 100 = .ok (.goto 118, 3) := by decide +kernel
theorem de_M_step_103 : decode by_M_step 103 = .ok (.aload_n 0, 1) := by decide +kernel
theorem de_M_step_104 : decode by_M_step 104 = .ok (.getfield 56, 3) := by decide +kernel
theorem de_M_step_107 : decode by_M_step 107 = .ok (.iload_n 3, 1) := by decide +kernel
theorem de_M_step_108 : decode by_M_step 108 = .ok (.aload_n 0, 1) := by decide +kernel
theorem de_M_step_109 : decode by_M_step 109 = .ok (.getfield 56, 3) := by decide +kernel
theorem de_M_step_112 : decode by_M_step 112 = .ok (.bipush 6, 2) := by decide +kernel
theorem de_M_step_114 : decode by_M_step 114 = .ok (.iload_n 1, 1) := by decide +kernel
theorem de_M_step_115 : decode by_M_step 115 = .ok (.imul, 1) := by decide +kernel
theorem de_M_step_116 : decode by_M_step 116 = .ok (.aload_n 0, 1) := by decide +kernel
theorem de_M_step_117 : decode by_M_step 117 = .ok (.getfield 16, 3) := by decide +kernel
theorem de_M_step_120 : decode by_M_step 120 = .ok (.iload_n 2, 1) := by decide +kernel
theorem de_M_step_121 : decode by_M_step 121 = .ok (.iaload, 1) := by decide +kernel
theorem de_M_step_122 : decode by_M_step 122 = .ok (.iadd, 1) := by decide +kernel
theorem de_M_step_123 : decode by_M_step 123 = .ok (.iaload, 1) := by decide +kernel
theorem de_M_step_124 : decode by_M_step 124 = .ok (.iastore, 1) := by decide +kernel
theorem de_M_step_125 : decode by_M_step 125 = .ok (.goto 93, 3) := by decide +kernel
theorem de_M_step_128 : decode by_M_step 128 = .ok (.aload_n 0, 1) := by decide +kernel
theorem de_M_step_129 : decode by_M_step 129 = .ok (.getfield 56, 3) := by decide +kernel
theorem de_M_step_132 : decode by_M_step 132 = .ok (.iload_n 3, 1) := by decide +kernel
theorem de_M_step_133 : decode by_M_step 133 = .ok (.iaload, 1) := by decide +kernel
theorem de_M_step_134 : decode by_M_step 134 = .ok (.ifCond .ne 12, 3) := by decide +kernel
theorem de_M_step_137 : decode by_M_step 137 = .ok (.aload_n 0, 1) := by decide +kernel
theorem de_M_step_138 : decode by_M_step 138 = .ok (.getfield 16, 3) := by decide +kernel
theorem de_M_step_141 : decode by_M_step 141 = .ok (.iload_n 2, 1) := by decide +kernel
theorem de_M_step_142 : decode by_M_step 142 = .ok (.iaload, 1) := by decide +kernel
theorem de_M_step_143 : decode by_M_step 143 = .ok (.goto 5, 3) := by decide +kernel
theorem de_M_step_146 : decode by_M_step 146 = .ok (.iload 4, 2) := by decide +kernel
theorem de_M_step_148 : decode by_M_step 148 = .ok (.istore 4, 2) := by decide +kernel
theorem de_M_step_150 : decode by_M_step 150 = .ok (.goto 68, 3) := by decide +kernel
theorem de_M_step_153 : decode by_M_step 153 = .ok (.aload_n 0, 1) := by decide +kernel
theorem de_M_step_154 : decode by_M_step 154 = .ok (.getfield 16, 3) := by decide +kernel
theorem de_M_step_157 : decode by_M_step 157 = .ok (.iload_n 2, 1) := by decide +kernel
theorem de_M_step_158 : decode by_M_step 158 = .ok (.iaload, 1) := by decide +kernel
theorem de_M_step_159 : decode by_M_step 159 = .ok (.istore 4, 2) := by decide +kernel
theorem de_M_step_161 : decode by_M_step 161 = .ok (.goto 57, 3) := by decide +kernel
theorem de_M_step_164 : decode by_M_step 164 = .ok (.bipush 99, 2) := by decide +kernel
theorem de_M_step_166 : decode by_M_step 166 = .ok (.istore 4, 2) := by decide +kernel
theorem de_M_step_168 : decode by_M_step 168 = .ok (.goto 50, 3) := by decide +kernel
theorem de_M_step_171 : decode by_M_step 171 = .ok (.aload_n 0, 1) := by decide +kernel
theorem de_M_step_172 : decode by_M_step 172 = .ok (.getfield 56, 3) := by decide +kernel
theorem de_M_step_175 : decode by_M_step 175 = .ok (.iload_n 3, 1) := by decide +kernel
theorem de_M_step_176 : decode by_M_step 176 = .ok (.aload_n 0, 1) := by decide +kernel
theorem de_M_step_177 : decode by_M_step 177 = .ok (.getfield 7, 3) := by decide +kernel
theorem de_M_step_180 : decode by_M_step 180 = .ok (.iload_n 2, 1) := by decide +kernel
theorem de_M_step_181 : decode by_M_step 181 = .ok (.iaload, 1) := by decide +kernel
theorem de_M_step_182 : decode by_M_step 182 = .ok (.aload_n 0, 1) := by decide +kernel
theorem de_M_step_183 : decode by_M_step 183 = .ok (.getfield 56, 3) := by decide +kernel
theorem de_M_step_186 : decode by_M_step 186 = .ok (.bipush 6, 2) := by decide +kernel
theorem de_M_step_188 : decode by_M_step 188 = .ok (.iload_n 1, 1) := by decide +kernel
theorem de_M_step_189 : decode by_M_step 189 = .ok (.imul, 1) := by decide +kernel
theorem de_M_step_190 : decode by_M_step 190 = .ok (.aload_n 0, 1) := by decide +kernel
theorem de_M_step_191 : decode by_M_step 191 = .ok (.getfield 16, 3) := by decide +kernel
theorem de_M_step_194 : decode by_M_step 194 = .ok (.iload_n 2, 1) := by decide +kernel
theorem de_M_step_195 : decode by_M_step 195 = .ok (.iaload, 1) := by decide +kernel
theorem de_M_step_196 : decode by_M_step 196 = .ok (.iadd, 1) := by decide +kernel
theorem de_M_step_197 : decode by_M_step 197 = .ok (.iaload, 1) := by decide +kernel
theorem de_M_step_198 : decode by_M_step 198 = .ok (.aload_n 0, 1) := by decide +kernel
theorem de_M_step_199 : decode by_M_step 199 = .ok (.getfield 56, 3) := by decide +kernel
theorem de_M_step_202 : decode by_M_step 202 = .ok (.bipush 6, 2) := by decide +kernel
theorem de_M_step_204 : decode by_M_step 204 = .ok (.iload_n 1, 1) := by decide +kernel
theorem de_M_step_205 : decode by_M_step 205 = .ok (.imul, 1) := by decide +kernel
theorem de_M_step_206 : decode by_M_step 206 = .ok (.aload_n 0, 1) := by decide +kernel
theorem de_M_step_207 : decode by_M_step 207 = .ok (.getfield 19, 3) := by decide +kernel
theorem de_M_step_210 : decode by_M_step 210 = .ok (.iload_n 2, 1) := by decide +kernel
theorem de_M_step_211 : decode by_M_step 211 = .ok (.iaload, 1) := by decide +kernel
theorem de_M_step_212 : decode by_M_step 212 = .ok (.iadd, 1) := by decide +kernel
theorem de_M_step_213 : decode by_M_step 213 = .ok (.iaload, 1) := by decide +kernel
theorem de_M_step_214 : decode by_M_step 214 = .ok (.invokestatic 92, 3) := by decide +kernel
theorem de_M_step_217 : decode by_M_step 217 = .ok (.iastore, 1) := by decide +kernel
theorem de_M_step_218 : decode by_M_step 218 = .ok (.aload_n 0, 1) := by decide +kernel
theorem de_M_step_219 : decode by_M_step 219 = .ok (.getfield 50, 3) := by decide +kernel
theorem de_M_step_222 : decode by_M_step 222 = .ok (.iload_n 1, 1) := by decide +kernel
theorem de_M_step_223 : decode by_M_step 223 = .ok (.iload 4, 2) := by decide +kernel
theorem de_M_step_225 : decode by_M_step 225 = .ok (.aload_n 0, 1) := by decide +kernel
theorem de_M_step_226 : decode by_M_step 226 = .ok (.getfield 22, 3) := by decide +kernel
theorem de_M_step_229 : decode by_M_step 229 = .ok (.iload_n 1, 1) := by decide +kernel
theorem de_M_step_230 : decode by_M_step 230 = .ok (.iaload, 1) := by decide +kernel
theorem de_M_step_231 : decode by_M_step 231 = .ok (.if_icmp .ge 8, 3) := by decide +kernel
theorem de_M_step_234 : decode by_M_step 234 = .ok (.iload 4, 2) := by decide +kernel
theorem de_M_step_236 : decode by_M_step 236 = .ok (.goto 4, 3) := by decide +kernel
theorem de_M_step_239 : decode by_M_step 239 = .ok (.iconst (-1), 1) := by decide +kernel
theorem de_M_step_240 : decode by_M_step 240 = .ok (.iastore, 1) := by decide +kernel
theorem de_M_step_241 : decode by_M_step 241 = .ok (.aload_n 0, 1) := by decide +kernel
theorem de_M_step_242 : decode by_M_step 242 = .ok (.getfield 53, 3) := by decide +kernel
theorem de_M_step_245 : decode by_M_step 245 = .ok (.iload_n 1, 1) := by decide +kernel
theorem de_M_step_246 : decode by_M_step 246 = .ok (.dup2, 1) := by decide +kernel
theorem de_M_step_247 : decode by_M_step 247 = .ok (.iaload, 1) := by decide +kernel
theorem de_M_step_248 : decode by_M_step 248 = .ok (.iconst 1, 1) := by decide +kernel
theorem de_M_step_249 : decode by_M_step 249 = .ok (.iadd, 1) := by decide +kernel
theorem de_M_step_250 : decode by_M_step 250 = .ok (.iastore, 1) := by decide +kernel
theorem de_M_step_251 : decode by_M_step 251 = .ok (.return_, 1) := by decide +kernel
theorem de_M_run_0 : decode by_M_run 0 = .ok (.aload_n 0, 1) := by decide +kernel
theorem de_M_run_1 : decode by_M_run 1 = .ok (.iload_n 1, 1) := by decide +kernel
theorem de_M_run_2 : decode by_M_run 2 = .ok (.invokestatic 134, 3) := by decide +kernel
theorem de_M_run_5 : decode by_M_run 5 = .ok (.ifCond .ne 7, 3) := by decide +kernel
theorem de_M_run_8 : decode by_M_run 8 = .ok (.iconst 1, 1) := by decide +kernel
theorem de_M_run_9 : decode by_M_run 9 = .ok (.goto 32, 3) := by decide +kernel
theorem de_M_run_12 : decode by_M_run 12 = .ok (.iload_n 2, 1) := by decide +kernel
theorem de_M_run_13 : decode by_M_run 13 = .ok (.ifCond .lt 10, 3) := by decide +kernel
theorem de_M_run_16 : decode by_M_run 16 = .ok (.iload_n 2, 1) := by decide +kernel
theorem de_M_run_17 : decode by_M_run 17 = .ok (.sipush 10000, 3) := by decide +kernel
theorem de_M_run_20 : decode by_M_run 20 = .ok (.if_icmp .le 7, 3) := by decide +kernel
theorem de_M_run_23 : decode by_M_run 23 = .ok (.iconst 2, 1) := by decide +kernel
theorem de_M_run_24 : decode by_M_run 24 = .ok (.goto 17, 3) := by decide +kernel
theorem de_M_run_27 : decode by_M_run 27 = .ok (.aload_n 0, 1) := by decide +kernel
theorem de_M_run_28 : decode by_M_run 28 = .ok (.getfield 47, 3) := by decide +kernel
theorem de_M_run_31 : decode by_M_run 31 = .ok (.iload_n 1, 1) := by decide +kernel
theorem de_M_run_32 : decode by_M_run 32 = .ok (.baload, 1) := by decide +kernel
theorem de_M_run_33 : decode by_M_run 33 = .ok (.ifCond .ne 7, 3) := by decide +kernel
theorem de_M_run_36 : decode by_M_run 36 = .ok (.iconst 3, 1) := by decide +kernel
theorem de_M_run_37 : decode by_M_run 37 = .ok (.goto 4, 3) := by decide +kernel
theorem de_M_run_40 : decode by_M_run 40 = .ok (.iconst 0, 1) := by decide +kernel
theorem de_M_run_41 : decode by_M_run 41 = .ok (.invokevirtual 75, 3) := by decide +kernel
theorem de_M_run_44 : decode by_M_run 44 = .ok (.ifCond .eq 5, 3) := by decide +kernel
theorem de_M_run_47 : decode by_M_run 47 = .ok (.iconst 0, 1) := by decide +kernel
theorem de_M_run_48 : decode by_M_run 48 = .ok (.ireturn, 1) := by decide +kernel
theorem de_M_run_49 : decode by_M_run 49 = .ok (.iconst 0, 1) := by decide +kernel
theorem de_M_run_50 : decode by_M_run 50 = .ok (.istore_n 3, 1) := by decide +kernel
theorem de_M_run_51 : decode by_M_run 51 = .ok (.iload_n 3, 1) := by decide +kernel
theorem de_M_run_52 : decode by_M_run 52 = .ok (.iload_n 2, 1) := by decide +kernel
theorem de_M_run_53 : decode by_M_run 53 = .ok (.if_icmp .ge 23, 3) := by decide +kernel
theorem de_M_run_56 : decode by_M_run 56 = .ok (.aload_n 0, 1) := by decide +kernel
theorem de_M_run_57 : decode by_M_run 57 = .ok (.getfield 50, 3) := by decide +kernel
theorem de_M_run_60 : decode by_M_run 60 = .ok (.iload_n 1, 1) := by decide +kernel
theorem de_M_run_61 : decode by_M_run 61 = .ok (.iaload, 1) := by decide +kernel
theorem de_M_run_62 : decode by_M_run 62 = .ok (.ifCond .lt 14, 3) := by decide +kernel
theorem de_M_run_65 : decode by_M_run 65 = .ok (.aload_n 0, 1) := by decide +kernel
theorem de_M_run_66 : decode by_M_run 66 = .ok (.iload_n 1, 1) := by decide +kernel
theorem de_M_run_67 : decode by_M_run 67 = .ok (.invokevirtual 137, 3) := by decide +kernel
theorem de_M_run_70 : decode by_M_run 70 = .ok (.iinc 3 1, 3) := by decide +kernel
theorem de_M_run_73 : decode by_M_run 73 = .ok (.goto (-22), 3) := by decide +kernel
theorem de_M_run_76 : decode by_M_run 76 = .ok (.iload_n 3, 1) := by decide +kernel
theorem de_M_run_77 : decode by_M_run 77 = .ok (.ireturn, 1) := by decide +kernel
theorem de_M_isWrong_0 : decode by_M_isWrong 0 = .ok (.aload_n 0, 1) := by decide +kernel
theorem de_M_isWrong_1 : decode by_M_isWrong 1 = .ok (.iload_n 1, 1) := by decide +kernel
theorem de_M_isWrong_2 : decode by_M_isWrong 2 = .ok (.invokestatic 134, 3) := by decide +kernel
theorem de_M_isWrong_5 : decode by_M_isWrong 5 = .ok (.ifCond .eq 7, 3) := by decide +kernel
theorem de_M_isWrong_8 : decode by_M_isWrong 8 = .ok (.iload_n 2, 1) := by decide +kernel
theorem de_M_isWrong_9 : decode by_M_isWrong 9 = .ok (.ifCond .ne 7, 3) := by decide +kernel
theorem de_M_isWrong_12 : decode by_M_isWrong 12 = .ok (.iconst 1, 1) := by decide +kernel
theorem de_M_isWrong_13 : decode by_M_isWrong 13 = .ok (.goto 17, 3) := by decide +kernel
theorem de_M_isWrong_16 : decode by_M_isWrong 16 = .ok (.aload_n 0, 1) := by decide +kernel
theorem de_M_isWrong_17 : decode by_M_isWrong 17 = .ok (.getfield 47, 3) := by decide +kernel
theorem de_M_isWrong_20 : decode by_M_isWrong 20 = .ok (.iload_n 1, 1) := by decide +kernel
theorem de_M_isWrong_21 : decode by_M_isWrong 21 = .ok (.baload, 1) := by decide +kernel
theorem de_M_isWrong_22 : decode by_M_isWrong 22 = .ok (.ifCond .ne 7, 3) := by decide +kernel
theorem de_M_isWrong_25 : decode by_M_isWrong 25 = .ok (.iconst 2, 1) := by decide +kernel
theorem de_M_isWrong_26 : decode by_M_isWrong 26 = .ok (.goto 4, 3) := by decide +kernel
theorem de_M_isWrong_29 : decode by_M_isWrong 29 = .ok (.iconst 0, 1) := by decide +kernel
theorem de_M_isWrong_30 : decode by_M_isWrong 30 = .ok (.invokevirtual 75, 3) := by decide +kernel
theorem de_M_isWrong_33 : decode by_M_isWrong 33 = .ok (.ireturn, 1) := by decide +kernel
theorem de_M_place_0 : decode by_M_place 0 = .ok (.aload_n 0, 1) := by decide +kernel
theorem de_M_place_1 : decode by_M_place 1 = .ok (.iload_n 1, 1) := by decide +kernel
theorem de_M_place_2 : decode by_M_place 2 = .ok (.iconst 1, 1) := by decide +kernel
theorem de_M_place_3 : decode by_M_place 3 = .ok (.invokevirtual 140, 3) := by decide +kernel
theorem de_M_place_6 : decode by_M_place 6 = .ok (.ifCond .eq 7, 3) := by decide +kernel
theorem de_M_place_9 : decode by_M_place 9 = .ok (.iconst 0, 1) := by decide +kernel
theorem de_M_place_10 : decode by_M_place 10 = .ok (.goto 9, 3) := by decide +kernel
theorem de_M_place_13 : decode by_M_place 13 = .ok (.aload_n 0, 1) := by decide +kernel
theorem de_M_place_14 : decode by_M_place 14 = .ok (.getfield 50, 3) := by decide +kernel
theorem de_M_place_17 : decode by_M_place 17 = .ok (.iload_n 1, 1) := by decide +kernel
theorem de_M_place_18 : decode by_M_place 18 = .ok (.iaload, 1) := by decide +kernel
theorem de_M_place_19 : decode by_M_place 19 = .ok (.ireturn, 1) := by decide +kernel
theorem de_M_value_0 : decode by_M_value 0 = .ok (.aload_n 0, 1) := by decide +kernel
theorem de_M_value_1 : decode by_M_value 1 = .ok (.iload_n 1, 1) := by decide +kernel
theorem de_M_value_2 : decode by_M_value 2 = .ok (.iload_n 2, 1) := by decide +kernel
theorem de_M_value_3 : decode by_M_value 3 = .ok (.invokestatic 63, 3) := by decide +kernel
theorem de_M_value_6 : decode by_M_value 6 = .ok (.invokevirtual 140, 3) := by decide +kernel
theorem de_M_value_9 : decode by_M_value 9 = .ok (.ifCond .eq 7, 3) := by decide +kernel
theorem de_M_value_12 : decode by_M_value 12 = .ok (.iconst 0, 1) := by decide +kernel
theorem de_M_value_13 : decode by_M_value 13 = .ok (.goto 14, 3) := by decide +kernel
theorem de_M_value_16 : decode by_M_value 16 = .ok (.aload_n 0, 1) := by decide +kernel
theorem de_M_value_17 : decode by_M_value 17 = .ok (.getfield 56, 3) := by decide +kernel
theorem de_M_value_20 : decode by_M_value 20 = .ok (.bipush 6, 2) := by decide +kernel
theorem de_M_value_22 : decode by_M_value 22 = .ok (.iload_n 1, 1) := by decide +kernel
theorem de_M_value_23 : decode by_M_value 23 = .ok (.imul, 1) := by decide +kernel
theorem de_M_value_24 : decode by_M_value 24 = .ok (.iload_n 2, 1) := by decide +kernel
theorem de_M_value_25 : decode by_M_value 25 = .ok (.iadd, 1) := by decide +kernel
theorem de_M_value_26 : decode by_M_value 26 = .ok (.iaload, 1) := by decide +kernel
theorem de_M_value_27 : decode by_M_value 27 = .ok (.ireturn, 1) := by decide +kernel
theorem de_M_steps_0 : decode by_M_steps 0 = .ok (.aload_n 0, 1) := by decide +kernel
theorem de_M_steps_1 : decode by_M_steps 1 = .ok (.iload_n 1, 1) := by decide +kernel
theorem de_M_steps_2 : decode by_M_steps 2 = .ok (.iconst 1, 1) := by decide +kernel
theorem de_M_steps_3 : decode by_M_steps 3 = .ok (.invokevirtual 140, 3) := by decide +kernel
theorem de_M_steps_6 : decode by_M_steps 6 = .ok (.ifCond .eq 7, 3) := by decide +kernel
theorem de_M_steps_9 : decode by_M_steps 9 = .ok (.iconst 0, 1) := by decide +kernel
theorem de_M_steps_10 : decode by_M_steps 10 = .ok (.goto 9, 3) := by decide +kernel
theorem de_M_steps_13 : decode by_M_steps 13 = .ok (.aload_n 0, 1) := by decide +kernel
theorem de_M_steps_14 : decode by_M_steps 14 = .ok (.getfield 53, 3) := by decide +kernel
theorem de_M_steps_17 : decode by_M_steps 17 = .ok (.iload_n 1, 1) := by decide +kernel
theorem de_M_steps_18 : decode by_M_steps 18 = .ok (.iaload, 1) := by decide +kernel
theorem de_M_steps_19 : decode by_M_steps 19 = .ok (.ireturn, 1) := by decide +kernel
