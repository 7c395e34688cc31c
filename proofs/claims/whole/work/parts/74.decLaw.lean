/-! decode rows of the law, by program: wip/whole/gen/modL2.py -/
abbrev by_L_law : ByteArray := code
theorem de_L_law_0 : decode by_L_law 0 = .ok (.new 8, 3) := by decide +kernel
theorem de_L_law_3 : decode by_L_law 3 = .ok (.dup, 1) := by decide +kernel
theorem de_L_law_4 : decode by_L_law 4 = .ok (.invokespecial 58, 3) := by decide +kernel
theorem de_L_law_7 : decode by_L_law 7 = .ok (.astore_n 1, 1) := by decide +kernel
theorem de_L_law_8 : decode by_L_law 8 = .ok (.new 59, 3) := by decide +kernel
theorem de_L_law_11 : decode by_L_law 11 = .ok (.dup, 1) := by decide +kernel
theorem de_L_law_12 : decode by_L_law 12 = .ok (.invokespecial 61, 3) := by decide +kernel
theorem de_L_law_15 : decode by_L_law 15 = .ok (.astore_n 2, 1) := by decide +kernel
theorem de_L_law_16 : decode by_L_law 16 = .ok (.iconst 1, 1) := by decide +kernel
theorem de_L_law_17 : decode by_L_law 17 = .ok (.newarray .long, 2) := by decide +kernel
theorem de_L_law_19 : decode by_L_law 19 = .ok (.astore_n 3, 1) := by decide +kernel
theorem de_L_law_20 : decode by_L_law 20 = .ok (.iconst 0, 1) := by decide +kernel
theorem de_L_law_21 : decode by_L_law 21 = .ok (.istore 4, 2) := by decide +kernel
theorem de_L_law_23 : decode by_L_law 23 = .ok (.iload 4, 2) := by decide +kernel
theorem de_L_law_25 : decode by_L_law 25 = .ok (.aload_n 0, 1) := by decide +kernel
theorem de_L_law_26 : decode by_L_law 26 = .ok (.arraylength, 1) := by decide +kernel
theorem de_L_law_27 : decode by_L_law 27 = .ok (.bipush 6, 2) := by decide +kernel
theorem de_L_law_29 : decode by_L_law 29 = .ok (.isub, 1) := by decide +kernel
theorem de_L_law_30 : decode by_L_law 30 = .ok (.if_icmp .gt 945, 3) := by decide +kernel
theorem de_L_law_33 : decode by_L_law 33 = .ok (.aload_n 0, 1) := by decide +kernel
theorem de_L_law_34 : decode by_L_law 34 = .ok (.iload 4, 2) := by decide +kernel
theorem de_L_law_36 : decode by_L_law 36 = .ok (.iaload, 1) := by decide +kernel
theorem de_L_law_37 : decode by_L_law 37 = .ok (.bipush 15, 2) := by decide +kernel
theorem de_L_law_39 : decode by_L_law 39 = .ok (.iand, 1) := by decide +kernel
theorem de_L_law_40 : decode by_L_law 40 = .ok (.tableswitch 929 0 13 #[72, 164, 248, 261, 324, 337, 405, 473, 517, 597, 681, 749, 805, 873], 72) := by decide +kernel
theorem de_L_law_112 : decode by_L_law 112 = .ok (.aload_n 1, 1) := by decide +kernel
theorem de_L_law_113 : decode by_L_law 113 = .ok (.aload_n 0, 1) := by decide +kernel
theorem de_L_law_114 : decode by_L_law 114 = .ok (.iload 4, 2) := by decide +kernel
theorem de_L_law_116 : decode by_L_law 116 = .ok (.iconst 1, 1) := by decide +kernel
theorem de_L_law_117 : decode by_L_law 117 = .ok (.iadd, 1) := by decide +kernel
theorem de_L_law_118 : decode by_L_law 118 = .ok (.iaload, 1) := by decide +kernel
theorem de_L_law_119 : decode by_L_law 119 = .ok (.aload_n 0, 1) := by decide +kernel
theorem de_L_law_120 : decode by_L_law 120 = .ok (.iload 4, 2) := by decide +kernel
theorem de_L_law_122 : decode by_L_law 122 = .ok (.iconst 2, 1) := by decide +kernel
theorem de_L_law_123 : decode by_L_law 123 = .ok (.iadd, 1) := by decide +kernel
theorem de_L_law_124 : decode by_L_law 124 = .ok (.iaload, 1) := by decide +kernel
theorem de_L_law_125 : decode by_L_law 125 = .ok (.aload_n 0, 1) := by decide +kernel
theorem de_L_law_126 : decode by_L_law 126 = .ok (.iload 4, 2) := by decide +kernel
theorem de_L_law_128 : decode by_L_law 128 = .ok (.iconst 3, 1) := by decide +kernel
theorem de_L_law_129 : decode by_L_law 129 = .ok (.iadd, 1) := by decide +kernel
theorem de_L_law_130 : decode by_L_law 130 = .ok (.iaload, 1) := by decide +kernel
theorem de_L_law_131 : decode by_L_law 131 = .ok (.aload_n 0, 1) := by decide +kernel
theorem de_L_law_132 : decode by_L_law 132 = .ok (.iload 4, 2) := by decide +kernel
theorem de_L_law_134 : decode by_L_law 134 = .ok (.iconst 4, 1) := by decide +kernel
theorem de_L_law_135 : decode by_L_law 135 = .ok (.iadd, 1) := by decide +kernel
theorem de_L_law_136 : decode by_L_law 136 = .ok (.iaload, 1) := by decide +kernel
theorem de_L_law_137 : decode by_L_law 137 = .ok (.aload_n 3, 1) := by decide +kernel
theorem de_L_law_138 : decode by_L_law 138 = .ok (.invokestatic 62, 3) := by decide +kernel
theorem de_L_law_141 : decode by_L_law 141 = .ok (.istore 5, 2) := by decide +kernel
theorem de_L_law_143 : decode by_L_law 143 = .ok (.aload_n 2, 1) := by decide +kernel
theorem de_L_law_144 : decode by_L_law 144 = .ok (.aload_n 0, 1) := by decide +kernel
theorem de_L_law_145 : decode by_L_law 145 = .ok (.iload 4, 2) := by decide +kernel
theorem de_L_law_147 : decode by_L_law 147 = .ok (.iconst 1, 1) := by decide +kernel
theorem de_L_law_148 : decode by_L_law 148 = .ok (.iadd, 1) := by decide +kernel
theorem de_L_law_149 : decode by_L_law 149 = .ok (.iaload, 1) := by decide +kernel
theorem de_L_law_150 : decode by_L_law 150 = .ok (.aload_n 0, 1) := by decide +kernel
theorem de_L_law_151 : decode by_L_law 151 = .ok (.iload 4, 2) := by decide +kernel
theorem de_L_law_153 : decode by_L_law 153 = .ok (.iconst 2, 1) := by decide +kernel
theorem de_L_law_154 : decode by_L_law 154 = .ok (.iadd, 1) := by decide +kernel
theorem de_L_law_155 : decode by_L_law 155 = .ok (.iaload, 1) := by decide +kernel
theorem de_L_law_156 : decode by_L_law 156 = .ok (.aload_n 0, 1) := by decide +kernel
theorem de_L_law_157 : decode by_L_law 157 = .ok (.iload 4, 2) := by decide +kernel
theorem de_L_law_159 : decode by_L_law 159 = .ok (.iconst 3, 1) := by decide +kernel
theorem de_L_law_160 : decode by_L_law 160 = .ok (.iadd, 1) := by decide +kernel
theorem de_L_law_161 : decode by_L_law 161 = .ok (.iaload, 1) := by decide +kernel
theorem de_L_law_162 : decode by_L_law 162 = .ok (.aload_n 0, 1) := by decide +kernel
theorem de_L_law_163 : decode by_L_law 163 = .ok (.iload 4, 2) := by decide +kernel
theorem de_L_law_165 : decode by_L_law 165 = .ok (.iconst 4, 1) := by decide +kernel
theorem de_L_law_166 : decode by_L_law 166 = .ok (.iadd, 1) := by decide +kernel
theorem de_L_law_167 : decode by_L_law 167 = .ok (.iaload, 1) := by decide +kernel
theorem de_L_law_168 : decode by_L_law 168 = .ok (.invokevirtual 67, 3) := by decide +kernel
theorem de_L_law_171 : decode by_L_law 171 = .ok (.istore 6, 2) := by decide +kernel
theorem de_L_law_173 : decode by_L_law 173 = .ok (.aload_n 2, 1) := by decide +kernel
theorem de_L_law_174 : decode by_L_law 174 = .ok (.invokevirtual 68, 3) := by decide +kernel
theorem de_L_law_177 : decode by_L_law 177 = .ok (.iload 5, 2) := by decide +kernel
theorem de_L_law_179 : decode by_L_law 179 = .ok (.if_icmp .eq 5, 3) := by decide +kernel
theorem de_L_law_182 : decode by_L_law 182 = .ok (.iconst 0, 1) := by decide +kernel
theorem de_L_law_183 : decode by_L_law 183 = .ok (.ireturn, 1) := by decide +kernel
theorem de_L_law_184 : decode by_L_law 184 = .ok (.iload 5, 2) := by decide +kernel
theorem de_L_law_186 : decode by_L_law 186 = .ok (.ifCond .ne 15, 3) := by decide +kernel
theorem de_L_law_189 : decode by_L_law 189 = .ok (.aload_n 3, 1) := by decide +kernel
theorem de_L_law_190 : decode by_L_law 190 = .ok (.iconst 0, 1) := by decide +kernel
theorem de_L_law_191 : decode by_L_law 191 = .ok (.laload, 1) := by decide +kernel
theorem de_L_law_192 : decode by_L_law 192 = .ok (.iload 6, 2) := by decide +kernel
theorem de_L_law_194 : decode by_L_law 194 = .ok (.i2l, 1) := by decide +kernel
theorem de_L_law_195 : decode by_L_law 195 = .ok (.lcmp, 1) := by decide +kernel
theorem de_L_law_196 : decode by_L_law 196 = .ok (.ifCond .eq 5, 3) := by decide +kernel
theorem de_L_law_199 : decode by_L_law 199 = .ok (.iconst 0, 1) := by decide +kernel
theorem de_L_law_200 : decode by_L_law 200 = .ok (.ireturn, 1) := by decide +kernel
theorem de_L_law_201 : decode by_L_law 201 = .ok (.goto 768, 3) := by decide +kernel
theorem de_L_law_204 : decode by_L_law 204 = .ok (.aload_n 1, 1) := by decide +kernel
theorem de_L_law_205 : decode by_L_law 205 = .ok (.aload_n 0, 1) := by decide +kernel
theorem de_L_law_206 : decode by_L_law 206 = .ok (.iload 4, 2) := by decide +kernel
theorem de_L_law_208 : decode by_L_law 208 = .ok (.iconst 1, 1) := by decide +kernel
theorem de_L_law_209 : decode by_L_law 209 = .ok (.iadd, 1) := by decide +kernel
theorem de_L_law_210 : decode by_L_law 210 = .ok (.iaload, 1) := by decide +kernel
theorem de_L_law_211 : decode by_L_law 211 = .ok (.aload_n 0, 1) := by decide +kernel
theorem de_L_law_212 : decode by_L_law 212 = .ok (.iload 4, 2) := by decide +kernel
theorem de_L_law_214 : decode by_L_law 214 = .ok (.iconst 2, 1) := by decide +kernel
theorem de_L_law_215 : decode by_L_law 215 = .ok (.iadd, 1) := by decide +kernel
theorem de_L_law_216 : decode by_L_law 216 = .ok (.iaload, 1) := by decide +kernel
theorem de_L_law_217 : decode by_L_law 217 = .ok (.aload_n 0, 1) := by decide +kernel
theorem de_L_law_218 : decode by_L_law 218 = .ok (.iload 4, 2) := by decide +kernel
theorem de_L_law_220 : decode by_L_law 220 = .ok (.iconst 3, 1) := by decide +kernel
theorem de_L_law_221 : decode by_L_law 221 = .ok (.iadd, 1) := by decide +kernel
theorem de_L_law_222 : decode by_L_law 222 = .ok (.iaload, 1) := by decide +kernel
theorem de_L_law_223 : decode by_L_law 223 = .ok (.aload_n 0, 1) := by decide +kernel
theorem de_L_law_224 : decode by_L_law 224 = .ok (.iload 4, 2) := by decide +kernel
theorem de_L_law_226 : decode by_L_law 226 = .ok (.iconst 4, 1) := by decide +kernel
theorem de_L_law_227 : decode by_L_law 227 = .ok (.iadd, 1) := by decide +kernel
theorem de_L_law_228 : decode by_L_law 228 = .ok (.iaload, 1) := by decide +kernel
theorem de_L_law_229 : decode by_L_law 229 = .ok (.aload_n 0, 1) := by decide +kernel
theorem de_L_law_230 : decode by_L_law 230 = .ok (.iload 4, 2) := by decide +kernel
theorem de_L_law_232 : decode by_L_law 232 = .ok (.iconst 5, 1) := by decide +kernel
theorem de_L_law_233 : decode by_L_law 233 = .ok (.iadd, 1) := by decide +kernel
theorem de_L_law_234 : decode by_L_law 234 = .ok (.iaload, 1) := by decide +kernel
theorem de_L_law_235 : decode by_L_law 235 = .ok (.invokestatic 71, 3) := by decide +kernel
theorem de_L_law_238 : decode by_L_law 238 = .ok (.istore 5, 2) := by decide +kernel
theorem de_L_law_240 : decode by_L_law 240 = .ok (.aload_n 2, 1) := by decide +kernel
theorem de_L_law_241 : decode by_L_law 241 = .ok (.aload_n 0, 1) := by decide +kernel
theorem de_L_law_242 : decode by_L_law 242 = .ok (.iload 4, 2) := by decide +kernel
theorem de_L_law_244 : decode by_L_law 244 = .ok (.iconst 1, 1) := by decide +kernel
theorem de_L_law_245 : decode by_L_law 245 = .ok (.iadd, 1) := by decide +kernel
theorem de_L_law_246 : decode by_L_law 246 = .ok (.iaload, 1) := by decide +kernel
theorem de_L_law_247 : decode by_L_law 247 = .ok (.aload_n 0, 1) := by decide +kernel
theorem de_L_law_248 : decode by_L_law 248 = .ok (.iload 4, 2) := by decide +kernel
theorem de_L_law_250 : decode by_L_law 250 = .ok (.iconst 2, 1) := by decide +kernel
theorem de_L_law_251 : decode by_L_law 251 = .ok (.iadd, 1) := by decide +kernel
theorem de_L_law_252 : decode by_L_law 252 = .ok (.iaload, 1) := by decide +kernel
theorem de_L_law_253 : decode by_L_law 253 = .ok (.aload_n 0, 1) := by decide +kernel
theorem de_L_law_254 : decode by_L_law 254 = .ok (.iload 4, 2) := by decide +kernel
theorem de_L_law_256 : decode by_L_law 256 = .ok (.iconst 3, 1) := by decide +kernel
theorem de_L_law_257 : decode by_L_law 257 = .ok (.iadd, 1) := by decide +kernel
theorem de_L_law_258 : decode by_L_law 258 = .ok (.iaload, 1) := by decide +kernel
theorem de_L_law_259 : decode by_L_law 259 = .ok (.aload_n 0, 1) := by decide +kernel
theorem de_L_law_260 : decode by_L_law 260 = .ok (.iload 4, 2) := by decide +kernel
theorem de_L_law_262 : decode by_L_law 262 = .ok (.iconst 4, 1) := by decide +kernel
theorem de_L_law_263 : decode by_L_law 263 = .ok (.iadd, 1) := by decide +kernel
theorem de_L_law_264 : decode by_L_law 264 = .ok (.iaload, 1) := by decide +kernel
theorem de_L_law_265 : decode by_L_law 265 = .ok (.aload_n 0, 1) := by decide +kernel
theorem de_L_law_266 : decode by_L_law 266 = .ok (.iload 4, 2) := by decide +kernel
theorem de_L_law_268 : decode by_L_law 268 = .ok (.iconst 5, 1) := by decide +kernel
theorem de_L_law_269 : decode by_L_law 269 = .ok (.iadd, 1) := by decide +kernel
theorem de_L_law_270 : decode by_L_law 270 = .ok (.iaload, 1) := by decide +kernel
theorem de_L_law_271 : decode by_L_law 271 = .ok (.invokevirtual 74, 3) := by decide +kernel
theorem de_L_law_274 : decode by_L_law 274 = .ok (.aload_n 2, 1) := by decide +kernel
theorem de_L_law_275 : decode by_L_law 275 = .ok (.invokevirtual 68, 3) := by decide +kernel
theorem de_L_law_278 : decode by_L_law 278 = .ok (.iload 5, 2) := by decide +kernel
theorem de_L_law_280 : decode by_L_law 280 = .ok (.if_icmp .eq 5, 3) := by decide +kernel
theorem de_L_law_283 : decode by_L_law 283 = .ok (.iconst 0, 1) := by decide +kernel
theorem de_L_law_284 : decode by_L_law 284 = .ok (.ireturn, 1) := by decide +kernel
theorem de_L_law_285 : decode by_L_law 285 = .ok (.goto 684, 3) := by decide +kernel
theorem de_L_law_288 : decode by_L_law 288 = .ok (.aload_n 1, 1) := by decide +kernel
theorem de_L_law_289 : decode by_L_law 289 = .ok (.invokevirtual 75, 3) := by decide +kernel
theorem de_L_law_292 : decode by_L_law 292 = .ok (.aload_n 2, 1) := by decide +kernel
theorem de_L_law_293 : decode by_L_law 293 = .ok (.invokevirtual 78, 3) := by decide +kernel
theorem de_L_law_296 : decode by_L_law 296 = .ok (.if_icmp .eq 673, 3) := by decide +kernel
theorem de_L_law_299 : decode by_L_law 299 = .ok (.iconst 0, 1) := by decide +kernel
theorem de_L_law_300 : decode by_L_law 300 = .ok (.ireturn, 1) := by decide +kernel
theorem de_L_law_301 : decode by_L_law 301 = .ok (.aload_n 1, 1) := by decide +kernel
theorem de_L_law_302 : decode by_L_law 302 = .ok (.aload_n 0, 1) := by decide +kernel
theorem de_L_law_303 : decode by_L_law 303 = .ok (.iload 4, 2) := by decide +kernel
theorem de_L_law_305 : decode by_L_law 305 = .ok (.iconst 1, 1) := by decide +kernel
theorem de_L_law_306 : decode by_L_law 306 = .ok (.iadd, 1) := by decide +kernel
theorem de_L_law_307 : decode by_L_law 307 = .ok (.iaload, 1) := by decide +kernel
theorem de_L_law_308 : decode by_L_law 308 = .ok (.aload_n 3, 1) := by decide +kernel
theorem de_L_law_309 : decode by_L_law 309 = .ok (.invokestatic 79, 3) := by decide +kernel
theorem de_L_law_312 : decode by_L_law 312 = .ok (.istore 5, 2) := by decide +kernel
theorem de_L_law_314 : decode by_L_law 314 = .ok (.aload_n 2, 1) := by decide +kernel
theorem de_L_law_315 : decode by_L_law 315 = .ok (.aload_n 0, 1) := by decide +kernel
theorem de_L_law_316 : decode by_L_law 316 = .ok (.iload 4, 2) := by decide +kernel
theorem de_L_law_318 : decode by_L_law 318 = .ok (.iconst 1, 1) := by decide +kernel
theorem de_L_law_319 : decode by_L_law 319 = .ok (.iadd, 1) := by decide +kernel
theorem de_L_law_320 : decode by_L_law 320 = .ok (.iaload, 1) := by decide +kernel
theorem de_L_law_321 : decode by_L_law 321 = .ok (.invokevirtual 82, 3) := by decide +kernel
theorem de_L_law_324 : decode by_L_law 324 = .ok (.istore 6, 2) := by decide +kernel
theorem de_L_law_326 : decode by_L_law 326 = .ok (.aload_n 2, 1) := by decide +kernel
theorem de_L_law_327 : decode by_L_law 327 = .ok (.invokevirtual 68, 3) := by decide +kernel
theorem de_L_law_330 : decode by_L_law 330 = .ok (.iload 5, 2) := by decide +kernel
theorem de_L_law_332 : decode by_L_law 332 = .ok (.if_icmp .eq 5, 3) := by decide +kernel
theorem de_L_law_335 : decode by_L_law 335 = .ok (.iconst 0, 1) := by decide +kernel
theorem de_L_law_336 : decode by_L_law 336 = .ok (.ireturn, 1) := by decide +kernel
theorem de_L_law_337 : decode by_L_law 337 = .ok (.iload 5, 2) := by decide +kernel
theorem de_L_law_339 : decode by_L_law 339 = .ok (.ifCond .ne 22, 3) := by decide +kernel
theorem de_L_law_342 : decode by_L_law 342 = .ok (.aload_n 3, 1) := by decide +kernel
theorem de_L_law_343 : decode by_L_law 343 = .ok (.iconst 0, 1) := by decide +kernel
theorem de_L_law_344 : decode by_L_law 344 = .ok (.laload, 1) := by decide +kernel
theorem de_L_law_345 : decode by_L_law 345 = .ok (.iload 6, 2) := by decide +kernel
theorem de_L_law_347 : decode by_L_law 347 = .ok (.ifCond .eq 7, 3) := by decide +kernel
theorem de_L_law_350 : decode by_L_law 350 = .ok (.lconst 1, 1) := by decide +kernel
theorem de_L_law_351 : decode by_L_law 351 = .ok (.goto 4, 3) := by decide +kernel
theorem de_L_law_354 : decode by_L_law 354 = .ok (.lconst 0, 1) := by decide +kernel
theorem de_L_law_355 : decode by_L_law 355 = .ok (.lcmp, 1) := by decide +kernel
theorem de_L_law_356 : decode by_L_law 356 = .ok (.ifCond .eq 5, 3) := by decide +kernel
theorem de_L_law_359 : decode by_L_law 359 = .ok (.iconst 0, 1) := by decide +kernel
theorem de_L_law_360 : decode by_L_law 360 = .ok (.ireturn, 1) := by decide +kernel
theorem de_L_law_361 : decode by_L_law 361 = .ok (.goto 608, 3) := by decide +kernel
theorem de_L_law_364 : decode by_L_law 364 = .ok (.aload_n 1, 1) := by decide +kernel
theorem de_L_law_365 : decode by_L_law 365 = .ok (.invokevirtual 83, 3) := by decide +kernel
theorem de_L_law_368 : decode by_L_law 368 = .ok (.aload_n 2, 1) := by decide +kernel
theorem de_L_law_369 : decode by_L_law 369 = .ok (.invokevirtual 86, 3) := by decide +kernel
theorem de_L_law_372 : decode by_L_law 372 = .ok (.if_icmp .eq 597, 3) := by decide +kernel
theorem de_L_law_375 : decode by_L_law 375 = .ok (.iconst 0, 1) := by decide +kernel
theorem de_L_law_376 : decode by_L_law 376 = .ok (.ireturn, 1) := by decide +kernel
theorem de_L_law_377 : decode by_L_law 377 = .ok (.aload_n 1, 1) := by decide +kernel
theorem de_L_law_378 : decode by_L_law 378 = .ok (.aload_n 0, 1) := by decide +kernel
theorem de_L_law_379 : decode by_L_law 379 = .ok (.iload 4, 2) := by decide +kernel
theorem de_L_law_381 : decode by_L_law 381 = .ok (.iconst 1, 1) := by decide +kernel
theorem de_L_law_382 : decode by_L_law 382 = .ok (.iadd, 1) := by decide +kernel
theorem de_L_law_383 : decode by_L_law 383 = .ok (.iaload, 1) := by decide +kernel
theorem de_L_law_384 : decode by_L_law 384 = .ok (.aload_n 0, 1) := by decide +kernel
theorem de_L_law_385 : decode by_L_law 385 = .ok (.iload 4, 2) := by decide +kernel
theorem de_L_law_387 : decode by_L_law 387 = .ok (.iconst 2, 1) := by decide +kernel
theorem de_L_law_388 : decode by_L_law 388 = .ok (.iadd, 1) := by decide +kernel
theorem de_L_law_389 : decode by_L_law 389 = .ok (.iaload, 1) := by decide +kernel
theorem de_L_law_390 : decode by_L_law 390 = .ok (.aload_n 3, 1) := by decide +kernel
theorem de_L_law_391 : decode by_L_law 391 = .ok (.invokestatic 87, 3) := by decide +kernel
theorem de_L_law_394 : decode by_L_law 394 = .ok (.istore 5, 2) := by decide +kernel
theorem de_L_law_396 : decode by_L_law 396 = .ok (.aload_n 2, 1) := by decide +kernel
theorem de_L_law_397 : decode by_L_law 397 = .ok (.aload_n 0, 1) := by decide +kernel
theorem de_L_law_398 : decode by_L_law 398 = .ok (.iload 4, 2) := by decide +kernel
theorem de_L_law_400 : decode by_L_law 400 = .ok (.iconst 1, 1) := by decide +kernel
theorem de_L_law_401 : decode by_L_law 401 = .ok (.iadd, 1) := by decide +kernel
theorem de_L_law_402 : decode by_L_law 402 = .ok (.iaload, 1) := by decide +kernel
theorem de_L_law_403 : decode by_L_law 403 = .ok (.aload_n 0, 1) := by decide +kernel
theorem de_L_law_404 : decode by_L_law 404 = .ok (.iload 4, 2) := by decide +kernel
theorem de_L_law_406 : decode by_L_law 406 = .ok (.iconst 2, 1) := by decide +kernel
theorem de_L_law_407 : decode by_L_law 407 = .ok (.iadd, 1) := by decide +kernel
theorem de_L_law_408 : decode by_L_law 408 = .ok (.iaload, 1) := by decide +kernel
theorem de_L_law_409 : decode by_L_law 409 = .ok (.invokevirtual 90, 3) := by decide +kernel
theorem de_L_law_412 : decode by_L_law 412 = .ok (.istore 6, 2) := by decide +kernel
theorem de_L_law_414 : decode by_L_law 414 = .ok (.aload_n 2, 1) := by decide +kernel
theorem de_L_law_415 : decode by_L_law 415 = .ok (.invokevirtual 68, 3) := by decide +kernel
theorem de_L_law_418 : decode by_L_law 418 = .ok (.iload 5, 2) := by decide +kernel
theorem de_L_law_420 : decode by_L_law 420 = .ok (.if_icmp .eq 5, 3) := by decide +kernel
theorem de_L_law_423 : decode by_L_law 423 = .ok (.iconst 0, 1) := by decide +kernel
theorem de_L_law_424 : decode by_L_law 424 = .ok (.ireturn, 1) := by decide +kernel
theorem de_L_law_425 : decode by_L_law 425 = .ok (.iload 5, 2) := by decide +kernel
theorem de_L_law_427 : decode by_L_law 427 = .ok (.ifCond .ne 15, 3) := by decide +kernel
theorem de_L_law_430 : decode by_L_law 430 = .ok (.aload_n 3, 1) := by decide +kernel
theorem de_L_law_431 : decode by_L_law 431 = .ok (.iconst 0, 1) := by decide +kernel
theorem de_L_law_432 : decode by_L_law 432 = .ok (.laload, 1) := by decide +kernel
theorem de_L_law_433 : decode by_L_law 433 = .ok (.iload 6, 2) := by decide +kernel
theorem de_L_law_435 : decode by_L_law 435 = .ok (.i2l, 1) := by decide +kernel
theorem de_L_law_436 : decode by_L_law 436 = .ok (.lcmp, 1) := by decide +kernel
theorem de_L_law_437 : decode by_L_law 437 = .ok (.ifCond .eq 5, 3) := by decide +kernel
theorem de_L_law_440 : decode by_L_law 440 = .ok (.iconst 0, 1) := by decide +kernel
theorem de_L_law_441 : decode by_L_law 441 = .ok (.ireturn, 1) := by decide +kernel
theorem de_L_law_442 : decode by_L_law 442 = .ok (.goto 527, 3) := by decide +kernel
theorem de_L_law_445 : decode by_L_law 445 = .ok (.aload_n 1, 1) := by decide +kernel
theorem de_L_law_446 : decode by_L_law 446 = .ok (.aload_n 0, 1) := by decide +kernel
theorem de_L_law_447 : decode by_L_law 447 = .ok (.iload 4, 2) := by decide +kernel
theorem de_L_law_449 : decode by_L_law 449 = .ok (.iconst 1, 1) := by decide +kernel
theorem de_L_law_450 : decode by_L_law 450 = .ok (.iadd, 1) := by decide +kernel
theorem de_L_law_451 : decode by_L_law 451 = .ok (.iaload, 1) := by decide +kernel
theorem de_L_law_452 : decode by_L_law 452 = .ok (.aload_n 0, 1) := by decide +kernel
theorem de_L_law_453 : decode by_L_law 453 = .ok (.iload 4, 2) := by decide +kernel
theorem de_L_law_455 : decode by_L_law 455 = .ok (.iconst 2, 1) := by decide +kernel
theorem de_L_law_456 : decode by_L_law 456 = .ok (.iadd, 1) := by decide +kernel
theorem de_L_law_457 : decode by_L_law 457 = .ok (.iaload, 1) := by decide +kernel
theorem de_L_law_458 : decode by_L_law 458 = .ok (.aload_n 3, 1) := by decide +kernel
theorem de_L_law_459 : decode by_L_law 459 = .ok (.invokestatic 91, 3) := by decide +kernel
theorem de_L_law_462 : decode by_L_law 462 = .ok (.istore 5, 2) := by decide +kernel
theorem de_L_law_464 : decode by_L_law 464 = .ok (.aload_n 2, 1) := by decide +kernel
theorem de_L_law_465 : decode by_L_law 465 = .ok (.aload_n 0, 1) := by decide +kernel
theorem de_L_law_466 : decode by_L_law 466 = .ok (.iload 4, 2) := by decide +kernel
theorem de_L_law_468 : decode by_L_law 468 = .ok (.iconst 1, 1) := by decide +kernel
theorem de_L_law_469 : decode by_L_law 469 = .ok (.iadd, 1) := by decide +kernel
theorem de_L_law_470 : decode by_L_law 470 = .ok (.iaload, 1) := by decide +kernel
theorem de_L_law_471 : decode by_L_law 471 = .ok (.aload_n 0, 1) := by decide +kernel
theorem de_L_law_472 : decode by_L_law 472 = .ok (.iload 4, 2) := by decide +kernel
theorem de_L_law_474 : decode by_L_law 474 = .ok (.iconst 2, 1) := by decide +kernel
theorem de_L_law_475 : decode by_L_law 475 = .ok (.iadd, 1) := by decide +kernel
theorem de_L_law_476 : decode by_L_law 476 = .ok (.iaload, 1) := by decide +kernel
theorem de_L_law_477 : decode by_L_law 477 = .ok (.invokevirtual 93, 3) := by decide +kernel
theorem de_L_law_480 : decode by_L_law 480 = .ok (.istore 6, 2) := by decide +kernel
theorem de_L_law_482 : decode by_L_law 482 = .ok (.aload_n 2, 1) := by decide +kernel
theorem de_L_law_483 : decode by_L_law 483 = .ok (.invokevirtual 68, 3) := by decide +kernel
theorem de_L_law_486 : decode by_L_law 486 = .ok (.iload 5, 2) := by decide +kernel
theorem de_L_law_488 : decode by_L_law 488 = .ok (.if_icmp .eq 5, 3) := by decide +kernel
theorem de_L_law_491 : decode by_L_law 491 = .ok (.iconst 0, 1) := by decide +kernel
theorem de_L_law_492 : decode by_L_law 492 = .ok (.ireturn, 1) := by decide +kernel
theorem de_L_law_493 : decode by_L_law 493 = .ok (.iload 5, 2) := by decide +kernel
theorem de_L_law_495 : decode by_L_law 495 = .ok (.ifCond .ne 15, 3) := by decide +kernel
theorem de_L_law_498 : decode by_L_law 498 = .ok (.aload_n 3, 1) := by decide +kernel
theorem de_L_law_499 : decode by_L_law 499 = .ok (.iconst 0, 1) := by decide +kernel
theorem de_L_law_500 : decode by_L_law 500 = .ok (.laload, 1) := by decide +kernel
theorem de_L_law_501 : decode by_L_law 501 = .ok (.iload 6, 2) := by decide +kernel
theorem de_L_law_503 : decode by_L_law 503 = .ok (.i2l, 1) := by decide +kernel
theorem de_L_law_504 : decode by_L_law 504 = .ok (.lcmp, 1) := by decide +kernel
theorem de_L_law_505 : decode by_L_law 505 = .ok (.ifCond .eq 5, 3) := by decide +kernel
theorem de_L_law_508 : decode by_L_law 508 = .ok (.iconst 0, 1) := by decide +kernel
theorem de_L_law_509 : decode by_L_law 509 = .ok (.ireturn, 1) := by decide +kernel
theorem de_L_law_510 : decode by_L_law 510 = .ok (.goto 459, 3) := by decide +kernel
theorem de_L_law_513 : decode by_L_law 513 = .ok (.aload_n 1, 1) := by decide +kernel
theorem de_L_law_514 : decode by_L_law 514 = .ok (.aload_n 3, 1) := by decide +kernel
theorem de_L_law_515 : decode by_L_law 515 = .ok (.invokestatic 94, 3) := by decide +kernel
theorem de_L_law_518 : decode by_L_law 518 = .ok (.istore 5, 2) := by decide +kernel
theorem de_L_law_520 : decode by_L_law 520 = .ok (.aload_n 2, 1) := by decide +kernel
theorem de_L_law_521 : decode by_L_law 521 = .ok (.invokevirtual 97, 3) := by decide +kernel
theorem de_L_law_524 : decode by_L_law 524 = .ok (.istore 6, 2) := by decide +kernel
theorem de_L_law_526 : decode by_L_law 526 = .ok (.aload_n 2, 1) := by decide +kernel
theorem de_L_law_527 : decode by_L_law 527 = .ok (.invokevirtual 68, 3) := by decide +kernel
theorem de_L_law_530 : decode by_L_law 530 = .ok (.iload 5, 2) := by decide +kernel
theorem de_L_law_532 : decode by_L_law 532 = .ok (.if_icmp .eq 5, 3) := by decide +kernel
theorem de_L_law_535 : decode by_L_law 535 = .ok (.iconst 0, 1) := by decide +kernel
theorem de_L_law_536 : decode by_L_law 536 = .ok (.ireturn, 1) := by decide +kernel
theorem de_L_law_537 : decode by_L_law 537 = .ok (.iload 5, 2) := by decide +kernel
theorem de_L_law_539 : decode by_L_law 539 = .ok (.ifCond .ne 15, 3) := by decide +kernel
theorem de_L_law_542 : decode by_L_law 542 = .ok (.aload_n 3, 1) := by decide +kernel
theorem de_L_law_543 : decode by_L_law 543 = .ok (.iconst 0, 1) := by decide +kernel
theorem de_L_law_544 : decode by_L_law 544 = .ok (.laload, 1) := by decide +kernel
theorem de_L_law_545 : decode by_L_law 545 = .ok (.iload 6, 2) := by decide +kernel
theorem de_L_law_547 : decode by_L_law 547 = .ok (.i2l, 1) := by decide +kernel
theorem de_L_law_548 : decode by_L_law 548 = .ok (.lcmp, 1) := by decide +kernel
theorem de_L_law_549 : decode by_L_law 549 = .ok (.ifCond .eq 5, 3) := by decide +kernel
theorem de_L_law_552 : decode by_L_law 552 = .ok (.iconst 0, 1) := by decide +kernel
theorem de_L_law_553 : decode by_L_law 553 = .ok (.ireturn, 1) := by decide +kernel
theorem de_L_law_554 : decode by_L_law 554 = .ok (.goto 415, 3) := by decide +kernel
theorem de_L_law_557 : decode by_L_law 557 = .ok (.aload_n 1, 1) := by decide +kernel
theorem de_L_law_558 : decode by_L_law 558 = .ok (.aload_n 0, 1) := by decide +kernel
theorem de_L_law_559 : decode by_L_law 559 = .ok (.iload 4, 2) := by decide +kernel
theorem de_L_law_561 : decode by_L_law 561 = .ok (.iconst 1, 1) := by decide +kernel
theorem de_L_law_562 : decode by_L_law 562 = .ok (.iadd, 1) := by decide +kernel
theorem de_L_law_563 : decode by_L_law 563 = .ok (.iaload, 1) := by decide +kernel
theorem de_L_law_564 : decode by_L_law 564 = .ok (.aload_n 0, 1) := by decide +kernel
theorem de_L_law_565 : decode by_L_law 565 = .ok (.iload 4, 2) := by decide +kernel
theorem de_L_law_567 : decode by_L_law 567 = .ok (.iconst 2, 1) := by decide +kernel
theorem de_L_law_568 : decode by_L_law 568 = .ok (.iadd, 1) := by decide +kernel
theorem de_L_law_569 : decode by_L_law 569 = .ok (.iaload, 1) := by decide +kernel
theorem de_L_law_570 : decode by_L_law 570 = .ok (.aload_n 0, 1) := by decide +kernel
theorem de_L_law_571 : decode by_L_law 571 = .ok (.iload 4, 2) := by decide +kernel
theorem de_L_law_573 : decode by_L_law 573 = .ok (.iconst 3, 1) := by decide +kernel
theorem de_L_law_574 : decode by_L_law 574 = .ok (.iadd, 1) := by decide +kernel
theorem de_L_law_575 : decode by_L_law 575 = .ok (.iaload, 1) := by decide +kernel
theorem de_L_law_576 : decode by_L_law 576 = .ok (.aload_n 3, 1) := by decide +kernel
theorem de_L_law_577 : decode by_L_law 577 = .ok (.invokestatic 98, 3) := by decide +kernel
theorem de_L_law_580 : decode by_L_law 580 = .ok (.istore 5, 2) := by decide +kernel
theorem de_L_law_582 : decode by_L_law 582 = .ok (.aload_n 2, 1) := by decide +kernel
theorem de_L_law_583 : decode by_L_law 583 = .ok (.aload_n 0, 1) := by decide +kernel
theorem de_L_law_584 : decode by_L_law 584 = .ok (.iload 4, 2) := by decide +kernel
theorem de_L_law_586 : decode by_L_law 586 = .ok (.iconst 1, 1) := by decide +kernel
theorem de_L_law_587 : decode by_L_law 587 = .ok (.iadd, 1) := by decide +kernel
theorem de_L_law_588 : decode by_L_law 588 = .ok (.iaload, 1) := by decide +kernel
theorem de_L_law_589 : decode by_L_law 589 = .ok (.aload_n 0, 1) := by decide +kernel
theorem de_L_law_590 : decode by_L_law 590 = .ok (.iload 4, 2) := by decide +kernel
theorem de_L_law_592 : decode by_L_law 592 = .ok (.iconst 2, 1) := by decide +kernel
theorem de_L_law_593 : decode by_L_law 593 = .ok (.iadd, 1) := by decide +kernel
theorem de_L_law_594 : decode by_L_law 594 = .ok (.iaload, 1) := by decide +kernel
theorem de_L_law_595 : decode by_L_law 595 = .ok (.aload_n 0, 1) := by decide +kernel
theorem de_L_law_596 : decode by_L_law 596 = .ok (.iload 4, 2) := by decide +kernel
theorem de_L_law_598 : decode by_L_law 598 = .ok (.iconst 3, 1) := by decide +kernel
theorem de_L_law_599 : decode by_L_law 599 = .ok (.iadd, 1) := by decide +kernel
theorem de_L_law_600 : decode by_L_law 600 = .ok (.iaload, 1) := by decide +kernel
theorem de_L_law_601 : decode by_L_law 601 = .ok (.invokevirtual 101, 3) := by decide +kernel
theorem de_L_law_604 : decode by_L_law 604 = .ok (.istore 6, 2) := by decide +kernel
theorem de_L_law_606 : decode by_L_law 606 = .ok (.aload_n 2, 1) := by decide +kernel
theorem de_L_law_607 : decode by_L_law 607 = .ok (.invokevirtual 68, 3) := by decide +kernel
theorem de_L_law_610 : decode by_L_law 610 = .ok (.iload 5, 2) := by decide +kernel
theorem de_L_law_612 : decode by_L_law 612 = .ok (.if_icmp .eq 5, 3) := by decide +kernel
theorem de_L_law_615 : decode by_L_law 615 = .ok (.iconst 0, 1) := by decide +kernel
theorem de_L_law_616 : decode by_L_law 616 = .ok (.ireturn, 1) := by decide +kernel
theorem de_L_law_617 : decode by_L_law 617 = .ok (.iload 5, 2) := by decide +kernel
theorem de_L_law_619 : decode by_L_law 619 = .ok (.ifCond .ne 15, 3) := by decide +kernel
theorem de_L_law_622 : decode by_L_law 622 = .ok (.aload_n 3, 1) := by decide +kernel
theorem de_L_law_623 : decode by_L_law 623 = .ok (.iconst 0, 1) := by decide +kernel
theorem de_L_law_624 : decode by_L_law 624 = .ok (.laload, 1) := by decide +kernel
theorem de_L_law_625 : decode by_L_law 625 = .ok (.iload 6, 2) := by decide +kernel
theorem de_L_law_627 : decode by_L_law 627 = .ok (.i2l, 1) := by decide +kernel
theorem de_L_law_628 : decode by_L_law 628 = .ok (.lcmp, 1) := by decide +kernel
theorem de_L_law_629 : decode by_L_law 629 = .ok (.ifCond .eq 5, 3) := by decide +kernel
theorem de_L_law_632 : decode by_L_law 632 = .ok (.iconst 0, 1) := by decide +kernel
theorem de_L_law_633 : decode by_L_law 633 = .ok (.ireturn, 1) := by decide +kernel
theorem de_L_law_634 : decode by_L_law 634 = .ok (.goto 335, 3) := by decide +kernel
theorem de_L_law_637 : decode by_L_law 637 = .ok (.aload_n 1, 1) := by decide +kernel
theorem de_L_law_638 : decode by_L_law 638 = .ok (.aload_n 0, 1) := by decide +kernel
theorem de_L_law_639 : decode by_L_law 639 = .ok (.iload 4, 2) := by decide +kernel
theorem de_L_law_641 : decode by_L_law 641 = .ok (.iconst 1, 1) := by decide +kernel
theorem de_L_law_642 : decode by_L_law 642 = .ok (.iadd, 1) := by decide +kernel
theorem de_L_law_643 : decode by_L_law 643 = .ok (.iaload, 1) := by decide +kernel
theorem de_L_law_644 : decode by_L_law 644 = .ok (.aload_n 0, 1) := by decide +kernel
theorem de_L_law_645 : decode by_L_law 645 = .ok (.iload 4, 2) := by decide +kernel
theorem de_L_law_647 : decode by_L_law 647 = .ok (.iconst 2, 1) := by decide +kernel
theorem de_L_law_648 : decode by_L_law 648 = .ok (.iadd, 1) := by decide +kernel
theorem de_L_law_649 : decode by_L_law 649 = .ok (.iaload, 1) := by decide +kernel
theorem de_L_law_650 : decode by_L_law 650 = .ok (.aload_n 0, 1) := by decide +kernel
theorem de_L_law_651 : decode by_L_law 651 = .ok (.iload 4, 2) := by decide +kernel
theorem de_L_law_653 : decode by_L_law 653 = .ok (.iconst 3, 1) := by decide +kernel
theorem de_L_law_654 : decode by_L_law 654 = .ok (.iadd, 1) := by decide +kernel
theorem de_L_law_655 : decode by_L_law 655 = .ok (.iaload, 1) := by decide +kernel
theorem de_L_law_656 : decode by_L_law 656 = .ok (.aload_n 0, 1) := by decide +kernel
theorem de_L_law_657 : decode by_L_law 657 = .ok (.iload 4, 2) := by decide +kernel
theorem de_L_law_659 : decode by_L_law 659 = .ok (.iconst 4, 1) := by decide +kernel
theorem de_L_law_660 : decode by_L_law 660 = .ok (.iadd, 1) := by decide +kernel
theorem de_L_law_661 : decode by_L_law 661 = .ok (.iaload, 1) := by decide +kernel
theorem de_L_law_662 : decode by_L_law 662 = .ok (.aload_n 0, 1) := by decide +kernel
theorem de_L_law_663 : decode by_L_law 663 = .ok (.iload 4, 2) := by decide +kernel
theorem de_L_law_665 : decode by_L_law 665 = .ok (.iconst 5, 1) := by decide +kernel
theorem de_L_law_666 : decode by_L_law 666 = .ok (.iadd, 1) := by decide +kernel
theorem de_L_law_667 : decode by_L_law 667 = .ok (.iaload, 1) := by decide +kernel
theorem de_L_law_668 : decode by_L_law 668 = .ok (.invokestatic 102, 3) := by decide +kernel
theorem de_L_law_671 : decode by_L_law 671 = .ok (.istore 5, 2) := by decide +kernel
theorem de_L_law_673 : decode by_L_law 673 = .ok (.aload_n 2, 1) := by decide +kernel
theorem de_L_law_674 : decode by_L_law 674 = .ok (.aload_n 0, 1) := by decide +kernel
theorem de_L_law_675 : decode by_L_law 675 = .ok (.iload 4, 2) := by decide +kernel
theorem de_L_law_677 : decode by_L_law 677 = .ok (.iconst 1, 1) := by decide +kernel
theorem de_L_law_678 : decode by_L_law 678 = .ok (.iadd, 1) := by decide +kernel
theorem de_L_law_679 : decode by_L_law 679 = .ok (.iaload, 1) := by decide +kernel
theorem de_L_law_680 : decode by_L_law 680 = .ok (.aload_n 0, 1) := by decide +kernel
theorem de_L_law_681 : decode by_L_law 681 = .ok (.iload 4, 2) := by decide +kernel
theorem de_L_law_683 : decode by_L_law 683 = .ok (.iconst 2, 1) := by decide +kernel
theorem de_L_law_684 : decode by_L_law 684 = .ok (.iadd, 1) := by decide +kernel
theorem de_L_law_685 : decode by_L_law 685 = .ok (.iaload, 1) := by decide +kernel
theorem de_L_law_686 : decode by_L_law 686 = .ok (.aload_n 0, 1) := by decide +kernel
theorem de_L_law_687 : decode by_L_law 687 = .ok (.iload 4, 2) := by decide +kernel
theorem de_L_law_689 : decode by_L_law 689 = .ok (.iconst 3, 1) := by decide +kernel
theorem de_L_law_690 : decode by_L_law 690 = .ok (.iadd, 1) := by decide +kernel
theorem de_L_law_691 : decode by_L_law 691 = .ok (.iaload, 1) := by decide +kernel
theorem de_L_law_692 : decode by_L_law 692 = .ok (.aload_n 0, 1) := by decide +kernel
theorem de_L_law_693 : decode by_L_law 693 = .ok (.iload 4, 2) := by decide +kernel
theorem de_L_law_695 : decode by_L_law 695 = .ok (.iconst 4, 1) := by decide +kernel
theorem de_L_law_696 : decode by_L_law 696 = .ok (.iadd, 1) := by decide +kernel
theorem de_L_law_697 : decode by_L_law 697 = .ok (.iaload, 1) := by decide +kernel
theorem de_L_law_698 : decode by_L_law 698 = .ok (.aload_n 0, 1) := by decide +kernel
theorem de_L_law_699 : decode by_L_law 699 = .ok (.iload 4, 2) := by decide +kernel
theorem de_L_law_701 : decode by_L_law 701 = .ok (.iconst 5, 1) := by decide +kernel
theorem de_L_law_702 : decode by_L_law 702 = .ok (.iadd, 1) := by decide +kernel
theorem de_L_law_703 : decode by_L_law 703 = .ok (.iaload, 1) := by decide +kernel
theorem de_L_law_704 : decode by_L_law 704 = .ok (.invokevirtual 104, 3) := by decide +kernel
theorem de_L_law_707 : decode by_L_law 707 = .ok (.aload_n 2, 1) := by decide +kernel
theorem de_L_law_708 : decode by_L_law 708 = .ok (.invokevirtual 68, 3) := by decide +kernel
theorem de_L_law_711 : decode by_L_law 711 = .ok (.iload 5, 2) := by decide +kernel
theorem de_L_law_713 : decode by_L_law 713 = .ok (.if_icmp .eq 5, 3) := by decide +kernel
theorem de_L_law_716 : decode by_L_law 716 = .ok (.iconst 0, 1) := by decide +kernel
theorem de_L_law_717 : decode by_L_law 717 = .ok (.ireturn, 1) := by decide +kernel
theorem de_L_law_718 : decode by_L_law 718 = .ok (.goto 251, 3) := by decide +kernel
theorem de_L_law_721 : decode by_L_law 721 = .ok (.aload_n 1, 1) := by decide +kernel
theorem de_L_law_722 : decode by_L_law 722 = .ok (.aload_n 0, 1) := by decide +kernel
theorem de_L_law_723 : decode by_L_law 723 = .ok (.iload 4, 2) := by decide +kernel
theorem de_L_law_725 : decode by_L_law 725 = .ok (.iconst 1, 1) := by decide +kernel
theorem de_L_law_726 : decode by_L_law 726 = .ok (.iadd, 1) := by decide +kernel
theorem de_L_law_727 : decode by_L_law 727 = .ok (.iaload, 1) := by decide +kernel
theorem de_L_law_728 : decode by_L_law 728 = .ok (.aload_n 0, 1) := by decide +kernel
theorem de_L_law_729 : decode by_L_law 729 = .ok (.iload 4, 2) := by decide +kernel
theorem de_L_law_731 : decode by_L_law 731 = .ok (.iconst 2, 1) := by decide +kernel
theorem de_L_law_732 : decode by_L_law 732 = .ok (.iadd, 1) := by decide +kernel
theorem de_L_law_733 : decode by_L_law 733 = .ok (.iaload, 1) := by decide +kernel
theorem de_L_law_734 : decode by_L_law 734 = .ok (.aload_n 3, 1) := by decide +kernel
theorem de_L_law_735 : decode by_L_law 735 = .ok (.invokestatic 105, 3) := by decide +kernel
theorem de_L_law_738 : decode by_L_law 738 = .ok (.istore 5, 2) := by decide +kernel
theorem de_L_law_740 : decode by_L_law 740 = .ok (.aload_n 2, 1) := by decide +kernel
theorem de_L_law_741 : decode by_L_law 741 = .ok (.aload_n 0, 1) := by decide +kernel
theorem de_L_law_742 : decode by_L_law 742 = .ok (.iload 4, 2) := by decide +kernel
theorem de_L_law_744 : decode by_L_law 744 = .ok (.iconst 1, 1) := by decide +kernel
theorem de_L_law_745 : decode by_L_law 745 = .ok (.iadd, 1) := by decide +kernel
theorem de_L_law_746 : decode by_L_law 746 = .ok (.iaload, 1) := by decide +kernel
theorem de_L_law_747 : decode by_L_law 747 = .ok (.aload_n 0, 1) := by decide +kernel
theorem de_L_law_748 : decode by_L_law 748 = .ok (.iload 4, 2) := by decide +kernel
theorem de_L_law_750 : decode by_L_law 750 = .ok (.iconst 2, 1) := by decide +kernel
theorem de_L_law_751 : decode by_L_law 751 = .ok (.iadd, 1) := by decide +kernel
theorem de_L_law_752 : decode by_L_law 752 = .ok (.iaload, 1) := by decide +kernel
theorem de_L_law_753 : decode by_L_law 753 = .ok (.invokevirtual 107, 3) := by decide +kernel
theorem de_L_law_756 : decode by_L_law 756 = .ok (.istore 6, 2) := by decide +kernel
theorem de_L_law_758 : decode by_L_law 758 = .ok (.aload_n 2, 1) := by decide +kernel
theorem de_L_law_759 : decode by_L_law 759 = .ok (.invokevirtual 68, 3) := by decide +kernel
theorem de_L_law_762 : decode by_L_law 762 = .ok (.iload 5, 2) := by decide +kernel
theorem de_L_law_764 : decode by_L_law 764 = .ok (.if_icmp .eq 5, 3) := by decide +kernel
theorem de_L_law_767 : decode by_L_law 767 = .ok (.iconst 0, 1) := by decide +kernel
theorem de_L_law_768 : decode by_L_law 768 = .ok (.ireturn, 1) := by decide +kernel
theorem de_L_law_769 : decode by_L_law 769 = .ok (.iload 5, 2) := by decide +kernel
theorem de_L_law_771 : decode by_L_law 771 = .ok (.ifCond .ne 15, 3) := by decide +kernel
theorem de_L_law_774 : decode by_L_law 774 = .ok (.aload_n 3, 1) := by decide +kernel
theorem de_L_law_775 : decode by_L_law 775 = .ok (.iconst 0, 1) := by decide +kernel
theorem de_L_law_776 : decode by_L_law 776 = .ok (.laload, 1) := by decide +kernel
theorem de_L_law_777 : decode by_L_law 777 = .ok (.iload 6, 2) := by decide +kernel
theorem de_L_law_779 : decode by_L_law 779 = .ok (.i2l, 1) := by decide +kernel
theorem de_L_law_780 : decode by_L_law 780 = .ok (.lcmp, 1) := by decide +kernel
theorem de_L_law_781 : decode by_L_law 781 = .ok (.ifCond .eq 5, 3) := by decide +kernel
theorem de_L_law_784 : decode by_L_law 784 = .ok (.iconst 0, 1) := by decide +kernel
theorem de_L_law_785 : decode by_L_law 785 = .ok (.ireturn, 1) := by decide +kernel
theorem de_L_law_786 : decode by_L_law 786 = .ok (.goto 183, 3) := by decide +kernel
theorem de_L_law_789 : decode by_L_law 789 = .ok (.aload_n 1, 1) := by decide +kernel
theorem de_L_law_790 : decode by_L_law 790 = .ok (.aload_n 0, 1) := by decide +kernel
theorem de_L_law_791 : decode by_L_law 791 = .ok (.iload 4, 2) := by decide +kernel
theorem de_L_law_793 : decode by_L_law 793 = .ok (.iconst 1, 1) := by decide +kernel
theorem de_L_law_794 : decode by_L_law 794 = .ok (.iadd, 1) := by decide +kernel
theorem de_L_law_795 : decode by_L_law 795 = .ok (.iaload, 1) := by decide +kernel
theorem de_L_law_796 : decode by_L_law 796 = .ok (.aload_n 3, 1) := by decide +kernel
theorem de_L_law_797 : decode by_L_law 797 = .ok (.invokestatic 108, 3) := by decide +kernel
theorem de_L_law_800 : decode by_L_law 800 = .ok (.istore 5, 2) := by decide +kernel
theorem de_L_law_802 : decode by_L_law 802 = .ok (.aload_n 2, 1) := by decide +kernel
theorem de_L_law_803 : decode by_L_law 803 = .ok (.aload_n 0, 1) := by decide +kernel
theorem de_L_law_804 : decode by_L_law 804 = .ok (.iload 4, 2) := by decide +kernel
theorem de_L_law_806 : decode by_L_law 806 = .ok (.iconst 1, 1) := by decide +kernel
theorem de_L_law_807 : decode by_L_law 807 = .ok (.iadd, 1) := by decide +kernel
theorem de_L_law_808 : decode by_L_law 808 = .ok (.iaload, 1) := by decide +kernel
theorem de_L_law_809 : decode by_L_law 809 = .ok (.invokevirtual 110, 3) := by decide +kernel
theorem de_L_law_812 : decode by_L_law 812 = .ok (.istore 6, 2) := by decide +kernel
theorem de_L_law_814 : decode by_L_law 814 = .ok (.aload_n 2, 1) := by decide +kernel
theorem de_L_law_815 : decode by_L_law 815 = .ok (.invokevirtual 68, 3) := by decide +kernel
theorem de_L_law_818 : decode by_L_law 818 = .ok (.iload 5, 2) := by decide +kernel
theorem de_L_law_820 : decode by_L_law 820 = .ok (.if_icmp .eq 5, 3) := by decide +kernel
theorem de_L_law_823 : decode by_L_law 823 = .ok (.iconst 0, 1) := by decide +kernel
theorem de_L_law_824 : decode by_L_law 824 = .ok (.ireturn, 1) := by decide +kernel
theorem de_L_law_825 : decode by_L_law 825 = .ok (.iload 5, 2) := by decide +kernel
theorem de_L_law_827 : decode by_L_law 827 = .ok (.ifCond .ne 15, 3) := by decide +kernel
theorem de_L_law_830 : decode by_L_law 830 = .ok (.aload_n 3, 1) := by decide +kernel
theorem de_L_law_831 : decode by_L_law 831 = .ok (.iconst 0, 1) := by decide +kernel
theorem de_L_law_832 : decode by_L_law 832 = .ok (.laload, 1) := by decide +kernel
theorem de_L_law_833 : decode by_L_law 833 = .ok (.iload 6, 2) := by decide +kernel
theorem de_L_law_835 : decode by_L_law 835 = .ok (.i2l, 1) := by decide +kernel
theorem de_L_law_836 : decode by_L_law 836 = .ok (.lcmp, 1) := by decide +kernel
theorem de_L_law_837 : decode by_L_law 837 = .ok (.ifCond .eq 5, 3) := by decide +kernel
theorem de_L_law_840 : decode by_L_law 840 = .ok (.iconst 0, 1) := by decide +kernel
theorem de_L_law_841 : decode by_L_law 841 = .ok (.ireturn, 1) := by decide +kernel
theorem de_L_law_842 : decode by_L_law 842 = .ok (.goto 127, 3) := by decide +kernel
theorem de_L_law_845 : decode by_L_law 845 = .ok (.aload_n 1, 1) := by decide +kernel
theorem de_L_law_846 : decode by_L_law 846 = .ok (.aload_n 0, 1) := by decide +kernel
theorem de_L_law_847 : decode by_L_law 847 = .ok (.iload 4, 2) := by decide +kernel
theorem de_L_law_849 : decode by_L_law 849 = .ok (.iconst 1, 1) := by decide +kernel
theorem de_L_law_850 : decode by_L_law 850 = .ok (.iadd, 1) := by decide +kernel
theorem de_L_law_851 : decode by_L_law 851 = .ok (.iaload, 1) := by decide +kernel
theorem de_L_law_852 : decode by_L_law 852 = .ok (.aload_n 0, 1) := by decide +kernel
theorem de_L_law_853 : decode by_L_law 853 = .ok (.iload 4, 2) := by decide +kernel
theorem de_L_law_855 : decode by_L_law 855 = .ok (.iconst 2, 1) := by decide +kernel
theorem de_L_law_856 : decode by_L_law 856 = .ok (.iadd, 1) := by decide +kernel
theorem de_L_law_857 : decode by_L_law 857 = .ok (.iaload, 1) := by decide +kernel
theorem de_L_law_858 : decode by_L_law 858 = .ok (.aload_n 3, 1) := by decide +kernel
theorem de_L_law_859 : decode by_L_law 859 = .ok (.invokestatic 111, 3) := by decide +kernel
theorem de_L_law_862 : decode by_L_law 862 = .ok (.istore 5, 2) := by decide +kernel
theorem de_L_law_864 : decode by_L_law 864 = .ok (.aload_n 2, 1) := by decide +kernel
theorem de_L_law_865 : decode by_L_law 865 = .ok (.aload_n 0, 1) := by decide +kernel
theorem de_L_law_866 : decode by_L_law 866 = .ok (.iload 4, 2) := by decide +kernel
theorem de_L_law_868 : decode by_L_law 868 = .ok (.iconst 1, 1) := by decide +kernel
theorem de_L_law_869 : decode by_L_law 869 = .ok (.iadd, 1) := by decide +kernel
theorem de_L_law_870 : decode by_L_law 870 = .ok (.iaload, 1) := by decide +kernel
theorem de_L_law_871 : decode by_L_law 871 = .ok (.aload_n 0, 1) := by decide +kernel
theorem de_L_law_872 : decode by_L_law 872 = .ok (.iload 4, 2) := by decide +kernel
theorem de_L_law_874 : decode by_L_law 874 = .ok (.iconst 2, 1) := by decide +kernel
theorem de_L_law_875 : decode by_L_law 875 = .ok (.iadd, 1) := by decide +kernel
theorem de_L_law_876 : decode by_L_law 876 = .ok (.iaload, 1) := by decide +kernel
theorem de_L_law_877 : decode by_L_law 877 = .ok (.invokevirtual 113, 3) := by decide +kernel
theorem de_L_law_880 : decode by_L_law 880 = .ok (.istore 6, 2) := by decide +kernel
theorem de_L_law_882 : decode by_L_law 882 = .ok (.aload_n 2, 1) := by decide +kernel
theorem de_L_law_883 : decode by_L_law 883 = .ok (.invokevirtual 68, 3) := by decide +kernel
theorem de_L_law_886 : decode by_L_law 886 = .ok (.iload 5, 2) := by decide +kernel
theorem de_L_law_888 : decode by_L_law 888 = .ok (.if_icmp .eq 5, 3) := by decide +kernel
theorem de_L_law_891 : decode by_L_law 891 = .ok (.iconst 0, 1) := by decide +kernel
theorem de_L_law_892 : decode by_L_law 892 = .ok (.ireturn, 1) := by decide +kernel
theorem de_L_law_893 : decode by_L_law 893 = .ok (.iload 5, 2) := by decide +kernel
theorem de_L_law_895 : decode by_L_law 895 = .ok (.ifCond .ne 15, 3) := by decide +kernel
theorem de_L_law_898 : decode by_L_law 898 = .ok (.aload_n 3, 1) := by decide +kernel
theorem de_L_law_899 : decode by_L_law 899 = .ok (.iconst 0, 1) := by decide +kernel
theorem de_L_law_900 : decode by_L_law 900 = .ok (.laload, 1) := by decide +kernel
theorem de_L_law_901 : decode by_L_law 901 = .ok (.iload 6, 2) := by decide +kernel
theorem de_L_law_903 : decode by_L_law 903 = .ok (.i2l, 1) := by decide +kernel
theorem de_L_law_904 : decode by_L_law 904 = .ok (.lcmp, 1) := by decide +kernel
theorem de_L_law_905 : decode by_L_law 905 = .ok (.ifCond .eq 5, 3) := by decide +kernel
theorem de_L_law_908 : decode by_L_law 908 = .ok (.iconst 0, 1) := by decide +kernel
theorem de_L_law_909 : decode by_L_law 909 = .ok (.ireturn, 1) := by decide +kernel
theorem de_L_law_910 : decode by_L_law 910 = .ok (.goto 59, 3) := by decide +kernel
theorem de_L_law_913 : decode by_L_law 913 = .ok (.aload_n 1, 1) := by decide +kernel
theorem de_L_law_914 : decode by_L_law 914 = .ok (.aload_n 0, 1) := by decide +kernel
theorem de_L_law_915 : decode by_L_law 915 = .ok (.iload 4, 2) := by decide +kernel
theorem de_L_law_917 : decode by_L_law 917 = .ok (.iconst 1, 1) := by decide +kernel
theorem de_L_law_918 : decode by_L_law 918 = .ok (.iadd, 1) := by decide +kernel
theorem de_L_law_919 : decode by_L_law 919 = .ok (.iaload, 1) := by decide +kernel
theorem de_L_law_920 : decode by_L_law 920 = .ok (.aload_n 3, 1) := by decide +kernel
theorem de_L_law_921 : decode by_L_law 921 = .ok (.invokestatic 114, 3) := by decide +kernel
theorem de_L_law_924 : decode by_L_law 924 = .ok (.istore 5, 2) := by decide +kernel
theorem de_L_law_926 : decode by_L_law 926 = .ok (.aload_n 2, 1) := by decide +kernel
theorem de_L_law_927 : decode by_L_law 927 = .ok (.aload_n 0, 1) := by decide +kernel
theorem de_L_law_928 : decode by_L_law 928 = .ok (.iload 4, 2) := by decide +kernel
theorem de_L_law_930 : decode by_L_law 930 = .ok (.iconst 1, 1) := by decide +kernel
theorem de_L_law_931 : decode by_L_law 931 = .ok (.iadd, 1) := by decide +kernel
theorem de_L_law_932 : decode by_L_law 932 = .ok (.iaload, 1) := by decide +kernel
theorem de_L_law_933 : decode by_L_law 933 = .ok (.invokevirtual 116, 3) := by decide +kernel
theorem de_L_law_936 : decode by_L_law 936 = .ok (.istore 6, 2) := by decide +kernel
theorem de_L_law_938 : decode by_L_law 938 = .ok (.aload_n 2, 1) := by decide +kernel
theorem de_L_law_939 : decode by_L_law 939 = .ok (.invokevirtual 68, 3) := by decide +kernel
theorem de_L_law_942 : decode by_L_law 942 = .ok (.iload 5, 2) := by decide +kernel
theorem de_L_law_944 : decode by_L_law 944 = .ok (.if_icmp .eq 5, 3) := by decide +kernel
theorem de_L_law_947 : decode by_L_law 947 = .ok (.iconst 0, 1) := by decide +kernel
theorem de_L_law_948 : decode by_L_law 948 = .ok (.ireturn, 1) := by decide +kernel
theorem de_L_law_949 : decode by_L_law 949 = .ok (.iload 5, 2) := by decide +kernel
theorem de_L_law_951 : decode by_L_law 951 = .ok (.ifCond .ne 15, 3) := by decide +kernel
theorem de_L_law_954 : decode by_L_law 954 = .ok (.aload_n 3, 1) := by decide +kernel
theorem de_L_law_955 : decode by_L_law 955 = .ok (.iconst 0, 1) := by decide +kernel
theorem de_L_law_956 : decode by_L_law 956 = .ok (.laload, 1) := by decide +kernel
theorem de_L_law_957 : decode by_L_law 957 = .ok (.iload 6, 2) := by decide +kernel
theorem de_L_law_959 : decode by_L_law 959 = .ok (.i2l, 1) := by decide +kernel
theorem de_L_law_960 : decode by_L_law 960 = .ok (.lcmp, 1) := by decide +kernel
theorem de_L_law_961 : decode by_L_law 961 = .ok (.ifCond .eq 5, 3) := by decide +kernel
theorem de_L_law_964 : decode by_L_law 964 = .ok (.iconst 0, 1) := by decide +kernel
theorem de_L_law_965 : decode by_L_law 965 = .ok (.ireturn, 1) := by decide +kernel
theorem de_L_law_966 : decode by_L_law 966 = .ok (.goto 3, 3) := by decide +kernel
theorem de_L_law_969 : decode by_L_law 969 = .ok (.iinc 4 6, 3) := by decide +kernel
theorem de_L_law_972 : decode by_L_law 972 = .ok (.goto (-949), 3) := by decide +kernel
theorem de_L_law_975 : decode by_L_law 975 = .ok (.iconst 1, 1) := by decide +kernel
theorem de_L_law_976 : decode by_L_law 976 = .ok (.ireturn, 1) := by decide +kernel
