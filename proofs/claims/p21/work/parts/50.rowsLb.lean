theorem dL_below_0 : decode cL_below 0 = .ok (.iload_n 0, 1) := by decide +kernel
theorem dL_below_1 : decode cL_below 1 = .ok (.ldc 7, 2) := by decide +kernel
theorem dL_below_3 : decode cL_below 3 = .ok (.iand, 1) := by decide +kernel
theorem dL_below_4 : decode cL_below 4 = .ok (.iload_n 1, 1) := by decide +kernel
theorem dL_below_5 : decode cL_below 5 = .ok (.irem, 1) := by decide +kernel
theorem dL_below_6 : decode cL_below 6 = .ok (.ireturn, 1) := by decide +kernel
theorem dL_cell_0 : decode cL_cell 0 = .ok (.iload_n 1, 1) := by decide +kernel
theorem dL_cell_1 : decode cL_cell 1 = .ok (.aload_n 0, 1) := by decide +kernel
theorem dL_cell_2 : decode cL_cell 2 = .ok (.arraylength, 1) := by decide +kernel
theorem dL_cell_3 : decode cL_cell 3 = .ok (.if_icmp .ge 9, 3) := by decide +kernel
theorem dL_cell_6 : decode cL_cell 6 = .ok (.aload_n 0, 1) := by decide +kernel
theorem dL_cell_7 : decode cL_cell 7 = .ok (.iload_n 1, 1) := by decide +kernel
theorem dL_cell_8 : decode cL_cell 8 = .ok (.iaload, 1) := by decide +kernel
theorem dL_cell_9 : decode cL_cell 9 = .ok (.goto 9, 3) := by decide +kernel
theorem dL_cell_12 : decode cL_cell 12 = .ok (.ldc 8, 2) := by decide +kernel
theorem dL_cell_14 : decode cL_cell 14 = .ok (.iload_n 1, 1) := by decide +kernel
theorem dL_cell_15 : decode cL_cell 15 = .ok (.iconst 3, 1) := by decide +kernel
theorem dL_cell_16 : decode cL_cell 16 = .ok (.iadd, 1) := by decide +kernel
theorem dL_cell_17 : decode cL_cell 17 = .ok (.imul, 1) := by decide +kernel
theorem dL_cell_18 : decode cL_cell 18 = .ok (.ireturn, 1) := by decide +kernel
theorem dL_with_0 : decode cL_with 0 = .ok (.aload_n 0, 1) := by decide +kernel
theorem dL_with_1 : decode cL_with 1 = .ok (.arraylength, 1) := by decide +kernel
theorem dL_with_2 : decode cL_with 2 = .ok (.iconst 1, 1) := by decide +kernel
theorem dL_with_3 : decode cL_with 3 = .ok (.iadd, 1) := by decide +kernel
theorem dL_with_4 : decode cL_with 4 = .ok (.newarray .int, 2) := by decide +kernel
theorem dL_with_6 : decode cL_with 6 = .ok (.astore_n 2, 1) := by decide +kernel
theorem dL_with_7 : decode cL_with 7 = .ok (.iconst 0, 1) := by decide +kernel
theorem dL_with_8 : decode cL_with 8 = .ok (.istore_n 3, 1) := by decide +kernel
theorem dL_with_9 : decode cL_with 9 = .ok (.iload_n 3, 1) := by decide +kernel
theorem dL_with_10 : decode cL_with 10 = .ok (.aload_n 0, 1) := by decide +kernel
theorem dL_with_11 : decode cL_with 11 = .ok (.arraylength, 1) := by decide +kernel
theorem dL_with_12 : decode cL_with 12 = .ok (.if_icmp .ge 15, 3) := by decide +kernel
theorem dL_with_15 : decode cL_with 15 = .ok (.aload_n 2, 1) := by decide +kernel
theorem dL_with_16 : decode cL_with 16 = .ok (.iload_n 3, 1) := by decide +kernel
theorem dL_with_17 : decode cL_with 17 = .ok (.aload_n 0, 1) := by decide +kernel
theorem dL_with_18 : decode cL_with 18 = .ok (.iload_n 3, 1) := by decide +kernel
theorem dL_with_19 : decode cL_with 19 = .ok (.iaload, 1) := by decide +kernel
theorem dL_with_20 : decode cL_with 20 = .ok (.iastore, 1) := by decide +kernel
theorem dL_with_21 : decode cL_with 21 = .ok (.iinc 3 1, 3) := by decide +kernel
theorem dL_with_24 : decode cL_with 24 = .ok (.goto (-15), 3) := by decide +kernel
theorem dL_with_27 : decode cL_with 27 = .ok (.aload_n 2, 1) := by decide +kernel
theorem dL_with_28 : decode cL_with 28 = .ok (.aload_n 0, 1) := by decide +kernel
theorem dL_with_29 : decode cL_with 29 = .ok (.arraylength, 1) := by decide +kernel
theorem dL_with_30 : decode cL_with 30 = .ok (.iload_n 1, 1) := by decide +kernel
theorem dL_with_31 : decode cL_with 31 = .ok (.iastore, 1) := by decide +kernel
theorem dL_with_32 : decode cL_with 32 = .ok (.aload_n 2, 1) := by decide +kernel
theorem dL_with_33 : decode cL_with 33 = .ok (.areturn, 1) := by decide +kernel
theorem dL_act_0 : decode cL_act 0 = .ok (.aload_n 1, 1) := by decide +kernel
theorem dL_act_1 : decode cL_act 1 = .ok (.getfield 9, 3) := by decide +kernel
theorem dL_act_4 : decode cL_act 4 = .ok (.arraylength, 1) := by decide +kernel
theorem dL_act_5 : decode cL_act 5 = .ok (.istore_n 3, 1) := by decide +kernel
theorem dL_act_6 : decode cL_act 6 = .ok (.aload_n 1, 1) := by decide +kernel
theorem dL_act_7 : decode cL_act 7 = .ok (.getfield 15, 3) := by decide +kernel
theorem dL_act_10 : decode cL_act 10 = .ok (.arraylength, 1) := by decide +kernel
theorem dL_act_11 : decode cL_act 11 = .ok (.istore 4, 2) := by decide +kernel
theorem dL_act_13 : decode cL_act 13 = .ok (.aload_n 1, 1) := by decide +kernel
theorem dL_act_14 : decode cL_act 14 = .ok (.getfield 19, 3) := by decide +kernel
theorem dL_act_17 : decode cL_act 17 = .ok (.arraylength, 1) := by decide +kernel
theorem dL_act_18 : decode cL_act 18 = .ok (.istore 5, 2) := by decide +kernel
theorem dL_act_20 : decode cL_act 20 = .ok (.iload 5, 2) := by decide +kernel
theorem dL_act_22 : decode cL_act 22 = .ok (.ifCond .ne 7, 3) := by decide +kernel
theorem dL_act_25 : decode cL_act 25 = .ok (.iconst 0, 1) := by decide +kernel
theorem dL_act_26 : decode cL_act 26 = .ok (.goto 11, 3) := by decide +kernel
theorem dL_act_29 : decode cL_act 29 = .ok (.iload_n 2, 1) := by decide +kernel
theorem dL_act_30 : decode cL_act 30 = .ok (.iconst 1, 1) := by decide +kernel
theorem dL_act_31 : decode cL_act 31 = .ok (.ishr, 1) := by decide +kernel
theorem dL_act_32 : decode cL_act 32 = .ok (.iload 5, 2) := by decide +kernel
theorem dL_act_34 : decode cL_act 34 = .ok (.invokestatic 23, 3) := by decide +kernel
theorem dL_act_37 : decode cL_act 37 = .ok (.istore 6, 2) := by decide +kernel
theorem dL_act_39 : decode cL_act 39 = .ok (.iload_n 2, 1) := by decide +kernel
theorem dL_act_40 : decode cL_act 40 = .ok (.iconst 3, 1) := by decide +kernel
theorem dL_act_41 : decode cL_act 41 = .ok (.ishr, 1) := by decide +kernel
theorem dL_act_42 : decode cL_act 42 = .ok (.iload_n 2, 1) := by decide +kernel
theorem dL_act_43 : decode cL_act 43 = .ok (.iconst 3, 1) := by decide +kernel
theorem dL_act_44 : decode cL_act 44 = .ok (.invokestatic 23, 3) := by decide +kernel
theorem dL_act_47 : decode cL_act 47 = .ok (.ifCond .ne 9, 3) := by decide +kernel
theorem dL_act_50 : decode cL_act 50 = .ok (.sipush 1000, 3) := by decide +kernel
theorem dL_act_53 : decode cL_act 53 = .ok (.goto 6, 3) := by decide +kernel
theorem dL_act_56 : decode cL_act 56 = .ok (.sipush 200, 3) := by decide +kernel
theorem dL_act_59 : decode cL_act 59 = .ok (.invokestatic 23, 3) := by decide +kernel
theorem dL_act_62 : decode cL_act 62 = .ok (.istore 7, 2) := by decide +kernel
theorem dL_act_64 : decode cL_act 64 = .ok (.iload_n 2, 1) := by decide +kernel
theorem dL_act_65 : decode cL_act 65 = .ok (.bipush 9, 2) := by decide +kernel
theorem dL_act_67 : decode cL_act 67 = .ok (.ishr, 1) := by decide +kernel
theorem dL_act_68 : decode cL_act 68 = .ok (.bipush 16, 2) := by decide +kernel
theorem dL_act_70 : decode cL_act 70 = .ok (.invokestatic 23, 3) := by decide +kernel
theorem dL_act_73 : decode cL_act 73 = .ok (.tableswitch 516 0 8 #[51, 111, 174, 245, 245, 317, 317, 365, 413], 51) := by decide +kernel
theorem dL_act_124 : decode cL_act 124 = .ok (.iload_n 3, 1) := by decide +kernel
theorem dL_act_125 : decode cL_act 125 = .ok (.bipush 8, 2) := by decide +kernel
theorem dL_act_127 : decode cL_act 127 = .ok (.if_icmp .ne 5, 3) := by decide +kernel
theorem dL_act_130 : decode cL_act 130 = .ok (.iconst 1, 1) := by decide +kernel
theorem dL_act_131 : decode cL_act 131 = .ok (.ireturn, 1) := by decide +kernel
theorem dL_act_132 : decode cL_act 132 = .ok (.aload_n 1, 1) := by decide +kernel
theorem dL_act_133 : decode cL_act 133 = .ok (.aload_n 1, 1) := by decide +kernel
theorem dL_act_134 : decode cL_act 134 = .ok (.getfield 9, 3) := by decide +kernel
theorem dL_act_137 : decode cL_act 137 = .ok (.iload_n 2, 1) := by decide +kernel
theorem dL_act_138 : decode cL_act 138 = .ok (.iconst 1, 1) := by decide +kernel
theorem dL_act_139 : decode cL_act 139 = .ok (.ishr, 1) := by decide +kernel
theorem dL_act_140 : decode cL_act 140 = .ok (.iload_n 2, 1) := by decide +kernel
theorem dL_act_141 : decode cL_act 141 = .ok (.iconst 2, 1) := by decide +kernel
theorem dL_act_142 : decode cL_act 142 = .ok (.invokestatic 23, 3) := by decide +kernel
theorem dL_act_145 : decode cL_act 145 = .ok (.ifCond .ne 8, 3) := by decide +kernel
theorem dL_act_148 : decode cL_act 148 = .ok (.bipush 100, 2) := by decide +kernel
theorem dL_act_150 : decode cL_act 150 = .ok (.goto 5, 3) := by decide +kernel
theorem dL_act_153 : decode cL_act 153 = .ok (.bipush 20, 2) := by decide +kernel
theorem dL_act_155 : decode cL_act 155 = .ok (.invokestatic 23, 3) := by decide +kernel
theorem dL_act_158 : decode cL_act 158 = .ok (.invokestatic 29, 3) := by decide +kernel
theorem dL_act_161 : decode cL_act 161 = .ok (.putfield 9, 3) := by decide +kernel
theorem dL_act_164 : decode cL_act 164 = .ok (.aload_n 0, 1) := by decide +kernel
theorem dL_act_165 : decode cL_act 165 = .ok (.aload_n 1, 1) := by decide +kernel
theorem dL_act_166 : decode cL_act 166 = .ok (.getfield 9, 3) := by decide +kernel
theorem dL_act_169 : decode cL_act 169 = .ok (.iload_n 3, 1) := by decide +kernel
theorem dL_act_170 : decode cL_act 170 = .ok (.iaload, 1) := by decide +kernel
theorem dL_act_171 : decode cL_act 171 = .ok (.invokevirtual 33, 3) := by decide +kernel
theorem dL_act_174 : decode cL_act 174 = .ok (.iload_n 3, 1) := by decide +kernel
theorem dL_act_175 : decode cL_act 175 = .ok (.if_icmp .ne 7, 3) := by decide +kernel
theorem dL_act_178 : decode cL_act 178 = .ok (.iconst 1, 1) := by decide +kernel
theorem dL_act_179 : decode cL_act 179 = .ok (.goto 4, 3) := by decide +kernel
theorem dL_act_182 : decode cL_act 182 = .ok (.iconst 0, 1) := by decide +kernel
theorem dL_act_183 : decode cL_act 183 = .ok (.ireturn, 1) := by decide +kernel
theorem dL_act_184 : decode cL_act 184 = .ok (.iload_n 3, 1) := by decide +kernel
theorem dL_act_185 : decode cL_act 185 = .ok (.ifCond .ne 5, 3) := by decide +kernel
theorem dL_act_188 : decode cL_act 188 = .ok (.iconst 1, 1) := by decide +kernel
theorem dL_act_189 : decode cL_act 189 = .ok (.ireturn, 1) := by decide +kernel
theorem dL_act_190 : decode cL_act 190 = .ok (.iload_n 2, 1) := by decide +kernel
theorem dL_act_191 : decode cL_act 191 = .ok (.iconst 1, 1) := by decide +kernel
theorem dL_act_192 : decode cL_act 192 = .ok (.ishr, 1) := by decide +kernel
theorem dL_act_193 : decode cL_act 193 = .ok (.iload_n 3, 1) := by decide +kernel
theorem dL_act_194 : decode cL_act 194 = .ok (.invokestatic 23, 3) := by decide +kernel
theorem dL_act_197 : decode cL_act 197 = .ok (.istore 8, 2) := by decide +kernel
theorem dL_act_199 : decode cL_act 199 = .ok (.aload_n 1, 1) := by decide +kernel
theorem dL_act_200 : decode cL_act 200 = .ok (.getfield 9, 3) := by decide +kernel
theorem dL_act_203 : decode cL_act 203 = .ok (.iload 8, 2) := by decide +kernel
theorem dL_act_205 : decode cL_act 205 = .ok (.iaload, 1) := by decide +kernel
theorem dL_act_206 : decode cL_act 206 = .ok (.istore 9, 2) := by decide +kernel
theorem dL_act_208 : decode cL_act 208 = .ok (.aload_n 1, 1) := by decide +kernel
theorem dL_act_209 : decode cL_act 209 = .ok (.getfield 9, 3) := by decide +kernel
theorem dL_act_212 : decode cL_act 212 = .ok (.iload 8, 2) := by decide +kernel
theorem dL_act_214 : decode cL_act 214 = .ok (.iload_n 2, 1) := by decide +kernel
theorem dL_act_215 : decode cL_act 215 = .ok (.iconst 2, 1) := by decide +kernel
theorem dL_act_216 : decode cL_act 216 = .ok (.ishr, 1) := by decide +kernel
theorem dL_act_217 : decode cL_act 217 = .ok (.bipush 100, 2) := by decide +kernel
theorem dL_act_219 : decode cL_act 219 = .ok (.invokestatic 23, 3) := by decide +kernel
theorem dL_act_222 : decode cL_act 222 = .ok (.iastore, 1) := by decide +kernel
theorem dL_act_223 : decode cL_act 223 = .ok (.aload_n 0, 1) := by decide +kernel
theorem dL_act_224 : decode cL_act 224 = .ok (.iload 8, 2) := by decide +kernel
theorem dL_act_226 : decode cL_act 226 = .ok (.aload_n 1, 1) := by decide +kernel
theorem dL_act_227 : decode cL_act 227 = .ok (.getfield 9, 3) := by decide +kernel
theorem dL_act_230 : decode cL_act 230 = .ok (.iload 8, 2) := by decide +kernel
theorem dL_act_232 : decode cL_act 232 = .ok (.iaload, 1) := by decide +kernel
theorem dL_act_233 : decode cL_act 233 = .ok (.invokevirtual 39, 3) := by decide +kernel
theorem dL_act_236 : decode cL_act 236 = .ok (.iload 9, 2) := by decide +kernel
theorem dL_act_238 : decode cL_act 238 = .ok (.if_icmp .ne 7, 3) := by decide +kernel
theorem dL_act_241 : decode cL_act 241 = .ok (.iconst 1, 1) := by decide +kernel
theorem dL_act_242 : decode cL_act 242 = .ok (.goto 4, 3) := by decide +kernel
theorem dL_act_245 : decode cL_act 245 = .ok (.iconst 0, 1) := by decide +kernel
theorem dL_act_246 : decode cL_act 246 = .ok (.ireturn, 1) := by decide +kernel
theorem dL_act_247 : decode cL_act 247 = .ok (.iload 4, 2) := by decide +kernel
theorem dL_act_249 : decode cL_act 249 = .ok (.iconst 5, 1) := by decide +kernel
theorem dL_act_250 : decode cL_act 250 = .ok (.if_icmp .ne 5, 3) := by decide +kernel
theorem dL_act_253 : decode cL_act 253 = .ok (.iconst 1, 1) := by decide +kernel
theorem dL_act_254 : decode cL_act 254 = .ok (.ireturn, 1) := by decide +kernel
theorem dL_act_255 : decode cL_act 255 = .ok (.iload 4, 2) := by decide +kernel
theorem dL_act_257 : decode cL_act 257 = .ok (.iconst 1, 1) := by decide +kernel
theorem dL_act_258 : decode cL_act 258 = .ok (.iadd, 1) := by decide +kernel
theorem dL_act_259 : decode cL_act 259 = .ok (.newarray .boolean, 2) := by decide +kernel
theorem dL_act_261 : decode cL_act 261 = .ok (.astore 10, 2) := by decide +kernel
theorem dL_act_263 : decode cL_act 263 = .ok (.iconst 0, 1) := by decide +kernel
theorem dL_act_264 : decode cL_act 264 = .ok (.istore 11, 2) := by decide +kernel
theorem dL_act_266 : decode cL_act 266 = .ok (.iload 11, 2) := by decide +kernel
theorem dL_act_268 : decode cL_act 268 = .ok (.iload 4, 2) := by decide +kernel
theorem dL_act_270 : decode cL_act 270 = .ok (.if_icmp .ge 21, 3) := by decide +kernel
theorem dL_act_273 : decode cL_act 273 = .ok (.aload 10, 2) := by decide +kernel
theorem dL_act_275 : decode cL_act 275 = .ok (.iload 11, 2) := by decide +kernel
theorem dL_act_277 : decode cL_act 277 = .ok (.aload_n 1, 1) := by decide +kernel
theorem dL_act_278 : decode cL_act 278 = .ok (.getfield 15, 3) := by decide +kernel
theorem dL_act_281 : decode cL_act 281 = .ok (.iload 11, 2) := by decide +kernel
theorem dL_act_283 : decode cL_act 283 = .ok (.baload, 1) := by decide +kernel
theorem dL_act_284 : decode cL_act 284 = .ok (.bastore, 1) := by decide +kernel
theorem dL_act_285 : decode cL_act 285 = .ok (.iinc 11 1, 3) := by decide +kernel
theorem dL_act_288 : decode cL_act 288 = .ok (.goto (-22), 3) := by decide +kernel
theorem dL_act_291 : decode cL_act 291 = .ok (.aload 10, 2) := by decide +kernel
theorem dL_act_293 : decode cL_act 293 = .ok (.iload 4, 2) := by decide +kernel
theorem dL_act_295 : decode cL_act 295 = .ok (.iconst 1, 1) := by decide +kernel
theorem dL_act_296 : decode cL_act 296 = .ok (.bastore, 1) := by decide +kernel
theorem dL_act_297 : decode cL_act 297 = .ok (.aload_n 1, 1) := by decide +kernel
theorem dL_act_298 : decode cL_act 298 = .ok (.aload 10, 2) := by decide +kernel
theorem dL_act_300 : decode cL_act 300 = .ok (.putfield 15, 3) := by decide +kernel
theorem dL_act_303 : decode cL_act 303 = .ok (.aload_n 0, 1) := by decide +kernel
theorem dL_act_304 : decode cL_act 304 = .ok (.invokevirtual 42, 3) := by decide +kernel
theorem dL_act_307 : decode cL_act 307 = .ok (.iload 4, 2) := by decide +kernel
theorem dL_act_309 : decode cL_act 309 = .ok (.if_icmp .ne 7, 3) := by decide +kernel
theorem dL_act_312 : decode cL_act 312 = .ok (.iconst 1, 1) := by decide +kernel
theorem dL_act_313 : decode cL_act 313 = .ok (.goto 4, 3) := by decide +kernel
theorem dL_act_316 : decode cL_act 316 = .ok (.iconst 0, 1) := by decide +kernel
theorem dL_act_317 : decode cL_act 317 = .ok (.ireturn, 1) := by decide +kernel
theorem dL_act_318 : decode cL_act 318 = .ok (.iload 4, 2) := by decide +kernel
theorem dL_act_320 : decode cL_act 320 = .ok (.ifCond .ne 5, 3) := by decide +kernel
theorem dL_act_323 : decode cL_act 323 = .ok (.iconst 1, 1) := by decide +kernel
theorem dL_act_324 : decode cL_act 324 = .ok (.ireturn, 1) := by decide +kernel
theorem dL_act_325 : decode cL_act 325 = .ok (.iload_n 2, 1) := by decide +kernel
theorem dL_act_326 : decode cL_act 326 = .ok (.iconst 1, 1) := by decide +kernel
theorem dL_act_327 : decode cL_act 327 = .ok (.ishr, 1) := by decide +kernel
theorem dL_act_328 : decode cL_act 328 = .ok (.iload 4, 2) := by decide +kernel
theorem dL_act_330 : decode cL_act 330 = .ok (.invokestatic 23, 3) := by decide +kernel
theorem dL_act_333 : decode cL_act 333 = .ok (.istore 11, 2) := by decide +kernel
theorem dL_act_335 : decode cL_act 335 = .ok (.aload_n 1, 1) := by decide +kernel
theorem dL_act_336 : decode cL_act 336 = .ok (.getfield 15, 3) := by decide +kernel
theorem dL_act_339 : decode cL_act 339 = .ok (.iload 11, 2) := by decide +kernel
theorem dL_act_341 : decode cL_act 341 = .ok (.baload, 1) := by decide +kernel
theorem dL_act_342 : decode cL_act 342 = .ok (.istore 12, 2) := by decide +kernel
theorem dL_act_344 : decode cL_act 344 = .ok (.aload_n 1, 1) := by decide +kernel
theorem dL_act_345 : decode cL_act 345 = .ok (.getfield 15, 3) := by decide +kernel
theorem dL_act_348 : decode cL_act 348 = .ok (.iload 11, 2) := by decide +kernel
theorem dL_act_350 : decode cL_act 350 = .ok (.iload_n 2, 1) := by decide +kernel
theorem dL_act_351 : decode cL_act 351 = .ok (.iconst 2, 1) := by decide +kernel
theorem dL_act_352 : decode cL_act 352 = .ok (.ishr, 1) := by decide +kernel
theorem dL_act_353 : decode cL_act 353 = .ok (.iconst 3, 1) := by decide +kernel
theorem dL_act_354 : decode cL_act 354 = .ok (.invokestatic 23, 3) := by decide +kernel
theorem dL_act_357 : decode cL_act 357 = .ok (.ifCond .le 7, 3) := by decide +kernel
theorem dL_act_360 : decode cL_act 360 = .ok (.iconst 1, 1) := by decide +kernel
theorem dL_act_361 : decode cL_act 361 = .ok (.goto 4, 3) := by decide +kernel
theorem dL_act_364 : decode cL_act 364 = .ok (.iconst 0, 1) := by decide +kernel
theorem dL_act_365 : decode cL_act 365 = .ok (.bastore, 1) := by decide +kernel
theorem dL_act_366 : decode cL_act 366 = .ok (.aload_n 0, 1) := by decide +kernel
theorem dL_act_367 : decode cL_act 367 = .ok (.iload 11, 2) := by decide +kernel
theorem dL_act_369 : decode cL_act 369 = .ok (.aload_n 1, 1) := by decide +kernel
theorem dL_act_370 : decode cL_act 370 = .ok (.getfield 15, 3) := by decide +kernel
theorem dL_act_373 : decode cL_act 373 = .ok (.iload 11, 2) := by decide +kernel
theorem dL_act_375 : decode cL_act 375 = .ok (.baload, 1) := by decide +kernel
theorem dL_act_376 : decode cL_act 376 = .ok (.invokevirtual 46, 3) := by decide +kernel
theorem dL_act_379 : decode cL_act 379 = .ok (.iload 12, 2) := by decide +kernel
theorem dL_act_381 : decode cL_act 381 = .ok (.if_icmp .ne 7, 3) := by decide +kernel
theorem dL_act_384 : decode cL_act 384 = .ok (.iconst 1, 1) := by decide +kernel
theorem dL_act_385 : decode cL_act 385 = .ok (.goto 4, 3) := by decide +kernel
theorem dL_act_388 : decode cL_act 388 = .ok (.iconst 0, 1) := by decide +kernel
theorem dL_act_389 : decode cL_act 389 = .ok (.ireturn, 1) := by decide +kernel
theorem dL_act_390 : decode cL_act 390 = .ok (.iload 5, 2) := by decide +kernel
theorem dL_act_392 : decode cL_act 392 = .ok (.ifCond .ne 5, 3) := by decide +kernel
theorem dL_act_395 : decode cL_act 395 = .ok (.iconst 1, 1) := by decide +kernel
theorem dL_act_396 : decode cL_act 396 = .ok (.ireturn, 1) := by decide +kernel
theorem dL_act_397 : decode cL_act 397 = .ok (.aload_n 1, 1) := by decide +kernel
theorem dL_act_398 : decode cL_act 398 = .ok (.getfield 19, 3) := by decide +kernel
theorem dL_act_401 : decode cL_act 401 = .ok (.iload 6, 2) := by decide +kernel
theorem dL_act_403 : decode cL_act 403 = .ok (.aaload, 1) := by decide +kernel
theorem dL_act_404 : decode cL_act 404 = .ok (.iconst 2, 1) := by decide +kernel
theorem dL_act_405 : decode cL_act 405 = .ok (.iaload, 1) := by decide +kernel
theorem dL_act_406 : decode cL_act 406 = .ok (.istore 13, 2) := by decide +kernel
theorem dL_act_408 : decode cL_act 408 = .ok (.aload_n 1, 1) := by decide +kernel
theorem dL_act_409 : decode cL_act 409 = .ok (.getfield 19, 3) := by decide +kernel
theorem dL_act_412 : decode cL_act 412 = .ok (.iload 6, 2) := by decide +kernel
theorem dL_act_414 : decode cL_act 414 = .ok (.aaload, 1) := by decide +kernel
theorem dL_act_415 : decode cL_act 415 = .ok (.iconst 2, 1) := by decide +kernel
theorem dL_act_416 : decode cL_act 416 = .ok (.iload 7, 2) := by decide +kernel
theorem dL_act_418 : decode cL_act 418 = .ok (.iastore, 1) := by decide +kernel
theorem dL_act_419 : decode cL_act 419 = .ok (.aload_n 0, 1) := by decide +kernel
theorem dL_act_420 : decode cL_act 420 = .ok (.iload 6, 2) := by decide +kernel
theorem dL_act_422 : decode cL_act 422 = .ok (.iload 7, 2) := by decide +kernel
theorem dL_act_424 : decode cL_act 424 = .ok (.invokevirtual 50, 3) := by decide +kernel
theorem dL_act_427 : decode cL_act 427 = .ok (.iload 13, 2) := by decide +kernel
theorem dL_act_429 : decode cL_act 429 = .ok (.if_icmp .ne 7, 3) := by decide +kernel
theorem dL_act_432 : decode cL_act 432 = .ok (.iconst 1, 1) := by decide +kernel
theorem dL_act_433 : decode cL_act 433 = .ok (.goto 4, 3) := by decide +kernel
theorem dL_act_436 : decode cL_act 436 = .ok (.iconst 0, 1) := by decide +kernel
theorem dL_act_437 : decode cL_act 437 = .ok (.ireturn, 1) := by decide +kernel
theorem dL_act_438 : decode cL_act 438 = .ok (.iload 5, 2) := by decide +kernel
theorem dL_act_440 : decode cL_act 440 = .ok (.ifCond .ne 5, 3) := by decide +kernel
theorem dL_act_443 : decode cL_act 443 = .ok (.iconst 1, 1) := by decide +kernel
theorem dL_act_444 : decode cL_act 444 = .ok (.ireturn, 1) := by decide +kernel
theorem dL_act_445 : decode cL_act 445 = .ok (.aload_n 1, 1) := by decide +kernel
theorem dL_act_446 : decode cL_act 446 = .ok (.getfield 19, 3) := by decide +kernel
theorem dL_act_449 : decode cL_act 449 = .ok (.iload 6, 2) := by decide +kernel
theorem dL_act_451 : decode cL_act 451 = .ok (.aaload, 1) := by decide +kernel
theorem dL_act_452 : decode cL_act 452 = .ok (.iconst 3, 1) := by decide +kernel
theorem dL_act_453 : decode cL_act 453 = .ok (.iaload, 1) := by decide +kernel
theorem dL_act_454 : decode cL_act 454 = .ok (.istore 14, 2) := by decide +kernel
theorem dL_act_456 : decode cL_act 456 = .ok (.aload_n 1, 1) := by decide +kernel
theorem dL_act_457 : decode cL_act 457 = .ok (.getfield 19, 3) := by decide +kernel
theorem dL_act_460 : decode cL_act 460 = .ok (.iload 6, 2) := by decide +kernel
theorem dL_act_462 : decode cL_act 462 = .ok (.aaload, 1) := by decide +kernel
theorem dL_act_463 : decode cL_act 463 = .ok (.iconst 3, 1) := by decide +kernel
theorem dL_act_464 : decode cL_act 464 = .ok (.iload 7, 2) := by decide +kernel
theorem dL_act_466 : decode cL_act 466 = .ok (.iastore, 1) := by decide +kernel
theorem dL_act_467 : decode cL_act 467 = .ok (.aload_n 0, 1) := by decide +kernel
theorem dL_act_468 : decode cL_act 468 = .ok (.iload 6, 2) := by decide +kernel
theorem dL_act_470 : decode cL_act 470 = .ok (.iload 7, 2) := by decide +kernel
theorem dL_act_472 : decode cL_act 472 = .ok (.invokevirtual 53, 3) := by decide +kernel
theorem dL_act_475 : decode cL_act 475 = .ok (.iload 14, 2) := by decide +kernel
theorem dL_act_477 : decode cL_act 477 = .ok (.if_icmp .ne 7, 3) := by decide +kernel
theorem dL_act_480 : decode cL_act 480 = .ok (.iconst 1, 1) := by decide +kernel
theorem dL_act_481 : decode cL_act 481 = .ok (.goto 4, 3) := by decide +kernel
theorem dL_act_484 : decode cL_act 484 = .ok (.iconst 0, 1) := by decide +kernel
theorem dL_act_485 : decode cL_act 485 = .ok (.ireturn, 1) := by decide +kernel
theorem dL_act_486 : decode cL_act 486 = .ok (.iload 5, 2) := by decide +kernel
theorem dL_act_488 : decode cL_act 488 = .ok (.ifCond .eq 24, 3) := by decide +kernel
theorem dL_act_491 : decode cL_act 491 = .ok (.aload_n 1, 1) := by decide +kernel
theorem dL_act_492 : decode cL_act 492 = .ok (.getfield 19, 3) := by decide +kernel
theorem dL_act_495 : decode cL_act 495 = .ok (.iload 6, 2) := by decide +kernel
theorem dL_act_497 : decode cL_act 497 = .ok (.aaload, 1) := by decide +kernel
theorem dL_act_498 : decode cL_act 498 = .ok (.iconst 4, 1) := by decide +kernel
theorem dL_act_499 : decode cL_act 499 = .ok (.iaload, 1) := by decide +kernel
theorem dL_act_500 : decode cL_act 500 = .ok (.iconst 1, 1) := by decide +kernel
theorem dL_act_501 : decode cL_act 501 = .ok (.if_icmp .eq 11, 3) := by decide +kernel
theorem dL_act_504 : decode cL_act 504 = .ok (.iload_n 2, 1) := by decide +kernel
theorem dL_act_505 : decode cL_act 505 = .ok (.iconst 3, 1) := by decide +kernel
theorem dL_act_506 : decode cL_act 506 = .ok (.invokestatic 23, 3) := by decide +kernel
theorem dL_act_509 : decode cL_act 509 = .ok (.ifCond .le 5, 3) := by decide +kernel
theorem dL_act_512 : decode cL_act 512 = .ok (.iconst 1, 1) := by decide +kernel
theorem dL_act_513 : decode cL_act 513 = .ok (.ireturn, 1) := by decide +kernel
theorem dL_act_514 : decode cL_act 514 = .ok (.aload_n 1, 1) := by decide +kernel
theorem dL_act_515 : decode cL_act 515 = .ok (.getfield 19, 3) := by decide +kernel
theorem dL_act_518 : decode cL_act 518 = .ok (.iload 6, 2) := by decide +kernel
theorem dL_act_520 : decode cL_act 520 = .ok (.aaload, 1) := by decide +kernel
theorem dL_act_521 : decode cL_act 521 = .ok (.iconst 4, 1) := by decide +kernel
theorem dL_act_522 : decode cL_act 522 = .ok (.iconst 1, 1) := by decide +kernel
theorem dL_act_523 : decode cL_act 523 = .ok (.iastore, 1) := by decide +kernel
theorem dL_act_524 : decode cL_act 524 = .ok (.iconst 0, 1) := by decide +kernel
theorem dL_act_525 : decode cL_act 525 = .ok (.istore 15, 2) := by decide +kernel
theorem dL_act_527 : decode cL_act 527 = .ok (.aload_n 1, 1) := by decide +kernel
theorem dL_act_528 : decode cL_act 528 = .ok (.getfield 19, 3) := by decide +kernel
theorem dL_act_531 : decode cL_act 531 = .ok (.astore 16, 2) := by decide +kernel
theorem dL_act_533 : decode cL_act 533 = .ok (.aload 16, 2) := by decide +kernel
theorem dL_act_535 : decode cL_act 535 = .ok (.arraylength, 1) := by decide +kernel
theorem dL_act_536 : decode cL_act 536 = .ok (.istore 17, 2) := by decide +kernel
theorem dL_act_538 : decode cL_act 538 = .ok (.iconst 0, 1) := by decide +kernel
theorem dL_act_539 : decode cL_act 539 = .ok (.istore 18, 2) := by decide +kernel
theorem dL_act_541 : decode cL_act 541 = .ok (.iload 18, 2) := by decide +kernel
theorem dL_act_543 : decode cL_act 543 = .ok (.iload 17, 2) := by decide +kernel
theorem dL_act_545 : decode cL_act 545 = .ok (.if_icmp .ge 27, 3) := by decide +kernel
theorem dL_act_548 : decode cL_act 548 = .ok (.aload 16, 2) := by decide +kernel
theorem dL_act_550 : decode cL_act 550 = .ok (.iload 18, 2) := by decide +kernel
theorem dL_act_552 : decode cL_act 552 = .ok (.aaload, 1) := by decide +kernel
theorem dL_act_553 : decode cL_act 553 = .ok (.astore 19, 2) := by decide +kernel
theorem dL_act_555 : decode cL_act 555 = .ok (.iload 15, 2) := by decide +kernel
theorem dL_act_557 : decode cL_act 557 = .ok (.iconst 1, 1) := by decide +kernel
theorem dL_act_558 : decode cL_act 558 = .ok (.aload 19, 2) := by decide +kernel
theorem dL_act_560 : decode cL_act 560 = .ok (.iconst 4, 1) := by decide +kernel
theorem dL_act_561 : decode cL_act 561 = .ok (.iaload, 1) := by decide +kernel
theorem dL_act_562 : decode cL_act 562 = .ok (.isub, 1) := by decide +kernel
theorem dL_act_563 : decode cL_act 563 = .ok (.iadd, 1) := by decide +kernel
theorem dL_act_564 : decode cL_act 564 = .ok (.istore 15, 2) := by decide +kernel
theorem dL_act_566 : decode cL_act 566 = .ok (.iinc 18 1, 3) := by decide +kernel
theorem dL_act_569 : decode cL_act 569 = .ok (.goto (-28), 3) := by decide +kernel
theorem dL_act_572 : decode cL_act 572 = .ok (.aload_n 0, 1) := by decide +kernel
theorem dL_act_573 : decode cL_act 573 = .ok (.iload 6, 2) := by decide +kernel
theorem dL_act_575 : decode cL_act 575 = .ok (.invokevirtual 56, 3) := by decide +kernel
theorem dL_act_578 : decode cL_act 578 = .ok (.iload 15, 2) := by decide +kernel
theorem dL_act_580 : decode cL_act 580 = .ok (.if_icmp .ne 7, 3) := by decide +kernel
theorem dL_act_583 : decode cL_act 583 = .ok (.iconst 1, 1) := by decide +kernel
theorem dL_act_584 : decode cL_act 584 = .ok (.goto 4, 3) := by decide +kernel
theorem dL_act_587 : decode cL_act 587 = .ok (.iconst 0, 1) := by decide +kernel
theorem dL_act_588 : decode cL_act 588 = .ok (.ireturn, 1) := by decide +kernel
theorem dL_act_589 : decode cL_act 589 = .ok (.iload_n 3, 1) := by decide +kernel
theorem dL_act_590 : decode cL_act 590 = .ok (.ifCond .eq 15, 3) := by decide +kernel
theorem dL_act_593 : decode cL_act 593 = .ok (.iload 4, 2) := by decide +kernel
theorem dL_act_595 : decode cL_act 595 = .ok (.ifCond .eq 10, 3) := by decide +kernel
theorem dL_act_598 : decode cL_act 598 = .ok (.iload 5, 2) := by decide +kernel
theorem dL_act_600 : decode cL_act 600 = .ok (.bipush 12, 2) := by decide +kernel
theorem dL_act_602 : decode cL_act 602 = .ok (.if_icmp .ne 5, 3) := by decide +kernel
theorem dL_act_605 : decode cL_act 605 = .ok (.iconst 1, 1) := by decide +kernel
theorem dL_act_606 : decode cL_act 606 = .ok (.ireturn, 1) := by decide +kernel
theorem dL_act_607 : decode cL_act 607 = .ok (.iload_n 2, 1) := by decide +kernel
theorem dL_act_608 : decode cL_act 608 = .ok (.iconst 4, 1) := by decide +kernel
theorem dL_act_609 : decode cL_act 609 = .ok (.ishr, 1) := by decide +kernel
theorem dL_act_610 : decode cL_act 610 = .ok (.iconst 3, 1) := by decide +kernel
theorem dL_act_611 : decode cL_act 611 = .ok (.invokestatic 23, 3) := by decide +kernel
theorem dL_act_614 : decode cL_act 614 = .ok (.ifCond .ne 15, 3) := by decide +kernel
theorem dL_act_617 : decode cL_act 617 = .ok (.iconst 1, 1) := by decide +kernel
theorem dL_act_618 : decode cL_act 618 = .ok (.iload_n 2, 1) := by decide +kernel
theorem dL_act_619 : decode cL_act 619 = .ok (.iconst 1, 1) := by decide +kernel
theorem dL_act_620 : decode cL_act 620 = .ok (.ishr, 1) := by decide +kernel
theorem dL_act_621 : decode cL_act 621 = .ok (.iload_n 3, 1) := by decide +kernel
theorem dL_act_622 : decode cL_act 622 = .ok (.invokestatic 23, 3) := by decide +kernel
theorem dL_act_625 : decode cL_act 625 = .ok (.ishl, 1) := by decide +kernel
theorem dL_act_626 : decode cL_act 626 = .ok (.goto 16, 3) := by decide +kernel
theorem dL_act_629 : decode cL_act 629 = .ok (.iconst 1, 1) := by decide +kernel
theorem dL_act_630 : decode cL_act 630 = .ok (.iload_n 2, 1) := by decide +kernel
theorem dL_act_631 : decode cL_act 631 = .ok (.iconst 2, 1) := by decide +kernel
theorem dL_act_632 : decode cL_act 632 = .ok (.ishr, 1) := by decide +kernel
theorem dL_act_633 : decode cL_act 633 = .ok (.iconst 1, 1) := by decide +kernel
theorem dL_act_634 : decode cL_act 634 = .ok (.iload_n 3, 1) := by decide +kernel
theorem dL_act_635 : decode cL_act 635 = .ok (.ishl, 1) := by decide +kernel
theorem dL_act_636 : decode cL_act 636 = .ok (.iconst 1, 1) := by decide +kernel
theorem dL_act_637 : decode cL_act 637 = .ok (.isub, 1) := by decide +kernel
theorem dL_act_638 : decode cL_act 638 = .ok (.invokestatic 23, 3) := by decide +kernel
theorem dL_act_641 : decode cL_act 641 = .ok (.iadd, 1) := by decide +kernel
theorem dL_act_642 : decode cL_act 642 = .ok (.istore 16, 2) := by decide +kernel
theorem dL_act_644 : decode cL_act 644 = .ok (.iload_n 2, 1) := by decide +kernel
theorem dL_act_645 : decode cL_act 645 = .ok (.iconst 5, 1) := by decide +kernel
theorem dL_act_646 : decode cL_act 646 = .ok (.ishr, 1) := by decide +kernel
theorem dL_act_647 : decode cL_act 647 = .ok (.iload 4, 2) := by decide +kernel
theorem dL_act_649 : decode cL_act 649 = .ok (.invokestatic 23, 3) := by decide +kernel
theorem dL_act_652 : decode cL_act 652 = .ok (.istore 17, 2) := by decide +kernel
theorem dL_act_654 : decode cL_act 654 = .ok (.iload 5, 2) := by decide +kernel
theorem dL_act_656 : decode cL_act 656 = .ok (.iconst 1, 1) := by decide +kernel
theorem dL_act_657 : decode cL_act 657 = .ok (.iadd, 1) := by decide +kernel
theorem dL_act_658 : decode cL_act 658 = .ok (.anewarray 59, 3) := by decide +kernel
theorem dL_act_661 : decode cL_act 661 = .ok (.astore 18, 2) := by decide +kernel
theorem dL_act_663 : decode cL_act 663 = .ok (.iconst 0, 1) := by decide +kernel
theorem dL_act_664 : decode cL_act 664 = .ok (.istore 19, 2) := by decide +kernel
theorem dL_act_666 : decode cL_act 666 = .ok (.iload 19, 2) := by decide +kernel
theorem dL_act_668 : decode cL_act 668 = .ok (.iload 5, 2) := by decide +kernel
theorem dL_act_670 : decode cL_act 670 = .ok (.if_icmp .ge 21, 3) := by decide +kernel
theorem dL_act_673 : decode cL_act 673 = .ok (.aload 18, 2) := by decide +kernel
theorem dL_act_675 : decode cL_act 675 = .ok (.iload 19, 2) := by decide +kernel
theorem dL_act_677 : decode cL_act 677 = .ok (.aload_n 1, 1) := by decide +kernel
theorem dL_act_678 : decode cL_act 678 = .ok (.getfield 19, 3) := by decide +kernel
theorem dL_act_681 : decode cL_act 681 = .ok (.iload 19, 2) := by decide +kernel
theorem dL_act_683 : decode cL_act 683 = .ok (.aaload, 1) := by decide +kernel
theorem dL_act_684 : decode cL_act 684 = .ok (.aastore, 1) := by decide +kernel
theorem dL_act_685 : decode cL_act 685 = .ok (.iinc 19 1, 3) := by decide +kernel
theorem dL_act_688 : decode cL_act 688 = .ok (.goto (-22), 3) := by decide +kernel
theorem dL_act_691 : decode cL_act 691 = .ok (.aload 18, 2) := by decide +kernel
theorem dL_act_693 : decode cL_act 693 = .ok (.iload 5, 2) := by decide +kernel
theorem dL_act_695 : decode cL_act 695 = .ok (.iconst 5, 1) := by decide +kernel
theorem dL_act_696 : decode cL_act 696 = .ok (.newarray .int, 2) := by decide +kernel
theorem dL_act_698 : decode cL_act 698 = .ok (.dup, 1) := by decide +kernel
theorem dL_act_699 : decode cL_act 699 = .ok (.iconst 0, 1) := by decide +kernel
theorem dL_act_700 : decode cL_act 700 = .ok (.iload 17, 2) := by decide +kernel
theorem dL_act_702 : decode cL_act 702 = .ok (.iastore, 1) := by decide +kernel
theorem dL_act_703 : decode cL_act 703 = .ok (.dup, 1) := by decide +kernel
theorem dL_act_704 : decode cL_act 704 = .ok (.iconst 1, 1) := by decide +kernel
theorem dL_act_705 : decode cL_act 705 = .ok (.iload 16, 2) := by decide +kernel
theorem dL_act_707 : decode cL_act 707 = .ok (.iastore, 1) := by decide +kernel
theorem dL_act_708 : decode cL_act 708 = .ok (.dup, 1) := by decide +kernel
theorem dL_act_709 : decode cL_act 709 = .ok (.iconst 2, 1) := by decide +kernel
theorem dL_act_710 : decode cL_act 710 = .ok (.iload 7, 2) := by decide +kernel
theorem dL_act_712 : decode cL_act 712 = .ok (.iastore, 1) := by decide +kernel
theorem dL_act_713 : decode cL_act 713 = .ok (.dup, 1) := by decide +kernel
theorem dL_act_714 : decode cL_act 714 = .ok (.iconst 3, 1) := by decide +kernel
theorem dL_act_715 : decode cL_act 715 = .ok (.iload 7, 2) := by decide +kernel
theorem dL_act_717 : decode cL_act 717 = .ok (.iastore, 1) := by decide +kernel
theorem dL_act_718 : decode cL_act 718 = .ok (.dup, 1) := by decide +kernel
theorem dL_act_719 : decode cL_act 719 = .ok (.iconst 4, 1) := by decide +kernel
theorem dL_act_720 : decode cL_act 720 = .ok (.iconst 0, 1) := by decide +kernel
theorem dL_act_721 : decode cL_act 721 = .ok (.iastore, 1) := by decide +kernel
theorem dL_act_722 : decode cL_act 722 = .ok (.aastore, 1) := by decide +kernel
theorem dL_act_723 : decode cL_act 723 = .ok (.aload_n 1, 1) := by decide +kernel
theorem dL_act_724 : decode cL_act 724 = .ok (.aload 18, 2) := by decide +kernel
theorem dL_act_726 : decode cL_act 726 = .ok (.putfield 19, 3) := by decide +kernel
theorem dL_act_729 : decode cL_act 729 = .ok (.aload_n 0, 1) := by decide +kernel
theorem dL_act_730 : decode cL_act 730 = .ok (.iload 17, 2) := by decide +kernel
theorem dL_act_732 : decode cL_act 732 = .ok (.iload 16, 2) := by decide +kernel
theorem dL_act_734 : decode cL_act 734 = .ok (.iload 7, 2) := by decide +kernel
theorem dL_act_736 : decode cL_act 736 = .ok (.invokevirtual 60, 3) := by decide +kernel
theorem dL_act_739 : decode cL_act 739 = .ok (.iload 5, 2) := by decide +kernel
theorem dL_act_741 : decode cL_act 741 = .ok (.if_icmp .ne 7, 3) := by decide +kernel
theorem dL_act_744 : decode cL_act 744 = .ok (.iconst 1, 1) := by decide +kernel
theorem dL_act_745 : decode cL_act 745 = .ok (.goto 4, 3) := by decide +kernel
theorem dL_act_748 : decode cL_act 748 = .ok (.iconst 0, 1) := by decide +kernel
theorem dL_act_749 : decode cL_act 749 = .ok (.ireturn, 1) := by decide +kernel
theorem dL_build_0 : decode cL_build 0 = .ok (.new 10, 3) := by decide +kernel
theorem dL_build_3 : decode cL_build 3 = .ok (.dup, 1) := by decide +kernel
theorem dL_build_4 : decode cL_build 4 = .ok (.invokespecial 64, 3) := by decide +kernel
theorem dL_build_7 : decode cL_build 7 = .ok (.astore_n 2, 1) := by decide +kernel
theorem dL_build_8 : decode cL_build 8 = .ok (.iconst 1, 1) := by decide +kernel
theorem dL_build_9 : decode cL_build 9 = .ok (.aload_n 1, 1) := by decide +kernel
theorem dL_build_10 : decode cL_build 10 = .ok (.iconst 0, 1) := by decide +kernel
theorem dL_build_11 : decode cL_build 11 = .ok (.invokestatic 65, 3) := by decide +kernel
theorem dL_build_14 : decode cL_build 14 = .ok (.bipush 8, 2) := by decide +kernel
theorem dL_build_16 : decode cL_build 16 = .ok (.invokestatic 23, 3) := by decide +kernel
theorem dL_build_19 : decode cL_build 19 = .ok (.iadd, 1) := by decide +kernel
theorem dL_build_20 : decode cL_build 20 = .ok (.istore_n 3, 1) := by decide +kernel
theorem dL_build_21 : decode cL_build 21 = .ok (.iconst 1, 1) := by decide +kernel
theorem dL_build_22 : decode cL_build 22 = .ok (.aload_n 1, 1) := by decide +kernel
theorem dL_build_23 : decode cL_build 23 = .ok (.iconst 1, 1) := by decide +kernel
theorem dL_build_24 : decode cL_build 24 = .ok (.invokestatic 65, 3) := by decide +kernel
theorem dL_build_27 : decode cL_build 27 = .ok (.iconst 5, 1) := by decide +kernel
theorem dL_build_28 : decode cL_build 28 = .ok (.invokestatic 23, 3) := by decide +kernel
theorem dL_build_31 : decode cL_build 31 = .ok (.iadd, 1) := by decide +kernel
theorem dL_build_32 : decode cL_build 32 = .ok (.istore 4, 2) := by decide +kernel
theorem dL_build_34 : decode cL_build 34 = .ok (.iconst 0, 1) := by decide +kernel
theorem dL_build_35 : decode cL_build 35 = .ok (.istore 5, 2) := by decide +kernel
theorem dL_build_37 : decode cL_build 37 = .ok (.iload 5, 2) := by decide +kernel
theorem dL_build_39 : decode cL_build 39 = .ok (.iload_n 3, 1) := by decide +kernel
theorem dL_build_40 : decode cL_build 40 = .ok (.if_icmp .ge 69, 3) := by decide +kernel
theorem dL_build_43 : decode cL_build 43 = .ok (.aload_n 2, 1) := by decide +kernel
theorem dL_build_44 : decode cL_build 44 = .ok (.aload_n 2, 1) := by decide +kernel
theorem dL_build_45 : decode cL_build 45 = .ok (.getfield 9, 3) := by decide +kernel
theorem dL_build_48 : decode cL_build 48 = .ok (.aload_n 1, 1) := by decide +kernel
theorem dL_build_49 : decode cL_build 49 = .ok (.iconst 2, 1) := by decide +kernel
theorem dL_build_50 : decode cL_build 50 = .ok (.iload 5, 2) := by decide +kernel
theorem dL_build_52 : decode cL_build 52 = .ok (.iadd, 1) := by decide +kernel
theorem dL_build_53 : decode cL_build 53 = .ok (.invokestatic 65, 3) := by decide +kernel
theorem dL_build_56 : decode cL_build 56 = .ok (.aload_n 1, 1) := by decide +kernel
theorem dL_build_57 : decode cL_build 57 = .ok (.bipush 10, 2) := by decide +kernel
theorem dL_build_59 : decode cL_build 59 = .ok (.invokestatic 65, 3) := by decide +kernel
theorem dL_build_62 : decode cL_build 62 = .ok (.iconst 2, 1) := by decide +kernel
theorem dL_build_63 : decode cL_build 63 = .ok (.invokestatic 23, 3) := by decide +kernel
theorem dL_build_66 : decode cL_build 66 = .ok (.ifCond .ne 8, 3) := by decide +kernel
theorem dL_build_69 : decode cL_build 69 = .ok (.bipush 100, 2) := by decide +kernel
theorem dL_build_71 : decode cL_build 71 = .ok (.goto 5, 3) := by decide +kernel
theorem dL_build_74 : decode cL_build 74 = .ok (.bipush 20, 2) := by decide +kernel
theorem dL_build_76 : decode cL_build 76 = .ok (.invokestatic 23, 3) := by decide +kernel
theorem dL_build_79 : decode cL_build 79 = .ok (.invokestatic 29, 3) := by decide +kernel
theorem dL_build_82 : decode cL_build 82 = .ok (.putfield 9, 3) := by decide +kernel
theorem dL_build_85 : decode cL_build 85 = .ok (.aload_n 0, 1) := by decide +kernel
theorem dL_build_86 : decode cL_build 86 = .ok (.aload_n 2, 1) := by decide +kernel
theorem dL_build_87 : decode cL_build 87 = .ok (.getfield 9, 3) := by decide +kernel
theorem dL_build_90 : decode cL_build 90 = .ok (.iload 5, 2) := by decide +kernel
theorem dL_build_92 : decode cL_build 92 = .ok (.iaload, 1) := by decide +kernel
theorem dL_build_93 : decode cL_build 93 = .ok (.invokevirtual 33, 3) := by decide +kernel
theorem dL_build_96 : decode cL_build 96 = .ok (.iload 5, 2) := by decide +kernel
theorem dL_build_98 : decode cL_build 98 = .ok (.if_icmp .eq 5, 3) := by decide +kernel
theorem dL_build_101 : decode cL_build 101 = .ok (.aconst_null, 1) := by decide +kernel
theorem dL_build_102 : decode cL_build 102 = .ok (.areturn, 1) := by decide +kernel
theorem dL_build_103 : decode cL_build 103 = .ok (.iinc 5 1, 3) := by decide +kernel
theorem dL_build_106 : decode cL_build 106 = .ok (.goto (-69), 3) := by decide +kernel
theorem dL_build_109 : decode cL_build 109 = .ok (.aload_n 2, 1) := by decide +kernel
theorem dL_build_110 : decode cL_build 110 = .ok (.iload 4, 2) := by decide +kernel
theorem dL_build_112 : decode cL_build 112 = .ok (.newarray .boolean, 2) := by decide +kernel
theorem dL_build_114 : decode cL_build 114 = .ok (.putfield 15, 3) := by decide +kernel
theorem dL_build_117 : decode cL_build 117 = .ok (.iconst 0, 1) := by decide +kernel
theorem dL_build_118 : decode cL_build 118 = .ok (.istore 5, 2) := by decide +kernel
theorem dL_build_120 : decode cL_build 120 = .ok (.iload 5, 2) := by decide +kernel
theorem dL_build_122 : decode cL_build 122 = .ok (.iload 4, 2) := by decide +kernel
theorem dL_build_124 : decode cL_build 124 = .ok (.if_icmp .ge 28, 3) := by decide +kernel
theorem dL_build_127 : decode cL_build 127 = .ok (.aload_n 2, 1) := by decide +kernel
theorem dL_build_128 : decode cL_build 128 = .ok (.getfield 15, 3) := by decide +kernel
theorem dL_build_131 : decode cL_build 131 = .ok (.iload 5, 2) := by decide +kernel
theorem dL_build_133 : decode cL_build 133 = .ok (.iconst 1, 1) := by decide +kernel
theorem dL_build_134 : decode cL_build 134 = .ok (.bastore, 1) := by decide +kernel
theorem dL_build_135 : decode cL_build 135 = .ok (.aload_n 0, 1) := by decide +kernel
theorem dL_build_136 : decode cL_build 136 = .ok (.invokevirtual 42, 3) := by decide +kernel
theorem dL_build_139 : decode cL_build 139 = .ok (.iload 5, 2) := by decide +kernel
theorem dL_build_141 : decode cL_build 141 = .ok (.if_icmp .eq 5, 3) := by decide +kernel
theorem dL_build_144 : decode cL_build 144 = .ok (.aconst_null, 1) := by decide +kernel
theorem dL_build_145 : decode cL_build 145 = .ok (.areturn, 1) := by decide +kernel
theorem dL_build_146 : decode cL_build 146 = .ok (.iinc 5 1, 3) := by decide +kernel
theorem dL_build_149 : decode cL_build 149 = .ok (.goto (-29), 3) := by decide +kernel
theorem dL_build_152 : decode cL_build 152 = .ok (.iconst 3, 1) := by decide +kernel
theorem dL_build_153 : decode cL_build 153 = .ok (.aload_n 1, 1) := by decide +kernel
theorem dL_build_154 : decode cL_build 154 = .ok (.bipush 11, 2) := by decide +kernel
theorem dL_build_156 : decode cL_build 156 = .ok (.invokestatic 65, 3) := by decide +kernel
theorem dL_build_159 : decode cL_build 159 = .ok (.bipush 24, 2) := by decide +kernel
theorem dL_build_161 : decode cL_build 161 = .ok (.invokestatic 23, 3) := by decide +kernel
theorem dL_build_164 : decode cL_build 164 = .ok (.iadd, 1) := by decide +kernel
theorem dL_build_165 : decode cL_build 165 = .ok (.istore 5, 2) := by decide +kernel
theorem dL_build_167 : decode cL_build 167 = .ok (.iconst 0, 1) := by decide +kernel
theorem dL_build_168 : decode cL_build 168 = .ok (.istore 6, 2) := by decide +kernel
theorem dL_build_170 : decode cL_build 170 = .ok (.iload 6, 2) := by decide +kernel
theorem dL_build_172 : decode cL_build 172 = .ok (.iload 5, 2) := by decide +kernel
theorem dL_build_174 : decode cL_build 174 = .ok (.if_icmp .ge 43, 3) := by decide +kernel
theorem dL_build_177 : decode cL_build 177 = .ok (.aload_n 0, 1) := by decide +kernel
theorem dL_build_178 : decode cL_build 178 = .ok (.aload_n 2, 1) := by decide +kernel
theorem dL_build_179 : decode cL_build 179 = .ok (.aload_n 1, 1) := by decide +kernel
theorem dL_build_180 : decode cL_build 180 = .ok (.iload 6, 2) := by decide +kernel
theorem dL_build_182 : decode cL_build 182 = .ok (.bipush 16, 2) := by decide +kernel
theorem dL_build_184 : decode cL_build 184 = .ok (.irem, 1) := by decide +kernel
theorem dL_build_185 : decode cL_build 185 = .ok (.invokestatic 65, 3) := by decide +kernel
theorem dL_build_188 : decode cL_build 188 = .ok (.iload 6, 2) := by decide +kernel
theorem dL_build_190 : decode cL_build 190 = .ok (.bipush 16, 2) := by decide +kernel
theorem dL_build_192 : decode cL_build 192 = .ok (.idiv, 1) := by decide +kernel
theorem dL_build_193 : decode cL_build 193 = .ok (.iconst 3, 1) := by decide +kernel
theorem dL_build_194 : decode cL_build 194 = .ok (.imul, 1) := by decide +kernel
theorem dL_build_195 : decode cL_build 195 = .ok (.ishr, 1) := by decide +kernel
theorem dL_build_196 : decode cL_build 196 = .ok (.sipush 389, 3) := by decide +kernel
theorem dL_build_199 : decode cL_build 199 = .ok (.iload 6, 2) := by decide +kernel
theorem dL_build_201 : decode cL_build 201 = .ok (.imul, 1) := by decide +kernel
theorem dL_build_202 : decode cL_build 202 = .ok (.iadd, 1) := by decide +kernel
theorem dL_build_203 : decode cL_build 203 = .ok (.invokestatic 69, 3) := by decide +kernel
theorem dL_build_206 : decode cL_build 206 = .ok (.ifCond .ne 5, 3) := by decide +kernel
theorem dL_build_209 : decode cL_build 209 = .ok (.aconst_null, 1) := by decide +kernel
theorem dL_build_210 : decode cL_build 210 = .ok (.areturn, 1) := by decide +kernel
theorem dL_build_211 : decode cL_build 211 = .ok (.iinc 6 1, 3) := by decide +kernel
theorem dL_build_214 : decode cL_build 214 = .ok (.goto (-44), 3) := by decide +kernel
theorem dL_build_217 : decode cL_build 217 = .ok (.aload_n 2, 1) := by decide +kernel
theorem dL_build_218 : decode cL_build 218 = .ok (.areturn, 1) := by decide +kernel
theorem dL_law_0 : decode cL_law 0 = .ok (.new 34, 3) := by decide +kernel
theorem dL_law_3 : decode cL_law 3 = .ok (.dup, 1) := by decide +kernel
theorem dL_law_4 : decode cL_law 4 = .ok (.invokespecial 73, 3) := by decide +kernel
theorem dL_law_7 : decode cL_law 7 = .ok (.astore_n 1, 1) := by decide +kernel
theorem dL_law_8 : decode cL_law 8 = .ok (.aload_n 1, 1) := by decide +kernel
theorem dL_law_9 : decode cL_law 9 = .ok (.aload_n 0, 1) := by decide +kernel
theorem dL_law_10 : decode cL_law 10 = .ok (.invokestatic 74, 3) := by decide +kernel
theorem dL_law_13 : decode cL_law 13 = .ok (.astore_n 2, 1) := by decide +kernel
theorem dL_law_14 : decode cL_law 14 = .ok (.aload_n 2, 1) := by decide +kernel
theorem dL_law_15 : decode cL_law 15 = .ok (.ifnonnull 5, 3) := by decide +kernel
theorem dL_law_18 : decode cL_law 18 = .ok (.iconst 0, 1) := by decide +kernel
theorem dL_law_19 : decode cL_law 19 = .ok (.ireturn, 1) := by decide +kernel
theorem dL_law_20 : decode cL_law 20 = .ok (.iconst 0, 1) := by decide +kernel
theorem dL_law_21 : decode cL_law 21 = .ok (.istore_n 3, 1) := by decide +kernel
theorem dL_law_22 : decode cL_law 22 = .ok (.iload_n 3, 1) := by decide +kernel
theorem dL_law_23 : decode cL_law 23 = .ok (.bipush 8, 2) := by decide +kernel
theorem dL_law_25 : decode cL_law 25 = .ok (.if_icmp .ge 790, 3) := by decide +kernel
theorem dL_law_28 : decode cL_law 28 = .ok (.aload_n 0, 1) := by decide +kernel
theorem dL_law_29 : decode cL_law 29 = .ok (.iload_n 3, 1) := by decide +kernel
theorem dL_law_30 : decode cL_law 30 = .ok (.invokestatic 65, 3) := by decide +kernel
theorem dL_law_33 : decode cL_law 33 = .ok (.sipush 389, 3) := by decide +kernel
theorem dL_law_36 : decode cL_law 36 = .ok (.iload_n 3, 1) := by decide +kernel
theorem dL_law_37 : decode cL_law 37 = .ok (.imul, 1) := by decide +kernel
theorem dL_law_38 : decode cL_law 38 = .ok (.iadd, 1) := by decide +kernel
theorem dL_law_39 : decode cL_law 39 = .ok (.istore 4, 2) := by decide +kernel
theorem dL_law_41 : decode cL_law 41 = .ok (.iconst 0, 1) := by decide +kernel
theorem dL_law_42 : decode cL_law 42 = .ok (.istore 5, 2) := by decide +kernel
theorem dL_law_44 : decode cL_law 44 = .ok (.iload 5, 2) := by decide +kernel
theorem dL_law_46 : decode cL_law 46 = .ok (.iconst 2, 1) := by decide +kernel
theorem dL_law_47 : decode cL_law 47 = .ok (.if_icmp .ge 33, 3) := by decide +kernel
theorem dL_law_50 : decode cL_law 50 = .ok (.aload_n 1, 1) := by decide +kernel
theorem dL_law_51 : decode cL_law 51 = .ok (.aload_n 2, 1) := by decide +kernel
theorem dL_law_52 : decode cL_law 52 = .ok (.iload 4, 2) := by decide +kernel
theorem dL_law_54 : decode cL_law 54 = .ok (.iconst 2, 1) := by decide +kernel
theorem dL_law_55 : decode cL_law 55 = .ok (.iload 5, 2) := by decide +kernel
theorem dL_law_57 : decode cL_law 57 = .ok (.imul, 1) := by decide +kernel
theorem dL_law_58 : decode cL_law 58 = .ok (.ishr, 1) := by decide +kernel
theorem dL_law_59 : decode cL_law 59 = .ok (.sipush 277, 3) := by decide +kernel
theorem dL_law_62 : decode cL_law 62 = .ok (.iload 5, 2) := by decide +kernel
theorem dL_law_64 : decode cL_law 64 = .ok (.imul, 1) := by decide +kernel
theorem dL_law_65 : decode cL_law 65 = .ok (.iadd, 1) := by decide +kernel
theorem dL_law_66 : decode cL_law 66 = .ok (.invokestatic 69, 3) := by decide +kernel
theorem dL_law_69 : decode cL_law 69 = .ok (.ifCond .ne 5, 3) := by decide +kernel
theorem dL_law_72 : decode cL_law 72 = .ok (.iconst 0, 1) := by decide +kernel
theorem dL_law_73 : decode cL_law 73 = .ok (.ireturn, 1) := by decide +kernel
theorem dL_law_74 : decode cL_law 74 = .ok (.iinc 5 1, 3) := by decide +kernel
theorem dL_law_77 : decode cL_law 77 = .ok (.goto (-33), 3) := by decide +kernel
theorem dL_law_80 : decode cL_law 80 = .ok (.aload_n 1, 1) := by decide +kernel
theorem dL_law_81 : decode cL_law 81 = .ok (.iconst 2, 1) := by decide +kernel
theorem dL_law_82 : decode cL_law 82 = .ok (.invokevirtual 78, 3) := by decide +kernel
theorem dL_law_85 : decode cL_law 85 = .ok (.istore 5, 2) := by decide +kernel
theorem dL_law_87 : decode cL_law 87 = .ok (.aload_n 1, 1) := by decide +kernel
theorem dL_law_88 : decode cL_law 88 = .ok (.iconst 1, 1) := by decide +kernel
theorem dL_law_89 : decode cL_law 89 = .ok (.invokevirtual 78, 3) := by decide +kernel
theorem dL_law_92 : decode cL_law 92 = .ok (.istore 6, 2) := by decide +kernel
theorem dL_law_94 : decode cL_law 94 = .ok (.iconst 0, 1) := by decide +kernel
theorem dL_law_95 : decode cL_law 95 = .ok (.istore 7, 2) := by decide +kernel
theorem dL_law_97 : decode cL_law 97 = .ok (.iconst 0, 1) := by decide +kernel
theorem dL_law_98 : decode cL_law 98 = .ok (.istore 8, 2) := by decide +kernel
theorem dL_law_100 : decode cL_law 100 = .ok (.iconst 0, 1) := by decide +kernel
theorem dL_law_101 : decode cL_law 101 = .ok (.istore 9, 2) := by decide +kernel
theorem dL_law_103 : decode cL_law 103 = .ok (.iconst 0, 1) := by decide +kernel
theorem dL_law_104 : decode cL_law 104 = .ok (.istore 10, 2) := by decide +kernel
theorem dL_law_106 : decode cL_law 106 = .ok (.iload 6, 2) := by decide +kernel
theorem dL_law_108 : decode cL_law 108 = .ok (.newarray .int, 2) := by decide +kernel
theorem dL_law_110 : decode cL_law 110 = .ok (.astore 11, 2) := by decide +kernel
theorem dL_law_112 : decode cL_law 112 = .ok (.iconst 0, 1) := by decide +kernel
theorem dL_law_113 : decode cL_law 113 = .ok (.istore 12, 2) := by decide +kernel
theorem dL_law_115 : decode cL_law 115 = .ok (.iload 12, 2) := by decide +kernel
theorem dL_law_117 : decode cL_law 117 = .ok (.iload 5, 2) := by decide +kernel
theorem dL_law_119 : decode cL_law 119 = .ok (.if_icmp .ge 171, 3) := by decide +kernel
theorem dL_law_122 : decode cL_law 122 = .ok (.aload_n 1, 1) := by decide +kernel
theorem dL_law_123 : decode cL_law 123 = .ok (.iload 12, 2) := by decide +kernel
theorem dL_law_125 : decode cL_law 125 = .ok (.iconst 0, 1) := by decide +kernel
theorem dL_law_126 : decode cL_law 126 = .ok (.invokevirtual 81, 3) := by decide +kernel
theorem dL_law_129 : decode cL_law 129 = .ok (.istore 13, 2) := by decide +kernel
theorem dL_law_131 : decode cL_law 131 = .ok (.aload_n 1, 1) := by decide +kernel
theorem dL_law_132 : decode cL_law 132 = .ok (.iload 12, 2) := by decide +kernel
theorem dL_law_134 : decode cL_law 134 = .ok (.bipush 6, 2) := by decide +kernel
theorem dL_law_136 : decode cL_law 136 = .ok (.invokevirtual 81, 3) := by decide +kernel
theorem dL_law_139 : decode cL_law 139 = .ok (.iconst 1, 1) := by decide +kernel
theorem dL_law_140 : decode cL_law 140 = .ok (.if_icmp .ne 36, 3) := by decide +kernel
theorem dL_law_143 : decode cL_law 143 = .ok (.aload_n 1, 1) := by decide +kernel
theorem dL_law_144 : decode cL_law 144 = .ok (.iload 12, 2) := by decide +kernel
theorem dL_law_146 : decode cL_law 146 = .ok (.iconst 4, 1) := by decide +kernel
theorem dL_law_147 : decode cL_law 147 = .ok (.invokevirtual 81, 3) := by decide +kernel
theorem dL_law_150 : decode cL_law 150 = .ok (.iconst 1, 1) := by decide +kernel
theorem dL_law_151 : decode cL_law 151 = .ok (.if_icmp .eq 23, 3) := by decide +kernel
theorem dL_law_154 : decode cL_law 154 = .ok (.aload_n 1, 1) := by decide +kernel
theorem dL_law_155 : decode cL_law 155 = .ok (.iload 12, 2) := by decide +kernel
theorem dL_law_157 : decode cL_law 157 = .ok (.iconst 5, 1) := by decide +kernel
theorem dL_law_158 : decode cL_law 158 = .ok (.invokevirtual 81, 3) := by decide +kernel
theorem dL_law_161 : decode cL_law 161 = .ok (.ifCond .lt 13, 3) := by decide +kernel
theorem dL_law_164 : decode cL_law 164 = .ok (.aload_n 1, 1) := by decide +kernel
theorem dL_law_165 : decode cL_law 165 = .ok (.iload 13, 2) := by decide +kernel
theorem dL_law_167 : decode cL_law 167 = .ok (.iconst 0, 1) := by decide +kernel
theorem dL_law_168 : decode cL_law 168 = .ok (.invokevirtual 84, 3) := by decide +kernel
theorem dL_law_171 : decode cL_law 171 = .ok (.ifCond .ne 5, 3) := by decide +kernel
theorem dL_law_174 : decode cL_law 174 = .ok (.iconst 0, 1) := by decide +kernel
theorem dL_law_175 : decode cL_law 175 = .ok (.ireturn, 1) := by decide +kernel
theorem dL_law_176 : decode cL_law 176 = .ok (.aload_n 1, 1) := by decide +kernel
theorem dL_law_177 : decode cL_law 177 = .ok (.iload 12, 2) := by decide +kernel
theorem dL_law_179 : decode cL_law 179 = .ok (.bipush 7, 2) := by decide +kernel
theorem dL_law_181 : decode cL_law 181 = .ok (.invokevirtual 81, 3) := by decide +kernel
theorem dL_law_184 : decode cL_law 184 = .ok (.ifCond .ne 6, 3) := by decide +kernel
theorem dL_law_187 : decode cL_law 187 = .ok (.goto 97, 3) := by decide +kernel
theorem dL_law_190 : decode cL_law 190 = .ok (.aload_n 1, 1) := by decide +kernel
theorem dL_law_191 : decode cL_law 191 = .ok (.iload 12, 2) := by decide +kernel
theorem dL_law_193 : decode cL_law 193 = .ok (.bipush 6, 2) := by decide +kernel
theorem dL_law_195 : decode cL_law 195 = .ok (.invokevirtual 81, 3) := by decide +kernel
theorem dL_law_198 : decode cL_law 198 = .ok (.ifCond .eq 36, 3) := by decide +kernel
theorem dL_law_201 : decode cL_law 201 = .ok (.iload 7, 2) := by decide +kernel
theorem dL_law_203 : decode cL_law 203 = .ok (.aload_n 1, 1) := by decide +kernel
theorem dL_law_204 : decode cL_law 204 = .ok (.iload 12, 2) := by decide +kernel
theorem dL_law_206 : decode cL_law 206 = .ok (.iconst 1, 1) := by decide +kernel
theorem dL_law_207 : decode cL_law 207 = .ok (.invokevirtual 81, 3) := by decide +kernel
theorem dL_law_210 : decode cL_law 210 = .ok (.iand, 1) := by decide +kernel
theorem dL_law_211 : decode cL_law 211 = .ok (.ifCond .ne 23, 3) := by decide +kernel
theorem dL_law_214 : decode cL_law 214 = .ok (.aload 11, 2) := by decide +kernel
theorem dL_law_216 : decode cL_law 216 = .ok (.iload 13, 2) := by decide +kernel
theorem dL_law_218 : decode cL_law 218 = .ok (.iaload, 1) := by decide +kernel
theorem dL_law_219 : decode cL_law 219 = .ok (.ifCond .gt 15, 3) := by decide +kernel
theorem dL_law_222 : decode cL_law 222 = .ok (.aload_n 1, 1) := by decide +kernel
theorem dL_law_223 : decode cL_law 223 = .ok (.iload 13, 2) := by decide +kernel
theorem dL_law_225 : decode cL_law 225 = .ok (.iconst 2, 1) := by decide +kernel
theorem dL_law_226 : decode cL_law 226 = .ok (.invokevirtual 84, 3) := by decide +kernel
theorem dL_law_229 : decode cL_law 229 = .ok (.iload 12, 2) := by decide +kernel
theorem dL_law_231 : decode cL_law 231 = .ok (.if_icmp .eq 5, 3) := by decide +kernel
theorem dL_law_234 : decode cL_law 234 = .ok (.iconst 0, 1) := by decide +kernel
theorem dL_law_235 : decode cL_law 235 = .ok (.ireturn, 1) := by decide +kernel
theorem dL_law_236 : decode cL_law 236 = .ok (.iload 7, 2) := by decide +kernel
theorem dL_law_238 : decode cL_law 238 = .ok (.aload_n 1, 1) := by decide +kernel
theorem dL_law_239 : decode cL_law 239 = .ok (.iload 12, 2) := by decide +kernel
theorem dL_law_241 : decode cL_law 241 = .ok (.iconst 1, 1) := by decide +kernel
theorem dL_law_242 : decode cL_law 242 = .ok (.invokevirtual 81, 3) := by decide +kernel
theorem dL_law_245 : decode cL_law 245 = .ok (.ior, 1) := by decide +kernel
theorem dL_law_246 : decode cL_law 246 = .ok (.istore 7, 2) := by decide +kernel
theorem dL_law_248 : decode cL_law 248 = .ok (.iload 8, 2) := by decide +kernel
theorem dL_law_250 : decode cL_law 250 = .ok (.aload_n 1, 1) := by decide +kernel
theorem dL_law_251 : decode cL_law 251 = .ok (.iload 12, 2) := by decide +kernel
theorem dL_law_253 : decode cL_law 253 = .ok (.iconst 5, 1) := by decide +kernel
theorem dL_law_254 : decode cL_law 254 = .ok (.invokevirtual 81, 3) := by decide +kernel
theorem dL_law_257 : decode cL_law 257 = .ok (.iadd, 1) := by decide +kernel
theorem dL_law_258 : decode cL_law 258 = .ok (.istore 8, 2) := by decide +kernel
theorem dL_law_260 : decode cL_law 260 = .ok (.iload 9, 2) := by decide +kernel
theorem dL_law_262 : decode cL_law 262 = .ok (.aload_n 1, 1) := by decide +kernel
theorem dL_law_263 : decode cL_law 263 = .ok (.iload 12, 2) := by decide +kernel
theorem dL_law_265 : decode cL_law 265 = .ok (.iconst 2, 1) := by decide +kernel
theorem dL_law_266 : decode cL_law 266 = .ok (.invokevirtual 81, 3) := by decide +kernel
theorem dL_law_269 : decode cL_law 269 = .ok (.iadd, 1) := by decide +kernel
theorem dL_law_270 : decode cL_law 270 = .ok (.istore 9, 2) := by decide +kernel
theorem dL_law_272 : decode cL_law 272 = .ok (.aload 11, 2) := by decide +kernel
theorem dL_law_274 : decode cL_law 274 = .ok (.iload 13, 2) := by decide +kernel
theorem dL_law_276 : decode cL_law 276 = .ok (.dup2, 1) := by decide +kernel
theorem dL_law_277 : decode cL_law 277 = .ok (.iaload, 1) := by decide +kernel
theorem dL_law_278 : decode cL_law 278 = .ok (.iconst 1, 1) := by decide +kernel
theorem dL_law_279 : decode cL_law 279 = .ok (.iadd, 1) := by decide +kernel
theorem dL_law_280 : decode cL_law 280 = .ok (.iastore, 1) := by decide +kernel
theorem dL_law_281 : decode cL_law 281 = .ok (.iinc 10 1, 3) := by decide +kernel
theorem dL_law_284 : decode cL_law 284 = .ok (.iinc 12 1, 3) := by decide +kernel
theorem dL_law_287 : decode cL_law 287 = .ok (.goto (-172), 3) := by decide +kernel
theorem dL_law_290 : decode cL_law 290 = .ok (.iload 8, 2) := by decide +kernel
theorem dL_law_292 : decode cL_law 292 = .ok (.aload_n 1, 1) := by decide +kernel
theorem dL_law_293 : decode cL_law 293 = .ok (.iconst 3, 1) := by decide +kernel
theorem dL_law_294 : decode cL_law 294 = .ok (.invokevirtual 78, 3) := by decide +kernel
theorem dL_law_297 : decode cL_law 297 = .ok (.if_icmp .ne 24, 3) := by decide +kernel
theorem dL_law_300 : decode cL_law 300 = .ok (.iload 9, 2) := by decide +kernel
theorem dL_law_302 : decode cL_law 302 = .ok (.aload_n 1, 1) := by decide +kernel
theorem dL_law_303 : decode cL_law 303 = .ok (.bipush 8, 2) := by decide +kernel
theorem dL_law_305 : decode cL_law 305 = .ok (.invokevirtual 78, 3) := by decide +kernel
theorem dL_law_308 : decode cL_law 308 = .ok (.if_icmp .ne 13, 3) := by decide +kernel
theorem dL_law_311 : decode cL_law 311 = .ok (.iload 10, 2) := by decide +kernel
theorem dL_law_313 : decode cL_law 313 = .ok (.aload_n 1, 1) := by decide +kernel
theorem dL_law_314 : decode cL_law 314 = .ok (.iconst 4, 1) := by decide +kernel
theorem dL_law_315 : decode cL_law 315 = .ok (.invokevirtual 78, 3) := by decide +kernel
theorem dL_law_318 : decode cL_law 318 = .ok (.if_icmp .eq 5, 3) := by decide +kernel
theorem dL_law_321 : decode cL_law 321 = .ok (.iconst 0, 1) := by decide +kernel
theorem dL_law_322 : decode cL_law 322 = .ok (.ireturn, 1) := by decide +kernel
theorem dL_law_323 : decode cL_law 323 = .ok (.iconst 0, 1) := by decide +kernel
theorem dL_law_324 : decode cL_law 324 = .ok (.istore 12, 2) := by decide +kernel
theorem dL_law_326 : decode cL_law 326 = .ok (.iload 12, 2) := by decide +kernel
theorem dL_law_328 : decode cL_law 328 = .ok (.iload 5, 2) := by decide +kernel
theorem dL_law_330 : decode cL_law 330 = .ok (.if_icmp .ge 122, 3) := by decide +kernel
theorem dL_law_333 : decode cL_law 333 = .ok (.aload_n 1, 1) := by decide +kernel
theorem dL_law_334 : decode cL_law 334 = .ok (.iload 12, 2) := by decide +kernel
theorem dL_law_336 : decode cL_law 336 = .ok (.bipush 6, 2) := by decide +kernel
theorem dL_law_338 : decode cL_law 338 = .ok (.invokevirtual 81, 3) := by decide +kernel
theorem dL_law_341 : decode cL_law 341 = .ok (.ifCond .ne 6, 3) := by decide +kernel
theorem dL_law_344 : decode cL_law 344 = .ok (.goto 102, 3) := by decide +kernel
theorem dL_law_347 : decode cL_law 347 = .ok (.aload_n 1, 1) := by decide +kernel
theorem dL_law_348 : decode cL_law 348 = .ok (.iload 12, 2) := by decide +kernel
theorem dL_law_350 : decode cL_law 350 = .ok (.iconst 5, 1) := by decide +kernel
theorem dL_law_351 : decode cL_law 351 = .ok (.invokevirtual 81, 3) := by decide +kernel
theorem dL_law_354 : decode cL_law 354 = .ok (.iload 8, 2) := by decide +kernel
theorem dL_law_356 : decode cL_law 356 = .ok (.if_icmp .le 5, 3) := by decide +kernel
theorem dL_law_359 : decode cL_law 359 = .ok (.iconst 0, 1) := by decide +kernel
theorem dL_law_360 : decode cL_law 360 = .ok (.ireturn, 1) := by decide +kernel
theorem dL_law_361 : decode cL_law 361 = .ok (.iconst 0, 1) := by decide +kernel
theorem dL_law_362 : decode cL_law 362 = .ok (.istore 13, 2) := by decide +kernel
theorem dL_law_364 : decode cL_law 364 = .ok (.iload 13, 2) := by decide +kernel
theorem dL_law_366 : decode cL_law 366 = .ok (.iload 12, 2) := by decide +kernel
theorem dL_law_368 : decode cL_law 368 = .ok (.if_icmp .ge 78, 3) := by decide +kernel
theorem dL_law_371 : decode cL_law 371 = .ok (.aload_n 1, 1) := by decide +kernel
theorem dL_law_372 : decode cL_law 372 = .ok (.iload 13, 2) := by decide +kernel
theorem dL_law_374 : decode cL_law 374 = .ok (.bipush 6, 2) := by decide +kernel
theorem dL_law_376 : decode cL_law 376 = .ok (.invokevirtual 81, 3) := by decide +kernel
theorem dL_law_379 : decode cL_law 379 = .ok (.iconst 1, 1) := by decide +kernel
theorem dL_law_380 : decode cL_law 380 = .ok (.if_icmp .ne 60, 3) := by decide +kernel
theorem dL_law_383 : decode cL_law 383 = .ok (.aload_n 1, 1) := by decide +kernel
theorem dL_law_384 : decode cL_law 384 = .ok (.iload 12, 2) := by decide +kernel
theorem dL_law_386 : decode cL_law 386 = .ok (.iconst 0, 1) := by decide +kernel
theorem dL_law_387 : decode cL_law 387 = .ok (.invokevirtual 81, 3) := by decide +kernel
theorem dL_law_390 : decode cL_law 390 = .ok (.aload_n 1, 1) := by decide +kernel
theorem dL_law_391 : decode cL_law 391 = .ok (.iload 13, 2) := by decide +kernel
theorem dL_law_393 : decode cL_law 393 = .ok (.iconst 0, 1) := by decide +kernel
theorem dL_law_394 : decode cL_law 394 = .ok (.invokevirtual 81, 3) := by decide +kernel
theorem dL_law_397 : decode cL_law 397 = .ok (.if_icmp .eq 43, 3) := by decide +kernel
theorem dL_law_400 : decode cL_law 400 = .ok (.aload_n 1, 1) := by decide +kernel
theorem dL_law_401 : decode cL_law 401 = .ok (.iload 12, 2) := by decide +kernel
theorem dL_law_403 : decode cL_law 403 = .ok (.iconst 1, 1) := by decide +kernel
theorem dL_law_404 : decode cL_law 404 = .ok (.invokevirtual 81, 3) := by decide +kernel
theorem dL_law_407 : decode cL_law 407 = .ok (.aload_n 1, 1) := by decide +kernel
theorem dL_law_408 : decode cL_law 408 = .ok (.iload 13, 2) := by decide +kernel
theorem dL_law_410 : decode cL_law 410 = .ok (.iconst 1, 1) := by decide +kernel
theorem dL_law_411 : decode cL_law 411 = .ok (.invokevirtual 81, 3) := by decide +kernel
theorem dL_law_414 : decode cL_law 414 = .ok (.iand, 1) := by decide +kernel
theorem dL_law_415 : decode cL_law 415 = .ok (.ifCond .ne 25, 3) := by decide +kernel
theorem dL_law_418 : decode cL_law 418 = .ok (.aload_n 1, 1) := by decide +kernel
theorem dL_law_419 : decode cL_law 419 = .ok (.iload 12, 2) := by decide +kernel
theorem dL_law_421 : decode cL_law 421 = .ok (.iconst 5, 1) := by decide +kernel
theorem dL_law_422 : decode cL_law 422 = .ok (.invokevirtual 81, 3) := by decide +kernel
theorem dL_law_425 : decode cL_law 425 = .ok (.aload_n 1, 1) := by decide +kernel
theorem dL_law_426 : decode cL_law 426 = .ok (.iload 13, 2) := by decide +kernel
theorem dL_law_428 : decode cL_law 428 = .ok (.iconst 5, 1) := by decide +kernel
theorem dL_law_429 : decode cL_law 429 = .ok (.invokevirtual 81, 3) := by decide +kernel
theorem dL_law_432 : decode cL_law 432 = .ok (.iadd, 1) := by decide +kernel
theorem dL_law_433 : decode cL_law 433 = .ok (.iload 8, 2) := by decide +kernel
theorem dL_law_435 : decode cL_law 435 = .ok (.if_icmp .le 5, 3) := by decide +kernel
theorem dL_law_438 : decode cL_law 438 = .ok (.iconst 0, 1) := by decide +kernel
theorem dL_law_439 : decode cL_law 439 = .ok (.ireturn, 1) := by decide +kernel
theorem dL_law_440 : decode cL_law 440 = .ok (.iinc 13 1, 3) := by decide +kernel
theorem dL_law_443 : decode cL_law 443 = .ok (.goto (-79), 3) := by decide +kernel
theorem dL_law_446 : decode cL_law 446 = .ok (.iinc 12 1, 3) := by decide +kernel
theorem dL_law_449 : decode cL_law 449 = .ok (.goto (-123), 3) := by decide +kernel
theorem dL_law_452 : decode cL_law 452 = .ok (.iconst 0, 1) := by decide +kernel
theorem dL_law_453 : decode cL_law 453 = .ok (.istore 12, 2) := by decide +kernel
theorem dL_law_455 : decode cL_law 455 = .ok (.iconst 0, 1) := by decide +kernel
theorem dL_law_456 : decode cL_law 456 = .ok (.istore 13, 2) := by decide +kernel
theorem dL_law_458 : decode cL_law 458 = .ok (.iload 13, 2) := by decide +kernel
theorem dL_law_460 : decode cL_law 460 = .ok (.aload_n 1, 1) := by decide +kernel
theorem dL_law_461 : decode cL_law 461 = .ok (.iconst 0, 1) := by decide +kernel
theorem dL_law_462 : decode cL_law 462 = .ok (.invokevirtual 78, 3) := by decide +kernel
theorem dL_law_465 : decode cL_law 465 = .ok (.if_icmp .ge 88, 3) := by decide +kernel
theorem dL_law_468 : decode cL_law 468 = .ok (.aload_n 1, 1) := by decide +kernel
theorem dL_law_469 : decode cL_law 469 = .ok (.iload 13, 2) := by decide +kernel
theorem dL_law_471 : decode cL_law 471 = .ok (.iconst 1, 1) := by decide +kernel
theorem dL_law_472 : decode cL_law 472 = .ok (.invokevirtual 87, 3) := by decide +kernel
theorem dL_law_475 : decode cL_law 475 = .ok (.istore 14, 2) := by decide +kernel
theorem dL_law_477 : decode cL_law 477 = .ok (.iload 12, 2) := by decide +kernel
theorem dL_law_479 : decode cL_law 479 = .ok (.iload 14, 2) := by decide +kernel
theorem dL_law_481 : decode cL_law 481 = .ok (.ifCond .ge 7, 3) := by decide +kernel
theorem dL_law_484 : decode cL_law 484 = .ok (.iconst 0, 1) := by decide +kernel
theorem dL_law_485 : decode cL_law 485 = .ok (.goto 4, 3) := by decide +kernel
theorem dL_law_488 : decode cL_law 488 = .ok (.iconst 1, 1) := by decide +kernel
theorem dL_law_489 : decode cL_law 489 = .ok (.iadd, 1) := by decide +kernel
theorem dL_law_490 : decode cL_law 490 = .ok (.istore 12, 2) := by decide +kernel
theorem dL_law_492 : decode cL_law 492 = .ok (.iload 14, 2) := by decide +kernel
theorem dL_law_494 : decode cL_law 494 = .ok (.ifCond .ge 7, 3) := by decide +kernel
theorem dL_law_497 : decode cL_law 497 = .ok (.iconst 1, 1) := by decide +kernel
theorem dL_law_498 : decode cL_law 498 = .ok (.goto 4, 3) := by decide +kernel
theorem dL_law_501 : decode cL_law 501 = .ok (.iconst 0, 1) := by decide +kernel
theorem dL_law_502 : decode cL_law 502 = .ok (.iload 7, 2) := by decide +kernel
theorem dL_law_504 : decode cL_law 504 = .ok (.iload 13, 2) := by decide +kernel
theorem dL_law_506 : decode cL_law 506 = .ok (.ishr, 1) := by decide +kernel
theorem dL_law_507 : decode cL_law 507 = .ok (.iconst 1, 1) := by decide +kernel
theorem dL_law_508 : decode cL_law 508 = .ok (.iand, 1) := by decide +kernel
theorem dL_law_509 : decode cL_law 509 = .ok (.ifCond .ne 7, 3) := by decide +kernel
theorem dL_law_512 : decode cL_law 512 = .ok (.iconst 1, 1) := by decide +kernel
theorem dL_law_513 : decode cL_law 513 = .ok (.goto 4, 3) := by decide +kernel
theorem dL_law_516 : decode cL_law 516 = .ok (.iconst 0, 1) := by decide +kernel
theorem dL_law_517 : decode cL_law 517 = .ok (.if_icmp .ne 28, 3) := by decide +kernel
theorem dL_law_520 : decode cL_law 520 = .ok (.iload 14, 2) := by decide +kernel
theorem dL_law_522 : decode cL_law 522 = .ok (.ifCond .lt 25, 3) := by decide +kernel
theorem dL_law_525 : decode cL_law 525 = .ok (.aload_n 1, 1) := by decide +kernel
theorem dL_law_526 : decode cL_law 526 = .ok (.aload_n 1, 1) := by decide +kernel
theorem dL_law_527 : decode cL_law 527 = .ok (.iload 14, 2) := by decide +kernel
theorem dL_law_529 : decode cL_law 529 = .ok (.iconst 2, 1) := by decide +kernel
theorem dL_law_530 : decode cL_law 530 = .ok (.invokevirtual 84, 3) := by decide +kernel
theorem dL_law_533 : decode cL_law 533 = .ok (.iconst 1, 1) := by decide +kernel
theorem dL_law_534 : decode cL_law 534 = .ok (.invokevirtual 81, 3) := by decide +kernel
theorem dL_law_537 : decode cL_law 537 = .ok (.iload 13, 2) := by decide +kernel
theorem dL_law_539 : decode cL_law 539 = .ok (.ishr, 1) := by decide +kernel
theorem dL_law_540 : decode cL_law 540 = .ok (.iconst 1, 1) := by decide +kernel
theorem dL_law_541 : decode cL_law 541 = .ok (.iand, 1) := by decide +kernel
theorem dL_law_542 : decode cL_law 542 = .ok (.ifCond .ne 5, 3) := by decide +kernel
theorem dL_law_545 : decode cL_law 545 = .ok (.iconst 0, 1) := by decide +kernel
theorem dL_law_546 : decode cL_law 546 = .ok (.ireturn, 1) := by decide +kernel
theorem dL_law_547 : decode cL_law 547 = .ok (.iinc 13 1, 3) := by decide +kernel
theorem dL_law_550 : decode cL_law 550 = .ok (.goto (-92), 3) := by decide +kernel
theorem dL_law_553 : decode cL_law 553 = .ok (.iconst 0, 1) := by decide +kernel
theorem dL_law_554 : decode cL_law 554 = .ok (.istore 13, 2) := by decide +kernel
theorem dL_law_556 : decode cL_law 556 = .ok (.iconst 0, 1) := by decide +kernel
theorem dL_law_557 : decode cL_law 557 = .ok (.istore 14, 2) := by decide +kernel
theorem dL_law_559 : decode cL_law 559 = .ok (.iconst 0, 1) := by decide +kernel
theorem dL_law_560 : decode cL_law 560 = .ok (.istore 15, 2) := by decide +kernel
theorem dL_law_562 : decode cL_law 562 = .ok (.iload 15, 2) := by decide +kernel
theorem dL_law_564 : decode cL_law 564 = .ok (.iload 6, 2) := by decide +kernel
theorem dL_law_566 : decode cL_law 566 = .ok (.if_icmp .ge 185, 3) := by decide +kernel
theorem dL_law_569 : decode cL_law 569 = .ok (.aload_n 1, 1) := by decide +kernel
theorem dL_law_570 : decode cL_law 570 = .ok (.iload 15, 2) := by decide +kernel
theorem dL_law_572 : decode cL_law 572 = .ok (.iconst 2, 1) := by decide +kernel
theorem dL_law_573 : decode cL_law 573 = .ok (.invokevirtual 84, 3) := by decide +kernel
theorem dL_law_576 : decode cL_law 576 = .ok (.istore 16, 2) := by decide +kernel
theorem dL_law_578 : decode cL_law 578 = .ok (.iload 16, 2) := by decide +kernel
theorem dL_law_580 : decode cL_law 580 = .ok (.ifCond .ge 7, 3) := by decide +kernel
theorem dL_law_583 : decode cL_law 583 = .ok (.iconst 1, 1) := by decide +kernel
theorem dL_law_584 : decode cL_law 584 = .ok (.goto 4, 3) := by decide +kernel
theorem dL_law_587 : decode cL_law 587 = .ok (.iconst 0, 1) := by decide +kernel
theorem dL_law_588 : decode cL_law 588 = .ok (.aload 11, 2) := by decide +kernel
theorem dL_law_590 : decode cL_law 590 = .ok (.iload 15, 2) := by decide +kernel
theorem dL_law_592 : decode cL_law 592 = .ok (.iaload, 1) := by decide +kernel
theorem dL_law_593 : decode cL_law 593 = .ok (.ifCond .ne 7, 3) := by decide +kernel
theorem dL_law_596 : decode cL_law 596 = .ok (.iconst 1, 1) := by decide +kernel
theorem dL_law_597 : decode cL_law 597 = .ok (.goto 4, 3) := by decide +kernel
theorem dL_law_600 : decode cL_law 600 = .ok (.iconst 0, 1) := by decide +kernel
theorem dL_law_601 : decode cL_law 601 = .ok (.if_icmp .ne 50, 3) := by decide +kernel
theorem dL_law_604 : decode cL_law 604 = .ok (.iload 16, 2) := by decide +kernel
theorem dL_law_606 : decode cL_law 606 = .ok (.ifCond .ge 23, 3) := by decide +kernel
theorem dL_law_609 : decode cL_law 609 = .ok (.aload_n 1, 1) := by decide +kernel
theorem dL_law_610 : decode cL_law 610 = .ok (.iload 15, 2) := by decide +kernel
theorem dL_law_612 : decode cL_law 612 = .ok (.iconst 3, 1) := by decide +kernel
theorem dL_law_613 : decode cL_law 613 = .ok (.invokevirtual 84, 3) := by decide +kernel
theorem dL_law_616 : decode cL_law 616 = .ok (.ifCond .ne 35, 3) := by decide +kernel
theorem dL_law_619 : decode cL_law 619 = .ok (.aload_n 1, 1) := by decide +kernel
theorem dL_law_620 : decode cL_law 620 = .ok (.iload 15, 2) := by decide +kernel
theorem dL_law_622 : decode cL_law 622 = .ok (.iconst 4, 1) := by decide +kernel
theorem dL_law_623 : decode cL_law 623 = .ok (.invokevirtual 84, 3) := by decide +kernel
theorem dL_law_626 : decode cL_law 626 = .ok (.ifCond .ne 25, 3) := by decide +kernel
theorem dL_law_629 : decode cL_law 629 = .ok (.aload_n 1, 1) := by decide +kernel
theorem dL_law_630 : decode cL_law 630 = .ok (.iload 15, 2) := by decide +kernel
theorem dL_law_632 : decode cL_law 632 = .ok (.iconst 5, 1) := by decide +kernel
theorem dL_law_633 : decode cL_law 633 = .ok (.invokevirtual 84, 3) := by decide +kernel
theorem dL_law_636 : decode cL_law 636 = .ok (.iload 8, 2) := by decide +kernel
theorem dL_law_638 : decode cL_law 638 = .ok (.if_icmp .gt 13, 3) := by decide +kernel
theorem dL_law_641 : decode cL_law 641 = .ok (.aload_n 1, 1) := by decide +kernel
theorem dL_law_642 : decode cL_law 642 = .ok (.iload 15, 2) := by decide +kernel
theorem dL_law_644 : decode cL_law 644 = .ok (.iconst 5, 1) := by decide +kernel
theorem dL_law_645 : decode cL_law 645 = .ok (.invokevirtual 84, 3) := by decide +kernel
theorem dL_law_648 : decode cL_law 648 = .ok (.ifCond .ge 5, 3) := by decide +kernel
theorem dL_law_651 : decode cL_law 651 = .ok (.iconst 0, 1) := by decide +kernel
theorem dL_law_652 : decode cL_law 652 = .ok (.ireturn, 1) := by decide +kernel
theorem dL_law_653 : decode cL_law 653 = .ok (.iload 16, 2) := by decide +kernel
theorem dL_law_655 : decode cL_law 655 = .ok (.ifCond .lt 47, 3) := by decide +kernel
theorem dL_law_658 : decode cL_law 658 = .ok (.aload_n 1, 1) := by decide +kernel
theorem dL_law_659 : decode cL_law 659 = .ok (.iload 15, 2) := by decide +kernel
theorem dL_law_661 : decode cL_law 661 = .ok (.iconst 3, 1) := by decide +kernel
theorem dL_law_662 : decode cL_law 662 = .ok (.invokevirtual 84, 3) := by decide +kernel
theorem dL_law_665 : decode cL_law 665 = .ok (.aload_n 1, 1) := by decide +kernel
theorem dL_law_666 : decode cL_law 666 = .ok (.iload 16, 2) := by decide +kernel
theorem dL_law_668 : decode cL_law 668 = .ok (.iconst 2, 1) := by decide +kernel
theorem dL_law_669 : decode cL_law 669 = .ok (.invokevirtual 81, 3) := by decide +kernel
theorem dL_law_672 : decode cL_law 672 = .ok (.aload_n 1, 1) := by decide +kernel
theorem dL_law_673 : decode cL_law 673 = .ok (.iload 16, 2) := by decide +kernel
theorem dL_law_675 : decode cL_law 675 = .ok (.iconst 5, 1) := by decide +kernel
theorem dL_law_676 : decode cL_law 676 = .ok (.invokevirtual 81, 3) := by decide +kernel
theorem dL_law_679 : decode cL_law 679 = .ok (.isub, 1) := by decide +kernel
theorem dL_law_680 : decode cL_law 680 = .ok (.if_icmp .lt 20, 3) := by decide +kernel
theorem dL_law_683 : decode cL_law 683 = .ok (.aload_n 1, 1) := by decide +kernel
theorem dL_law_684 : decode cL_law 684 = .ok (.iload 15, 2) := by decide +kernel
theorem dL_law_686 : decode cL_law 686 = .ok (.iconst 3, 1) := by decide +kernel
theorem dL_law_687 : decode cL_law 687 = .ok (.invokevirtual 84, 3) := by decide +kernel
theorem dL_law_690 : decode cL_law 690 = .ok (.aload_n 1, 1) := by decide +kernel
theorem dL_law_691 : decode cL_law 691 = .ok (.iload 16, 2) := by decide +kernel
theorem dL_law_693 : decode cL_law 693 = .ok (.iconst 2, 1) := by decide +kernel
theorem dL_law_694 : decode cL_law 694 = .ok (.invokevirtual 81, 3) := by decide +kernel
theorem dL_law_697 : decode cL_law 697 = .ok (.if_icmp .le 5, 3) := by decide +kernel
theorem dL_law_700 : decode cL_law 700 = .ok (.iconst 0, 1) := by decide +kernel
theorem dL_law_701 : decode cL_law 701 = .ok (.ireturn, 1) := by decide +kernel
theorem dL_law_702 : decode cL_law 702 = .ok (.iload 16, 2) := by decide +kernel
theorem dL_law_704 : decode cL_law 704 = .ok (.ifCond .ge 17, 3) := by decide +kernel
theorem dL_law_707 : decode cL_law 707 = .ok (.aload_n 1, 1) := by decide +kernel
theorem dL_law_708 : decode cL_law 708 = .ok (.iload 15, 2) := by decide +kernel
theorem dL_law_710 : decode cL_law 710 = .ok (.iconst 5, 1) := by decide +kernel
theorem dL_law_711 : decode cL_law 711 = .ok (.invokevirtual 84, 3) := by decide +kernel
theorem dL_law_714 : decode cL_law 714 = .ok (.iload 8, 2) := by decide +kernel
theorem dL_law_716 : decode cL_law 716 = .ok (.if_icmp .eq 5, 3) := by decide +kernel
theorem dL_law_719 : decode cL_law 719 = .ok (.iconst 0, 1) := by decide +kernel
theorem dL_law_720 : decode cL_law 720 = .ok (.ireturn, 1) := by decide +kernel
theorem dL_law_721 : decode cL_law 721 = .ok (.iload 13, 2) := by decide +kernel
theorem dL_law_723 : decode cL_law 723 = .ok (.aload_n 1, 1) := by decide +kernel
theorem dL_law_724 : decode cL_law 724 = .ok (.iload 15, 2) := by decide +kernel
theorem dL_law_726 : decode cL_law 726 = .ok (.iconst 3, 1) := by decide +kernel
theorem dL_law_727 : decode cL_law 727 = .ok (.invokevirtual 84, 3) := by decide +kernel
theorem dL_law_730 : decode cL_law 730 = .ok (.iadd, 1) := by decide +kernel
theorem dL_law_731 : decode cL_law 731 = .ok (.istore 13, 2) := by decide +kernel
theorem dL_law_733 : decode cL_law 733 = .ok (.iload 14, 2) := by decide +kernel
theorem dL_law_735 : decode cL_law 735 = .ok (.aload_n 1, 1) := by decide +kernel
theorem dL_law_736 : decode cL_law 736 = .ok (.iload 15, 2) := by decide +kernel
theorem dL_law_738 : decode cL_law 738 = .ok (.iconst 4, 1) := by decide +kernel
theorem dL_law_739 : decode cL_law 739 = .ok (.invokevirtual 84, 3) := by decide +kernel
theorem dL_law_742 : decode cL_law 742 = .ok (.iadd, 1) := by decide +kernel
theorem dL_law_743 : decode cL_law 743 = .ok (.istore 14, 2) := by decide +kernel
theorem dL_law_745 : decode cL_law 745 = .ok (.iinc 15 1, 3) := by decide +kernel
theorem dL_law_748 : decode cL_law 748 = .ok (.goto (-186), 3) := by decide +kernel
theorem dL_law_751 : decode cL_law 751 = .ok (.iload 12, 2) := by decide +kernel
theorem dL_law_753 : decode cL_law 753 = .ok (.aload_n 1, 1) := by decide +kernel
theorem dL_law_754 : decode cL_law 754 = .ok (.iconst 5, 1) := by decide +kernel
theorem dL_law_755 : decode cL_law 755 = .ok (.invokevirtual 78, 3) := by decide +kernel
theorem dL_law_758 : decode cL_law 758 = .ok (.if_icmp .ne 49, 3) := by decide +kernel
theorem dL_law_761 : decode cL_law 761 = .ok (.iload 13, 2) := by decide +kernel
theorem dL_law_763 : decode cL_law 763 = .ok (.aload_n 1, 1) := by decide +kernel
theorem dL_law_764 : decode cL_law 764 = .ok (.bipush 6, 2) := by decide +kernel
theorem dL_law_766 : decode cL_law 766 = .ok (.invokevirtual 78, 3) := by decide +kernel
theorem dL_law_769 : decode cL_law 769 = .ok (.if_icmp .ne 38, 3) := by decide +kernel
theorem dL_law_772 : decode cL_law 772 = .ok (.iload 14, 2) := by decide +kernel
theorem dL_law_774 : decode cL_law 774 = .ok (.aload_n 1, 1) := by decide +kernel
theorem dL_law_775 : decode cL_law 775 = .ok (.bipush 7, 2) := by decide +kernel
theorem dL_law_777 : decode cL_law 777 = .ok (.invokevirtual 78, 3) := by decide +kernel
theorem dL_law_780 : decode cL_law 780 = .ok (.if_icmp .ne 27, 3) := by decide +kernel
theorem dL_law_783 : decode cL_law 783 = .ok (.aload_n 1, 1) := by decide +kernel
theorem dL_law_784 : decode cL_law 784 = .ok (.invokevirtual 90, 3) := by decide +kernel
theorem dL_law_787 : decode cL_law 787 = .ok (.iload 10, 2) := by decide +kernel
theorem dL_law_789 : decode cL_law 789 = .ok (.ifCond .ne 7, 3) := by decide +kernel
theorem dL_law_792 : decode cL_law 792 = .ok (.dconst 0, 1) := by decide +kernel
theorem dL_law_793 : decode cL_law 793 = .ok (.goto 10, 3) := by decide +kernel
theorem dL_law_796 : decode cL_law 796 = .ok (.iload 13, 2) := by decide +kernel
theorem dL_law_798 : decode cL_law 798 = .ok (.i2d, 1) := by decide +kernel
theorem dL_law_799 : decode cL_law 799 = .ok (.iload 10, 2) := by decide +kernel
theorem dL_law_801 : decode cL_law 801 = .ok (.i2d, 1) := by decide +kernel
theorem dL_law_802 : decode cL_law 802 = .ok (.ddiv, 1) := by decide +kernel
theorem dL_law_803 : decode cL_law 803 = .ok (.dcmp .l, 1) := by decide +kernel
theorem dL_law_804 : decode cL_law 804 = .ok (.ifCond .eq 5, 3) := by decide +kernel
theorem dL_law_807 : decode cL_law 807 = .ok (.iconst 0, 1) := by decide +kernel
theorem dL_law_808 : decode cL_law 808 = .ok (.ireturn, 1) := by decide +kernel
theorem dL_law_809 : decode cL_law 809 = .ok (.iinc 3 1, 3) := by decide +kernel
theorem dL_law_812 : decode cL_law 812 = .ok (.goto (-790), 3) := by decide +kernel
theorem dL_law_815 : decode cL_law 815 = .ok (.aload_n 2, 1) := by decide +kernel
theorem dL_law_816 : decode cL_law 816 = .ok (.aload_n 1, 1) := by decide +kernel
theorem dL_law_817 : decode cL_law 817 = .ok (.invokevirtual 94, 3) := by decide +kernel
theorem dL_law_820 : decode cL_law 820 = .ok (.ireturn, 1) := by decide +kernel
