/-! code of the bodies 159 to 174 -/
theorem dX12_odds_0 : decode cX12_odds 0 = .ok (.aload_n 0, 1) := by decide +kernel
theorem dX12_odds_1 : decode cX12_odds 1 = .ok (.iload_n 1, 1) := by decide +kernel
theorem dX12_odds_2 : decode cX12_odds 2 = .ok (.invokevirtual 198, 3) := by decide +kernel
theorem dX12_odds_5 : decode cX12_odds 5 = .ok (.ifCond .eq 12, 3) := by decide +kernel
theorem dX12_odds_8 : decode cX12_odds 8 = .ok (.iload_n 2, 1) := by decide +kernel
theorem dX12_odds_9 : decode cX12_odds 9 = .ok (.iconst 0, 1) := by decide +kernel
theorem dX12_odds_10 : decode cX12_odds 10 = .ok (.iconst 1, 1) := by decide +kernel
theorem dX12_odds_11 : decode cX12_odds 11 = .ok (.invokestatic 142, 3) := by decide +kernel
theorem dX12_odds_14 : decode cX12_odds 14 = .ok (.ifCond .ne 7, 3) := by decide +kernel
theorem dX12_odds_17 : decode cX12_odds 17 = .ok (.ldc2_w 206, 3) := by decide +kernel
theorem dX12_odds_20 : decode cX12_odds 20 = .ok (.lreturn, 1) := by decide +kernel
theorem dX12_odds_21 : decode cX12_odds 21 = .ok (.iconst 0, 1) := by decide +kernel
theorem dX12_odds_22 : decode cX12_odds 22 = .ok (.istore_n 3, 1) := by decide +kernel
theorem dX12_odds_23 : decode cX12_odds 23 = .ok (.iload_n 3, 1) := by decide +kernel
theorem dX12_odds_24 : decode cX12_odds 24 = .ok (.bipush 49, 2) := by decide +kernel
theorem dX12_odds_26 : decode cX12_odds 26 = .ok (.if_icmp .ge 26, 3) := by decide +kernel
theorem dX12_odds_29 : decode cX12_odds 29 = .ok (.aload_n 0, 1) := by decide +kernel
theorem dX12_odds_30 : decode cX12_odds 30 = .ok (.getfield 110, 3) := by decide +kernel
theorem dX12_odds_33 : decode cX12_odds 33 = .ok (.iload_n 3, 1) := by decide +kernel
theorem dX12_odds_34 : decode cX12_odds 34 = .ok (.iload_n 3, 1) := by decide +kernel
theorem dX12_odds_35 : decode cX12_odds 35 = .ok (.bipush 24, 2) := by decide +kernel
theorem dX12_odds_37 : decode cX12_odds 37 = .ok (.if_icmp .ne 7, 3) := by decide +kernel
theorem dX12_odds_40 : decode cX12_odds 40 = .ok (.lconst 1, 1) := by decide +kernel
theorem dX12_odds_41 : decode cX12_odds 41 = .ok (.goto 4, 3) := by decide +kernel
theorem dX12_odds_44 : decode cX12_odds 44 = .ok (.lconst 0, 1) := by decide +kernel
theorem dX12_odds_45 : decode cX12_odds 45 = .ok (.lastore, 1) := by decide +kernel
theorem dX12_odds_46 : decode cX12_odds 46 = .ok (.iinc 3 1, 3) := by decide +kernel
theorem dX12_odds_49 : decode cX12_odds 49 = .ok (.goto (-26), 3) := by decide +kernel
theorem dX12_odds_52 : decode cX12_odds 52 = .ok (.lconst 1, 1) := by decide +kernel
theorem dX12_odds_53 : decode cX12_odds 53 = .ok (.lstore_n 3, 1) := by decide +kernel
theorem dX12_odds_54 : decode cX12_odds 54 = .ok (.iconst 0, 1) := by decide +kernel
theorem dX12_odds_55 : decode cX12_odds 55 = .ok (.istore 5, 2) := by decide +kernel
theorem dX12_odds_57 : decode cX12_odds 57 = .ok (.iload 5, 2) := by decide +kernel
theorem dX12_odds_59 : decode cX12_odds 59 = .ok (.aload_n 0, 1) := by decide +kernel
theorem dX12_odds_60 : decode cX12_odds 60 = .ok (.getfield 32, 3) := by decide +kernel
theorem dX12_odds_63 : decode cX12_odds 63 = .ok (.iload_n 1, 1) := by decide +kernel
theorem dX12_odds_64 : decode cX12_odds 64 = .ok (.iaload, 1) := by decide +kernel
theorem dX12_odds_65 : decode cX12_odds 65 = .ok (.if_icmp .ge 256, 3) := by decide +kernel
theorem dX12_odds_68 : decode cX12_odds 68 = .ok (.aload_n 0, 1) := by decide +kernel
theorem dX12_odds_69 : decode cX12_odds 69 = .ok (.getfield 35, 3) := by decide +kernel
theorem dX12_odds_72 : decode cX12_odds 72 = .ok (.bipush 6, 2) := by decide +kernel
theorem dX12_odds_74 : decode cX12_odds 74 = .ok (.iload_n 1, 1) := by decide +kernel
theorem dX12_odds_75 : decode cX12_odds 75 = .ok (.imul, 1) := by decide +kernel
theorem dX12_odds_76 : decode cX12_odds 76 = .ok (.iload 5, 2) := by decide +kernel
theorem dX12_odds_78 : decode cX12_odds 78 = .ok (.iadd, 1) := by decide +kernel
theorem dX12_odds_79 : decode cX12_odds 79 = .ok (.iaload, 1) := by decide +kernel
theorem dX12_odds_80 : decode cX12_odds 80 = .ok (.istore 6, 2) := by decide +kernel
theorem dX12_odds_82 : decode cX12_odds 82 = .ok (.iconst 0, 1) := by decide +kernel
theorem dX12_odds_83 : decode cX12_odds 83 = .ok (.istore 7, 2) := by decide +kernel
theorem dX12_odds_85 : decode cX12_odds 85 = .ok (.iconst 0, 1) := by decide +kernel
theorem dX12_odds_86 : decode cX12_odds 86 = .ok (.istore 8, 2) := by decide +kernel
theorem dX12_odds_88 : decode cX12_odds 88 = .ok (.iload 8, 2) := by decide +kernel
theorem dX12_odds_90 : decode cX12_odds 90 = .ok (.bipush 9, 2) := by decide +kernel
theorem dX12_odds_92 : decode cX12_odds 92 = .ok (.if_icmp .ge 27, 3) := by decide +kernel
theorem dX12_odds_95 : decode cX12_odds 95 = .ok (.iload 7, 2) := by decide +kernel
theorem dX12_odds_97 : decode cX12_odds 97 = .ok (.aload_n 0, 1) := by decide +kernel
theorem dX12_odds_98 : decode cX12_odds 98 = .ok (.getfield 25, 3) := by decide +kernel
theorem dX12_odds_101 : decode cX12_odds 101 = .ok (.bipush 9, 2) := by decide +kernel
theorem dX12_odds_103 : decode cX12_odds 103 = .ok (.iload 6, 2) := by decide +kernel
theorem dX12_odds_105 : decode cX12_odds 105 = .ok (.imul, 1) := by decide +kernel
theorem dX12_odds_106 : decode cX12_odds 106 = .ok (.iload 8, 2) := by decide +kernel
theorem dX12_odds_108 : decode cX12_odds 108 = .ok (.iadd, 1) := by decide +kernel
theorem dX12_odds_109 : decode cX12_odds 109 = .ok (.iaload, 1) := by decide +kernel
theorem dX12_odds_110 : decode cX12_odds 110 = .ok (.iadd, 1) := by decide +kernel
theorem dX12_odds_111 : decode cX12_odds 111 = .ok (.istore 7, 2) := by decide +kernel
theorem dX12_odds_113 : decode cX12_odds 113 = .ok (.iinc 8 1, 3) := by decide +kernel
theorem dX12_odds_116 : decode cX12_odds 116 = .ok (.goto (-28), 3) := by decide +kernel
theorem dX12_odds_119 : decode cX12_odds 119 = .ok (.iconst 0, 1) := by decide +kernel
theorem dX12_odds_120 : decode cX12_odds 120 = .ok (.istore 8, 2) := by decide +kernel
theorem dX12_odds_122 : decode cX12_odds 122 = .ok (.iload 8, 2) := by decide +kernel
theorem dX12_odds_124 : decode cX12_odds 124 = .ok (.bipush 49, 2) := by decide +kernel
theorem dX12_odds_126 : decode cX12_odds 126 = .ok (.if_icmp .ge 17, 3) := by decide +kernel
theorem dX12_odds_129 : decode cX12_odds 129 = .ok (.aload_n 0, 1) := by decide +kernel
theorem dX12_odds_130 : decode cX12_odds 130 = .ok (.getfield 114, 3) := by decide +kernel
theorem dX12_odds_133 : decode cX12_odds 133 = .ok (.iload 8, 2) := by decide +kernel
theorem dX12_odds_135 : decode cX12_odds 135 = .ok (.lconst 0, 1) := by decide +kernel
theorem dX12_odds_136 : decode cX12_odds 136 = .ok (.lastore, 1) := by decide +kernel
theorem dX12_odds_137 : decode cX12_odds 137 = .ok (.iinc 8 1, 3) := by decide +kernel
theorem dX12_odds_140 : decode cX12_odds 140 = .ok (.goto (-18), 3) := by decide +kernel
theorem dX12_odds_143 : decode cX12_odds 143 = .ok (.bipush (-4), 2) := by decide +kernel
theorem dX12_odds_145 : decode cX12_odds 145 = .ok (.istore 8, 2) := by decide +kernel
theorem dX12_odds_147 : decode cX12_odds 147 = .ok (.iload 8, 2) := by decide +kernel
theorem dX12_odds_149 : decode cX12_odds 149 = .ok (.iconst 4, 1) := by decide +kernel
theorem dX12_odds_150 : decode cX12_odds 150 = .ok (.if_icmp .gt 120, 3) := by decide +kernel
theorem dX12_odds_153 : decode cX12_odds 153 = .ok (.iload 7, 2) := by decide +kernel
theorem dX12_odds_155 : decode cX12_odds 155 = .ok (.ifCond .ne 16, 3) := by decide +kernel
theorem dX12_odds_158 : decode cX12_odds 158 = .ok (.iload 8, 2) := by decide +kernel
theorem dX12_odds_160 : decode cX12_odds 160 = .ok (.ifCond .ne 7, 3) := by decide +kernel
theorem dX12_odds_163 : decode cX12_odds 163 = .ok (.lconst 1, 1) := by decide +kernel
theorem dX12_odds_164 : decode cX12_odds 164 = .ok (.goto 23, 3) := by decide +kernel
theorem dX12_odds_167 : decode cX12_odds 167 = .ok (.lconst 0, 1) := by decide +kernel
theorem dX12_odds_168 : decode cX12_odds 168 = .ok (.goto 19, 3) := by decide +kernel
theorem dX12_odds_171 : decode cX12_odds 171 = .ok (.aload_n 0, 1) := by decide +kernel
theorem dX12_odds_172 : decode cX12_odds 172 = .ok (.getfield 25, 3) := by decide +kernel
theorem dX12_odds_175 : decode cX12_odds 175 = .ok (.bipush 9, 2) := by decide +kernel
theorem dX12_odds_177 : decode cX12_odds 177 = .ok (.iload 6, 2) := by decide +kernel
theorem dX12_odds_179 : decode cX12_odds 179 = .ok (.imul, 1) := by decide +kernel
theorem dX12_odds_180 : decode cX12_odds 180 = .ok (.iconst 4, 1) := by decide +kernel
theorem dX12_odds_181 : decode cX12_odds 181 = .ok (.iadd, 1) := by decide +kernel
theorem dX12_odds_182 : decode cX12_odds 182 = .ok (.iload 8, 2) := by decide +kernel
theorem dX12_odds_184 : decode cX12_odds 184 = .ok (.iadd, 1) := by decide +kernel
theorem dX12_odds_185 : decode cX12_odds 185 = .ok (.iaload, 1) := by decide +kernel
theorem dX12_odds_186 : decode cX12_odds 186 = .ok (.i2l, 1) := by decide +kernel
theorem dX12_odds_187 : decode cX12_odds 187 = .ok (.lstore 9, 2) := by decide +kernel
theorem dX12_odds_189 : decode cX12_odds 189 = .ok (.iconst 0, 1) := by decide +kernel
theorem dX12_odds_190 : decode cX12_odds 190 = .ok (.istore 11, 2) := by decide +kernel
theorem dX12_odds_192 : decode cX12_odds 192 = .ok (.iload 11, 2) := by decide +kernel
theorem dX12_odds_194 : decode cX12_odds 194 = .ok (.bipush 49, 2) := by decide +kernel
theorem dX12_odds_196 : decode cX12_odds 196 = .ok (.if_icmp .ge 68, 3) := by decide +kernel
theorem dX12_odds_199 : decode cX12_odds 199 = .ok (.iload 11, 2) := by decide +kernel
theorem dX12_odds_201 : decode cX12_odds 201 = .ok (.aload_n 0, 1) := by decide +kernel
theorem dX12_odds_202 : decode cX12_odds 202 = .ok (.getfield 38, 3) := by decide +kernel
theorem dX12_odds_205 : decode cX12_odds 205 = .ok (.bipush 6, 2) := by decide +kernel
theorem dX12_odds_207 : decode cX12_odds 207 = .ok (.iload_n 1, 1) := by decide +kernel
theorem dX12_odds_208 : decode cX12_odds 208 = .ok (.imul, 1) := by decide +kernel
theorem dX12_odds_209 : decode cX12_odds 209 = .ok (.iload 5, 2) := by decide +kernel
theorem dX12_odds_211 : decode cX12_odds 211 = .ok (.iadd, 1) := by decide +kernel
theorem dX12_odds_212 : decode cX12_odds 212 = .ok (.iaload, 1) := by decide +kernel
theorem dX12_odds_213 : decode cX12_odds 213 = .ok (.iload 8, 2) := by decide +kernel
theorem dX12_odds_215 : decode cX12_odds 215 = .ok (.imul, 1) := by decide +kernel
theorem dX12_odds_216 : decode cX12_odds 216 = .ok (.iadd, 1) := by decide +kernel
theorem dX12_odds_217 : decode cX12_odds 217 = .ok (.istore 12, 2) := by decide +kernel
theorem dX12_odds_219 : decode cX12_odds 219 = .ok (.lload 9, 2) := by decide +kernel
theorem dX12_odds_221 : decode cX12_odds 221 = .ok (.lconst 0, 1) := by decide +kernel
theorem dX12_odds_222 : decode cX12_odds 222 = .ok (.lcmp, 1) := by decide +kernel
theorem dX12_odds_223 : decode cX12_odds 223 = .ok (.ifCond .le 35, 3) := by decide +kernel
theorem dX12_odds_226 : decode cX12_odds 226 = .ok (.aload_n 0, 1) := by decide +kernel
theorem dX12_odds_227 : decode cX12_odds 227 = .ok (.getfield 110, 3) := by decide +kernel
theorem dX12_odds_230 : decode cX12_odds 230 = .ok (.iload 11, 2) := by decide +kernel
theorem dX12_odds_232 : decode cX12_odds 232 = .ok (.laload, 1) := by decide +kernel
theorem dX12_odds_233 : decode cX12_odds 233 = .ok (.lconst 0, 1) := by decide +kernel
theorem dX12_odds_234 : decode cX12_odds 234 = .ok (.lcmp, 1) := by decide +kernel
theorem dX12_odds_235 : decode cX12_odds 235 = .ok (.ifCond .le 23, 3) := by decide +kernel
theorem dX12_odds_238 : decode cX12_odds 238 = .ok (.aload_n 0, 1) := by decide +kernel
theorem dX12_odds_239 : decode cX12_odds 239 = .ok (.getfield 114, 3) := by decide +kernel
theorem dX12_odds_242 : decode cX12_odds 242 = .ok (.iload 12, 2) := by decide +kernel
theorem dX12_odds_244 : decode cX12_odds 244 = .ok (.dup2, 1) := by decide +kernel
theorem dX12_odds_245 : decode cX12_odds 245 = .ok (.laload, 1) := by decide +kernel
theorem dX12_odds_246 : decode cX12_odds 246 = .ok (.lload 9, 2) := by decide +kernel
theorem dX12_odds_248 : decode cX12_odds 248 = .ok (.aload_n 0, 1) := by decide +kernel
theorem dX12_odds_249 : decode cX12_odds 249 = .ok (.getfield 110, 3) := by decide +kernel
theorem dX12_odds_252 : decode cX12_odds 252 = .ok (.iload 11, 2) := by decide +kernel
theorem dX12_odds_254 : decode cX12_odds 254 = .ok (.laload, 1) := by decide +kernel
theorem dX12_odds_255 : decode cX12_odds 255 = .ok (.lmul, 1) := by decide +kernel
theorem dX12_odds_256 : decode cX12_odds 256 = .ok (.ladd, 1) := by decide +kernel
theorem dX12_odds_257 : decode cX12_odds 257 = .ok (.lastore, 1) := by decide +kernel
theorem dX12_odds_258 : decode cX12_odds 258 = .ok (.iinc 11 1, 3) := by decide +kernel
theorem dX12_odds_261 : decode cX12_odds 261 = .ok (.goto (-69), 3) := by decide +kernel
theorem dX12_odds_264 : decode cX12_odds 264 = .ok (.iinc 8 1, 3) := by decide +kernel
theorem dX12_odds_267 : decode cX12_odds 267 = .ok (.goto (-120), 3) := by decide +kernel
theorem dX12_odds_270 : decode cX12_odds 270 = .ok (.iconst 0, 1) := by decide +kernel
theorem dX12_odds_271 : decode cX12_odds 271 = .ok (.istore 8, 2) := by decide +kernel
theorem dX12_odds_273 : decode cX12_odds 273 = .ok (.iload 8, 2) := by decide +kernel
theorem dX12_odds_275 : decode cX12_odds 275 = .ok (.bipush 49, 2) := by decide +kernel
theorem dX12_odds_277 : decode cX12_odds 277 = .ok (.if_icmp .ge 23, 3) := by decide +kernel
theorem dX12_odds_280 : decode cX12_odds 280 = .ok (.aload_n 0, 1) := by decide +kernel
theorem dX12_odds_281 : decode cX12_odds 281 = .ok (.getfield 110, 3) := by decide +kernel
theorem dX12_odds_284 : decode cX12_odds 284 = .ok (.iload 8, 2) := by decide +kernel
theorem dX12_odds_286 : decode cX12_odds 286 = .ok (.aload_n 0, 1) := by decide +kernel
theorem dX12_odds_287 : decode cX12_odds 287 = .ok (.getfield 114, 3) := by decide +kernel
theorem dX12_odds_290 : decode cX12_odds 290 = .ok (.iload 8, 2) := by decide +kernel
theorem dX12_odds_292 : decode cX12_odds 292 = .ok (.laload, 1) := by decide +kernel
theorem dX12_odds_293 : decode cX12_odds 293 = .ok (.lastore, 1) := by decide +kernel
theorem dX12_odds_294 : decode cX12_odds 294 = .ok (.iinc 8 1, 3) := by decide +kernel
theorem dX12_odds_297 : decode cX12_odds 297 = .ok (.goto (-24), 3) := by decide +kernel
theorem dX12_odds_300 : decode cX12_odds 300 = .ok (.lload_n 3, 1) := by decide +kernel
theorem dX12_odds_301 : decode cX12_odds 301 = .ok (.iload 7, 2) := by decide +kernel
theorem dX12_odds_303 : decode cX12_odds 303 = .ok (.ifCond .ne 7, 3) := by decide +kernel
theorem dX12_odds_306 : decode cX12_odds 306 = .ok (.lconst 1, 1) := by decide +kernel
theorem dX12_odds_307 : decode cX12_odds 307 = .ok (.goto 6, 3) := by decide +kernel
theorem dX12_odds_310 : decode cX12_odds 310 = .ok (.iload 7, 2) := by decide +kernel
theorem dX12_odds_312 : decode cX12_odds 312 = .ok (.i2l, 1) := by decide +kernel
theorem dX12_odds_313 : decode cX12_odds 313 = .ok (.lmul, 1) := by decide +kernel
theorem dX12_odds_314 : decode cX12_odds 314 = .ok (.lstore_n 3, 1) := by decide +kernel
theorem dX12_odds_315 : decode cX12_odds 315 = .ok (.iinc 5 1, 3) := by decide +kernel
theorem dX12_odds_318 : decode cX12_odds 318 = .ok (.goto (-261), 3) := by decide +kernel
theorem dX12_odds_321 : decode cX12_odds 321 = .ok (.lconst 0, 1) := by decide +kernel
theorem dX12_odds_322 : decode cX12_odds 322 = .ok (.lstore 5, 2) := by decide +kernel
theorem dX12_odds_324 : decode cX12_odds 324 = .ok (.iconst 0, 1) := by decide +kernel
theorem dX12_odds_325 : decode cX12_odds 325 = .ok (.istore 7, 2) := by decide +kernel
theorem dX12_odds_327 : decode cX12_odds 327 = .ok (.iload 7, 2) := by decide +kernel
theorem dX12_odds_329 : decode cX12_odds 329 = .ok (.bipush 49, 2) := by decide +kernel
theorem dX12_odds_331 : decode cX12_odds 331 = .ok (.if_icmp .ge 54, 3) := by decide +kernel
theorem dX12_odds_334 : decode cX12_odds 334 = .ok (.lload 5, 2) := by decide +kernel
theorem dX12_odds_336 : decode cX12_odds 336 = .ok (.aload_n 0, 1) := by decide +kernel
theorem dX12_odds_337 : decode cX12_odds 337 = .ok (.iload_n 1, 1) := by decide +kernel
theorem dX12_odds_338 : decode cX12_odds 338 = .ok (.invokevirtual 189, 3) := by decide +kernel
theorem dX12_odds_341 : decode cX12_odds 341 = .ok (.iload 7, 2) := by decide +kernel
theorem dX12_odds_343 : decode cX12_odds 343 = .ok (.iadd, 1) := by decide +kernel
theorem dX12_odds_344 : decode cX12_odds 344 = .ok (.bipush 24, 2) := by decide +kernel
theorem dX12_odds_346 : decode cX12_odds 346 = .ok (.isub, 1) := by decide +kernel
theorem dX12_odds_347 : decode cX12_odds 347 = .ok (.aload_n 0, 1) := by decide +kernel
theorem dX12_odds_348 : decode cX12_odds 348 = .ok (.getfield 41, 3) := by decide +kernel
theorem dX12_odds_351 : decode cX12_odds 351 = .ok (.iload_n 1, 1) := by decide +kernel
theorem dX12_odds_352 : decode cX12_odds 352 = .ok (.iaload, 1) := by decide +kernel
theorem dX12_odds_353 : decode cX12_odds 353 = .ok (.aload_n 0, 1) := by decide +kernel
theorem dX12_odds_354 : decode cX12_odds 354 = .ok (.getfield 44, 3) := by decide +kernel
theorem dX12_odds_357 : decode cX12_odds 357 = .ok (.iload_n 1, 1) := by decide +kernel
theorem dX12_odds_358 : decode cX12_odds 358 = .ok (.iaload, 1) := by decide +kernel
theorem dX12_odds_359 : decode cX12_odds 359 = .ok (.invokestatic 142, 3) := by decide +kernel
theorem dX12_odds_362 : decode cX12_odds 362 = .ok (.ifCond .eq 13, 3) := by decide +kernel
theorem dX12_odds_365 : decode cX12_odds 365 = .ok (.aload_n 0, 1) := by decide +kernel
theorem dX12_odds_366 : decode cX12_odds 366 = .ok (.getfield 110, 3) := by decide +kernel
theorem dX12_odds_369 : decode cX12_odds 369 = .ok (.iload 7, 2) := by decide +kernel
theorem dX12_odds_371 : decode cX12_odds 371 = .ok (.laload, 1) := by decide +kernel
theorem dX12_odds_372 : decode cX12_odds 372 = .ok (.goto 4, 3) := by decide +kernel
theorem dX12_odds_375 : decode cX12_odds 375 = .ok (.lconst 0, 1) := by decide +kernel
theorem dX12_odds_376 : decode cX12_odds 376 = .ok (.ladd, 1) := by decide +kernel
theorem dX12_odds_377 : decode cX12_odds 377 = .ok (.lstore 5, 2) := by decide +kernel
theorem dX12_odds_379 : decode cX12_odds 379 = .ok (.iinc 7 1, 3) := by decide +kernel
theorem dX12_odds_382 : decode cX12_odds 382 = .ok (.goto (-55), 3) := by decide +kernel
theorem dX12_odds_385 : decode cX12_odds 385 = .ok (.lload 5, 2) := by decide +kernel
theorem dX12_odds_387 : decode cX12_odds 387 = .ok (.lstore 7, 2) := by decide +kernel
theorem dX12_odds_389 : decode cX12_odds 389 = .ok (.lload_n 3, 1) := by decide +kernel
theorem dX12_odds_390 : decode cX12_odds 390 = .ok (.lstore 9, 2) := by decide +kernel
theorem dX12_odds_392 : decode cX12_odds 392 = .ok (.lload 9, 2) := by decide +kernel
theorem dX12_odds_394 : decode cX12_odds 394 = .ok (.lconst 0, 1) := by decide +kernel
theorem dX12_odds_395 : decode cX12_odds 395 = .ok (.lcmp, 1) := by decide +kernel
theorem dX12_odds_396 : decode cX12_odds 396 = .ok (.ifCond .eq 21, 3) := by decide +kernel
theorem dX12_odds_399 : decode cX12_odds 399 = .ok (.lload 7, 2) := by decide +kernel
theorem dX12_odds_401 : decode cX12_odds 401 = .ok (.lload 9, 2) := by decide +kernel
theorem dX12_odds_403 : decode cX12_odds 403 = .ok (.lrem, 1) := by decide +kernel
theorem dX12_odds_404 : decode cX12_odds 404 = .ok (.lstore 11, 2) := by decide +kernel
theorem dX12_odds_406 : decode cX12_odds 406 = .ok (.lload 9, 2) := by decide +kernel
theorem dX12_odds_408 : decode cX12_odds 408 = .ok (.lstore 7, 2) := by decide +kernel
theorem dX12_odds_410 : decode cX12_odds 410 = .ok (.lload 11, 2) := by decide +kernel
theorem dX12_odds_412 : decode cX12_odds 412 = .ok (.lstore 9, 2) := by decide +kernel
theorem dX12_odds_414 : decode cX12_odds 414 = .ok (.goto (-22), 3) := by decide +kernel
theorem dX12_odds_417 : decode cX12_odds 417 = .ok (.iload_n 2, 1) := by decide +kernel
theorem dX12_odds_418 : decode cX12_odds 418 = .ok (.ifCond .ne 11, 3) := by decide +kernel
theorem dX12_odds_421 : decode cX12_odds 421 = .ok (.lload 5, 2) := by decide +kernel
theorem dX12_odds_423 : decode cX12_odds 423 = .ok (.lload 7, 2) := by decide +kernel
theorem dX12_odds_425 : decode cX12_odds 425 = .ok (.ldiv, 1) := by decide +kernel
theorem dX12_odds_426 : decode cX12_odds 426 = .ok (.goto 7, 3) := by decide +kernel
theorem dX12_odds_429 : decode cX12_odds 429 = .ok (.lload_n 3, 1) := by decide +kernel
theorem dX12_odds_430 : decode cX12_odds 430 = .ok (.lload 7, 2) := by decide +kernel
theorem dX12_odds_432 : decode cX12_odds 432 = .ok (.ldiv, 1) := by decide +kernel
theorem dX12_odds_433 : decode cX12_odds 433 = .ok (.lreturn, 1) := by decide +kernel
theorem cd_159 (G : ZG) (d : Nat) (K : ZKt) (F : ZFt) (hT : zt5 G.2.2.2) : CS G RX12 cX12_odds 13 d K (some .long) [] (fun _ => []) 0 (bd_159 G.2.2.2 K F) := by
  unfold bd_159
  exact (CS.seq 21 (CS.if1 (T := 17) (F := 21) (CD.pure (CC.or (CC.not (CC.if_ne_F (T := 8) (F := 17) (CE.callV (by decide) (CA.ref (CE.aload_n rfl dX12_odds_0 zhd) (CA.int (CE.iload_n rfl dX12_odds_1 zhd) CA.nil)) zi_153 cv_X12_198 (fun _ => rfl) dX12_odds_2 zhd) dX12_odds_5 rfl rfl)) (CC.not (CC.if_ne_T (T := 21) (F := 17) (CE.callS (by decide) (CA.int (CE.iload_n rfl dX12_odds_8 zhd) (CA.int (CE.iconst kI_0 dX12_odds_9 zhd) (CA.int (CE.iconst kI_1 dX12_odds_10 zhd) CA.nil))) zi_135 cs_X12_142 (fun _ => rfl) dX12_odds_11 zhd) dX12_odds_14 rfl rfl)))) (CS.retL (CX.pure (CE.ldc2 lc_X12_206 dX12_odds_17 zhd)) dX12_odds_20) zhd)
  (CS.seq 52 (CS.scope (CS.seq 23 (CS.decI_n (CX.pure (CE.iconst kI_0 dX12_odds_21 zhd)) rfl (by decide) dX12_odds_22 zhd)
  (CS.whl (T := 29) (F := 52) (p1 := 49) (CD.pure (CC.icmp_lt_F (T := 29) (F := 52) (CE.iload_n rfl dX12_odds_23 zhd) (CE.bipush kB_49 dX12_odds_24 zhd) dX12_odds_26 rfl rfl))
  (CS.seq 46 (CS.stL (CE.getR (CE.aload_n rfl dX12_odds_29 zhd) fs_X12_110 dX12_odds_30 zhd) (CE.iload_n rfl dX12_odds_33 zhd) (CE.tern (T := 40) (F := 44) (p1 := 41) (q := 45) (CC.icmp_eq_F (T := 40) (F := 44) (CE.iload_n rfl dX12_odds_34 zhd) (CE.bipush kB_24 dX12_odds_35 zhd) dX12_odds_37 rfl rfl) (CE.lconst kJ_1 dX12_odds_40 zhd) zex2 dX12_odds_41 rfl zhd (CE.lconst kJ_0 dX12_odds_44 zhd)) dX12_odds_45 zhd)
  (CS.inc kI_1 (by decide) dX12_odds_46 zhd)) dX12_odds_49 rfl zhd)))
  (CS.seq 54 (CS.decL_n (CX.pure (CE.lconst kJ_1 dX12_odds_52 zhd)) rfl (by decide) dX12_odds_53 zhd)
  (CS.seq 321 (CS.scope (CS.seq 57 (CS.decI (CX.pure (CE.iconst kI_0 dX12_odds_54 zhd)) (by decide) dX12_odds_55 zhd)
  (CS.whl (T := 68) (F := 321) (p1 := 318) (CD.pure (CC.icmp_lt_F (T := 68) (F := 321) (CE.iload dX12_odds_57 zhd) (CE.aldI (CE.getR (CE.aload_n rfl dX12_odds_59 zhd) fs_X12_32 dX12_odds_60 zhd) (CE.iload_n rfl dX12_odds_63 zhd) (Or.inl ⟨rfl, dX12_odds_64⟩) zhd) dX12_odds_65 rfl rfl))
  (CS.seq 315 (CS.scope (CS.seq 82 (CS.decI (CX.pure (CE.aldI (CE.getR (CE.aload_n rfl dX12_odds_68 zhd) fs_X12_35 dX12_odds_69 zhd) (CE.iadd (CE.imul (CE.bipush kB_6 dX12_odds_72 zhd) (CE.iload_n rfl dX12_odds_74 zhd) dX12_odds_75 zhd) (CE.iload dX12_odds_76 zhd) dX12_odds_78 zhd) (Or.inl ⟨rfl, dX12_odds_79⟩) zhd)) (by decide) dX12_odds_80 zhd)
  (CS.seq 85 (CS.decI (CX.pure (CE.iconst kI_0 dX12_odds_82 zhd)) (by decide) dX12_odds_83 zhd)
  (CS.seq 119 (CS.scope (CS.seq 88 (CS.decI (CX.pure (CE.iconst kI_0 dX12_odds_85 zhd)) (by decide) dX12_odds_86 zhd)
  (CS.whl (T := 95) (F := 119) (p1 := 116) (CD.pure (CC.icmp_lt_F (T := 95) (F := 119) (CE.iload dX12_odds_88 zhd) (CE.bipush kB_9 dX12_odds_90 zhd) dX12_odds_92 rfl rfl))
  (CS.seq 113 (CS.setI (CX.pure (CE.iadd (CE.iload dX12_odds_95 zhd) (CE.aldI (CE.getR (CE.aload_n rfl dX12_odds_97 zhd) fs_X12_25 dX12_odds_98 zhd) (CE.iadd (CE.imul (CE.bipush kB_9 dX12_odds_101 zhd) (CE.iload dX12_odds_103 zhd) dX12_odds_105 zhd) (CE.iload dX12_odds_106 zhd) dX12_odds_108 zhd) (Or.inl ⟨rfl, dX12_odds_109⟩) zhd) dX12_odds_110 zhd)) (by decide) dX12_odds_111 zhd)
  (CS.inc kI_1 (by decide) dX12_odds_113 zhd)) dX12_odds_116 rfl zhd)))
  (CS.seq 143 (CS.scope (CS.seq 122 (CS.decI (CX.pure (CE.iconst kI_0 dX12_odds_119 zhd)) (by decide) dX12_odds_120 zhd)
  (CS.whl (T := 129) (F := 143) (p1 := 140) (CD.pure (CC.icmp_lt_F (T := 129) (F := 143) (CE.iload dX12_odds_122 zhd) (CE.bipush kB_49 dX12_odds_124 zhd) dX12_odds_126 rfl rfl))
  (CS.seq 137 (CS.stL (CE.getR (CE.aload_n rfl dX12_odds_129 zhd) fs_X12_114 dX12_odds_130 zhd) (CE.iload dX12_odds_133 zhd) (CE.lconst kJ_0 dX12_odds_135 zhd) dX12_odds_136 zhd)
  (CS.inc kI_1 (by decide) dX12_odds_137 zhd)) dX12_odds_140 rfl zhd)))
  (CS.seq 270 (CS.scope (CS.seq 147 (CS.decI (CX.pure (CE.bipush kB_m4 dX12_odds_143 zhd)) (by decide) dX12_odds_145 zhd)
  (CS.whl (T := 153) (F := 270) (p1 := 267) (CD.pure (CC.icmp_le_F (T := 153) (F := 270) (CE.iload dX12_odds_147 zhd) (CE.iconst kI_4 dX12_odds_149 zhd) dX12_odds_150 rfl rfl))
  (CS.seq 264 (CS.scope (CS.seq 189 (CS.decL (CX.pure (CE.tern (T := 158) (F := 171) (p1 := 168) (q := 187) (CC.if_eq_F (T := 158) (F := 171) (CE.iload dX12_odds_153 zhd) dX12_odds_155 rfl rfl) (CE.tern (T := 163) (F := 167) (p1 := 164) (q := 187) (CC.if_eq_F (T := 163) (F := 167) (CE.iload dX12_odds_158 zhd) dX12_odds_160 rfl rfl) (CE.lconst kJ_1 dX12_odds_163 zhd) zex2 dX12_odds_164 rfl zh1 (CE.lconst kJ_0 dX12_odds_167 zhd)) zex2 dX12_odds_168 rfl zhd (CE.i2l (CE.aldI (CE.getR (CE.aload_n rfl dX12_odds_171 zhd) fs_X12_25 dX12_odds_172 zhd) (CE.iadd (CE.iadd (CE.imul (CE.bipush kB_9 dX12_odds_175 zhd) (CE.iload dX12_odds_177 zhd) dX12_odds_179 zhd) (CE.iconst kI_4 dX12_odds_180 zhd) dX12_odds_181 zhd) (CE.iload dX12_odds_182 zhd) dX12_odds_184 zhd) (Or.inl ⟨rfl, dX12_odds_185⟩) zhd) dX12_odds_186 zhd))) (by decide) dX12_odds_187 zhd)
  (CS.scope (CS.seq 192 (CS.decI (CX.pure (CE.iconst kI_0 dX12_odds_189 zhd)) (by decide) dX12_odds_190 zhd)
  (CS.whl (T := 199) (F := 264) (p1 := 261) (CD.pure (CC.icmp_lt_F (T := 199) (F := 264) (CE.iload dX12_odds_192 zhd) (CE.bipush kB_49 dX12_odds_194 zhd) dX12_odds_196 rfl rfl))
  (CS.seq 258 (CS.scope (CS.seq 219 (CS.decI (CX.pure (CE.iadd (CE.iload dX12_odds_199 zhd) (CE.imul (CE.aldI (CE.getR (CE.aload_n rfl dX12_odds_201 zhd) fs_X12_38 dX12_odds_202 zhd) (CE.iadd (CE.imul (CE.bipush kB_6 dX12_odds_205 zhd) (CE.iload_n rfl dX12_odds_207 zhd) dX12_odds_208 zhd) (CE.iload dX12_odds_209 zhd) dX12_odds_211 zhd) (Or.inl ⟨rfl, dX12_odds_212⟩) zhd) (CE.iload dX12_odds_213 zhd) dX12_odds_215 zhd) dX12_odds_216 zhd)) (by decide) dX12_odds_217 zhd)
  (CS.if1 (T := 238) (F := 258) (CD.pure (CC.and (CC.lcmp_gt_F (T := 226) (F := 258) (CE.lload dX12_odds_219 zhd) (CE.lconst kJ_0 dX12_odds_221 zhd) dX12_odds_222 dX12_odds_223 rfl rfl) (CC.lcmp_gt_F (T := 238) (F := 258) (CE.aldL (CE.getR (CE.aload_n rfl dX12_odds_226 zhd) fs_X12_110 dX12_odds_227 zhd) (CE.iload dX12_odds_230 zhd) dX12_odds_232 zhd) (CE.lconst kJ_0 dX12_odds_233 zhd) dX12_odds_234 dX12_odds_235 rfl rfl))) (CS.stUL (CE.getR (CE.aload_n rfl dX12_odds_238 zhd) fs_X12_114 dX12_odds_239 zhd) (CE.iload dX12_odds_242 zhd) dX12_odds_244 dX12_odds_245 (CE.lmul (CE.lload dX12_odds_246 zhd) (CE.aldL (CE.getR (CE.aload_n rfl dX12_odds_248 zhd) fs_X12_110 dX12_odds_249 zhd) (CE.iload dX12_odds_252 zhd) dX12_odds_254 zhd) dX12_odds_255 zhd) rfl dX12_odds_256 dX12_odds_257 zhd) zhd)))
  (CS.inc kI_1 (by decide) dX12_odds_258 zhd)) dX12_odds_261 rfl zhd)))))
  (CS.inc kI_1 (by decide) dX12_odds_264 zhd)) dX12_odds_267 rfl zhd)))
  (CS.seq 300 (CS.scope (CS.seq 273 (CS.decI (CX.pure (CE.iconst kI_0 dX12_odds_270 zhd)) (by decide) dX12_odds_271 zhd)
  (CS.whl (T := 280) (F := 300) (p1 := 297) (CD.pure (CC.icmp_lt_F (T := 280) (F := 300) (CE.iload dX12_odds_273 zhd) (CE.bipush kB_49 dX12_odds_275 zhd) dX12_odds_277 rfl rfl))
  (CS.seq 294 (CS.stL (CE.getR (CE.aload_n rfl dX12_odds_280 zhd) fs_X12_110 dX12_odds_281 zhd) (CE.iload dX12_odds_284 zhd) (CE.aldL (CE.getR (CE.aload_n rfl dX12_odds_286 zhd) fs_X12_114 dX12_odds_287 zhd) (CE.iload dX12_odds_290 zhd) dX12_odds_292 zhd) dX12_odds_293 zhd)
  (CS.inc kI_1 (by decide) dX12_odds_294 zhd)) dX12_odds_297 rfl zhd)))
  (CS.setL_n (CX.pure (CE.lmul (CE.lload_n rfl dX12_odds_300 zhd) (CE.tern (T := 306) (F := 310) (p1 := 307) (q := 313) (CC.if_eq_F (T := 306) (F := 310) (CE.iload dX12_odds_301 zhd) dX12_odds_303 rfl rfl) (CE.lconst kJ_1 dX12_odds_306 zhd) zex2 dX12_odds_307 rfl zhd (CE.i2l (CE.iload dX12_odds_310 zhd) dX12_odds_312 zhd)) dX12_odds_313 zhd)) rfl (by decide) dX12_odds_314 zhd))))))))
  (CS.inc kI_1 (by decide) dX12_odds_315 zhd)) dX12_odds_318 rfl zhd)))
  (CS.seq 324 (CS.decL (CX.pure (CE.lconst kJ_0 dX12_odds_321 zhd)) (by decide) dX12_odds_322 zhd)
  (CS.seq 385 (CS.scope (CS.seq 327 (CS.decI (CX.pure (CE.iconst kI_0 dX12_odds_324 zhd)) (by decide) dX12_odds_325 zhd)
  (CS.whl (T := 334) (F := 385) (p1 := 382) (CD.pure (CC.icmp_lt_F (T := 334) (F := 385) (CE.iload dX12_odds_327 zhd) (CE.bipush kB_49 dX12_odds_329 zhd) dX12_odds_331 rfl rfl))
  (CS.seq 379 (CS.setL (CX.pure (CE.ladd (CE.lload dX12_odds_334 zhd) (CE.tern (T := 365) (F := 375) (p1 := 372) (q := 376) (CC.if_ne_F (T := 365) (F := 375) (CE.callS (by decide) (CA.int (CE.isub (CE.iadd (CE.callV (by decide) (CA.ref (CE.aload_n rfl dX12_odds_336 zhd) (CA.int (CE.iload_n rfl dX12_odds_337 zhd) CA.nil)) zi_154 cv_X12_189 (fun _ => rfl) dX12_odds_338 zhd) (CE.iload dX12_odds_341 zhd) dX12_odds_343 zhd) (CE.bipush kB_24 dX12_odds_344 zhd) dX12_odds_346 zhd) (CA.int (CE.aldI (CE.getR (CE.aload_n rfl dX12_odds_347 zhd) fs_X12_41 dX12_odds_348 zhd) (CE.iload_n rfl dX12_odds_351 zhd) (Or.inl ⟨rfl, dX12_odds_352⟩) zhd) (CA.int (CE.aldI (CE.getR (CE.aload_n rfl dX12_odds_353 zhd) fs_X12_44 dX12_odds_354 zhd) (CE.iload_n rfl dX12_odds_357 zhd) (Or.inl ⟨rfl, dX12_odds_358⟩) zhd) CA.nil))) zi_135 cs_X12_142 (fun _ => rfl) dX12_odds_359 zhd) dX12_odds_362 rfl rfl) (CE.aldL (CE.getR (CE.aload_n rfl dX12_odds_365 zhd) fs_X12_110 dX12_odds_366 zhd) (CE.iload dX12_odds_369 zhd) dX12_odds_371 zhd) zex2 dX12_odds_372 rfl zhd (CE.lconst kJ_0 dX12_odds_375 zhd)) dX12_odds_376 zhd)) (by decide) dX12_odds_377 zhd)
  (CS.inc kI_1 (by decide) dX12_odds_379 zhd)) dX12_odds_382 rfl zhd)))
  (CS.seq 389 (CS.decL (CX.pure (CE.lload dX12_odds_385 zhd)) (by decide) dX12_odds_387 zhd)
  (CS.seq 392 (CS.decL (CX.pure (CE.lload_n rfl dX12_odds_389 zhd)) (by decide) dX12_odds_390 zhd)
  (CS.seq 417 (CS.whl (T := 399) (F := 417) (p1 := 414) (CD.pure (CC.lcmp_ne_F (T := 399) (F := 417) (CE.lload dX12_odds_392 zhd) (CE.lconst kJ_0 dX12_odds_394 zhd) dX12_odds_395 dX12_odds_396 rfl rfl))
  (CS.scope (CS.seq 406 (CS.decL (CX.pure (CE.lrem (CE.lload dX12_odds_399 zhd) (CE.lload dX12_odds_401 zhd) dX12_odds_403 zhd)) (by decide) dX12_odds_404 zhd)
  (CS.seq 410 (CS.setL (CX.pure (CE.lload dX12_odds_406 zhd)) (by decide) dX12_odds_408 zhd)
  (CS.setL (CX.pure (CE.lload dX12_odds_410 zhd)) (by decide) dX12_odds_412 zhd)))) dX12_odds_414 rfl zhd)
  (CS.retL (CX.pure (CE.tern (T := 421) (F := 429) (p1 := 426) (q := 433) (CC.if_eq_F (T := 421) (F := 429) (CE.iload_n rfl dX12_odds_417 zhd) dX12_odds_418 rfl rfl) (CE.ldiv (CE.lload dX12_odds_421 zhd) (CE.lload dX12_odds_423 zhd) dX12_odds_425 zhd) zex2 dX12_odds_426 rfl zhd (CE.ldiv (CE.lload_n rfl dX12_odds_429 zhd) (CE.lload dX12_odds_430 zhd) dX12_odds_432 zhd))) dX12_odds_433))))))))))
theorem dX12_allHold_0 : decode cX12_allHold 0 = .ok (.iconst 1, 1) := by decide +kernel
theorem dX12_allHold_1 : decode cX12_allHold 1 = .ok (.istore_n 1, 1) := by decide +kernel
theorem dX12_allHold_2 : decode cX12_allHold 2 = .ok (.iconst 0, 1) := by decide +kernel
theorem dX12_allHold_3 : decode cX12_allHold 3 = .ok (.istore_n 2, 1) := by decide +kernel
theorem dX12_allHold_4 : decode cX12_allHold 4 = .ok (.iload_n 2, 1) := by decide +kernel
theorem dX12_allHold_5 : decode cX12_allHold 5 = .ok (.aload_n 0, 1) := by decide +kernel
theorem dX12_allHold_6 : decode cX12_allHold 6 = .ok (.getfield 186, 3) := by decide +kernel
theorem dX12_allHold_9 : decode cX12_allHold 9 = .ok (.if_icmp .ge 19, 3) := by decide +kernel
theorem dX12_allHold_12 : decode cX12_allHold 12 = .ok (.iload_n 1, 1) := by decide +kernel
theorem dX12_allHold_13 : decode cX12_allHold 13 = .ok (.ifCond .eq 15, 3) := by decide +kernel
theorem dX12_allHold_16 : decode cX12_allHold 16 = .ok (.aload_n 0, 1) := by decide +kernel
theorem dX12_allHold_17 : decode cX12_allHold 17 = .ok (.iload_n 2, 1) := by decide +kernel
theorem dX12_allHold_18 : decode cX12_allHold 18 = .ok (.invokevirtual 195, 3) := by decide +kernel
theorem dX12_allHold_21 : decode cX12_allHold 21 = .ok (.istore_n 1, 1) := by decide +kernel
theorem dX12_allHold_22 : decode cX12_allHold 22 = .ok (.iinc 2 1, 3) := by decide +kernel
theorem dX12_allHold_25 : decode cX12_allHold 25 = .ok (.goto (-21), 3) := by decide +kernel
theorem dX12_allHold_28 : decode cX12_allHold 28 = .ok (.iload_n 1, 1) := by decide +kernel
theorem dX12_allHold_29 : decode cX12_allHold 29 = .ok (.ireturn, 1) := by decide +kernel
theorem cd_160 (G : ZG) (d : Nat) (K : ZKt) (F : ZFt) (hT : zt5 G.2.2.2) : CS G RX12 cX12_allHold 3 d K (some .boolean) [] (fun _ => []) 0 (bd_160 G.2.2.2 K F) := by
  unfold bd_160
  exact (CS.seq 2 (CS.decI_n (CX.pure (CE.iconst kI_1 dX12_allHold_0 zhd)) rfl (by decide) dX12_allHold_1 zhd)
  (CS.seq 28 (CS.scope (CS.seq 4 (CS.decI_n (CX.pure (CE.iconst kI_0 dX12_allHold_2 zhd)) rfl (by decide) dX12_allHold_3 zhd)
  (CS.whl (T := 16) (F := 28) (p1 := 25) (CD.pure (CC.and (CC.icmp_lt_F (T := 12) (F := 28) (CE.iload_n rfl dX12_allHold_4 zhd) (CE.getI (CE.aload_n rfl dX12_allHold_5 zhd) fs_X12_186 dX12_allHold_6 zhd) dX12_allHold_9 rfl rfl) (CC.if_ne_F (T := 16) (F := 28) (CE.iload_n rfl dX12_allHold_12 zhd) dX12_allHold_13 rfl rfl)))
  (CS.seq 22 (CS.setI_n (CX.pure (CE.callV (by decide) (CA.ref (CE.aload_n rfl dX12_allHold_16 zhd) (CA.int (CE.iload_n rfl dX12_allHold_17 zhd) CA.nil)) zi_156 cv_X12_195 (fun _ => rfl) dX12_allHold_18 zhd)) rfl (by decide) dX12_allHold_21 zhd)
  (CS.inc kI_1 (by decide) dX12_allHold_22 zhd)) dX12_allHold_25 rfl zhd)))
  (CS.retZ (CX.pure (CE.iload_n rfl dX12_allHold_28 zhd)) dX12_allHold_29)))
theorem dX12_giveOut_0 : decode cX12_giveOut 0 = .ok (.iload_n 1, 1) := by decide +kernel
theorem dX12_giveOut_1 : decode cX12_giveOut 1 = .ok (.iconst 1, 1) := by decide +kernel
theorem dX12_giveOut_2 : decode cX12_giveOut 2 = .ok (.bipush 6, 2) := by decide +kernel
theorem dX12_giveOut_4 : decode cX12_giveOut 4 = .ok (.invokestatic 142, 3) := by decide +kernel
theorem dX12_giveOut_7 : decode cX12_giveOut 7 = .ok (.ifCond .eq 20, 3) := by decide +kernel
theorem dX12_giveOut_10 : decode cX12_giveOut 10 = .ok (.iload_n 2, 1) := by decide +kernel
theorem dX12_giveOut_11 : decode cX12_giveOut 11 = .ok (.ifCond .eq 19, 3) := by decide +kernel
theorem dX12_giveOut_14 : decode cX12_giveOut 14 = .ok (.iload_n 2, 1) := by decide +kernel
theorem dX12_giveOut_15 : decode cX12_giveOut 15 = .ok (.bipush 10, 2) := by decide +kernel
theorem dX12_giveOut_17 : decode cX12_giveOut 17 = .ok (.bipush 9, 2) := by decide +kernel
theorem dX12_giveOut_19 : decode cX12_giveOut 19 = .ok (.iload_n 1, 1) := by decide +kernel
theorem dX12_giveOut_20 : decode cX12_giveOut 20 = .ok (.iadd, 1) := by decide +kernel
theorem dX12_giveOut_21 : decode cX12_giveOut 21 = .ok (.invokestatic 142, 3) := by decide +kernel
theorem dX12_giveOut_24 : decode cX12_giveOut 24 = .ok (.ifCond .ne 6, 3) := by decide +kernel
theorem dX12_giveOut_27 : decode cX12_giveOut 27 = .ok (.bipush (-102), 2) := by decide +kernel
theorem dX12_giveOut_29 : decode cX12_giveOut 29 = .ok (.ireturn, 1) := by decide +kernel
theorem dX12_giveOut_30 : decode cX12_giveOut 30 = .ok (.aload_n 0, 1) := by decide +kernel
theorem dX12_giveOut_31 : decode cX12_giveOut 31 = .ok (.getfield 208, 3) := by decide +kernel
theorem dX12_giveOut_34 : decode cX12_giveOut 34 = .ok (.bipush 30, 2) := by decide +kernel
theorem dX12_giveOut_36 : decode cX12_giveOut 36 = .ok (.if_icmp .ne 6, 3) := by decide +kernel
theorem dX12_giveOut_39 : decode cX12_giveOut 39 = .ok (.bipush (-103), 2) := by decide +kernel
theorem dX12_giveOut_41 : decode cX12_giveOut 41 = .ok (.ireturn, 1) := by decide +kernel
theorem dX12_giveOut_42 : decode cX12_giveOut 42 = .ok (.aload_n 0, 1) := by decide +kernel
theorem dX12_giveOut_43 : decode cX12_giveOut 43 = .ok (.dup, 1) := by decide +kernel
theorem dX12_giveOut_44 : decode cX12_giveOut 44 = .ok (.getfield 208, 3) := by decide +kernel
theorem dX12_giveOut_47 : decode cX12_giveOut 47 = .ok (.iconst 1, 1) := by decide +kernel
theorem dX12_giveOut_48 : decode cX12_giveOut 48 = .ok (.iadd, 1) := by decide +kernel
theorem dX12_giveOut_49 : decode cX12_giveOut 49 = .ok (.putfield 208, 3) := by decide +kernel
theorem dX12_giveOut_52 : decode cX12_giveOut 52 = .ok (.iconst 0, 1) := by decide +kernel
theorem dX12_giveOut_53 : decode cX12_giveOut 53 = .ok (.istore_n 3, 1) := by decide +kernel
theorem dX12_giveOut_54 : decode cX12_giveOut 54 = .ok (.iload_n 3, 1) := by decide +kernel
theorem dX12_giveOut_55 : decode cX12_giveOut 55 = .ok (.bipush 8, 2) := by decide +kernel
theorem dX12_giveOut_57 : decode cX12_giveOut 57 = .ok (.if_icmp .ge 21, 3) := by decide +kernel
theorem dX12_giveOut_60 : decode cX12_giveOut 60 = .ok (.aload_n 0, 1) := by decide +kernel
theorem dX12_giveOut_61 : decode cX12_giveOut 61 = .ok (.getfield 117, 3) := by decide +kernel
theorem dX12_giveOut_64 : decode cX12_giveOut 64 = .ok (.iload_n 3, 1) := by decide +kernel
theorem dX12_giveOut_65 : decode cX12_giveOut 65 = .ok (.aload_n 0, 1) := by decide +kernel
theorem dX12_giveOut_66 : decode cX12_giveOut 66 = .ok (.getfield 16, 3) := by decide +kernel
theorem dX12_giveOut_69 : decode cX12_giveOut 69 = .ok (.iload_n 3, 1) := by decide +kernel
theorem dX12_giveOut_70 : decode cX12_giveOut 70 = .ok (.iaload, 1) := by decide +kernel
theorem dX12_giveOut_71 : decode cX12_giveOut 71 = .ok (.iastore, 1) := by decide +kernel
theorem dX12_giveOut_72 : decode cX12_giveOut 72 = .ok (.iinc 3 1, 3) := by decide +kernel
theorem dX12_giveOut_75 : decode cX12_giveOut 75 = .ok (.goto (-21), 3) := by decide +kernel
theorem dX12_giveOut_78 : decode cX12_giveOut 78 = .ok (.iconst (-1), 1) := by decide +kernel
theorem dX12_giveOut_79 : decode cX12_giveOut 79 = .ok (.istore_n 3, 1) := by decide +kernel
theorem dX12_giveOut_80 : decode cX12_giveOut 80 = .ok (.iconst 0, 1) := by decide +kernel
theorem dX12_giveOut_81 : decode cX12_giveOut 81 = .ok (.istore 4, 2) := by decide +kernel
theorem dX12_giveOut_83 : decode cX12_giveOut 83 = .ok (.iconst 0, 1) := by decide +kernel
theorem dX12_giveOut_84 : decode cX12_giveOut 84 = .ok (.istore 5, 2) := by decide +kernel
theorem dX12_giveOut_86 : decode cX12_giveOut 86 = .ok (.iload 5, 2) := by decide +kernel
theorem dX12_giveOut_88 : decode cX12_giveOut 88 = .ok (.iconst 1, 1) := by decide +kernel
theorem dX12_giveOut_89 : decode cX12_giveOut 89 = .ok (.iconst 2, 1) := by decide +kernel
theorem dX12_giveOut_90 : decode cX12_giveOut 90 = .ok (.iload_n 1, 1) := by decide +kernel
theorem dX12_giveOut_91 : decode cX12_giveOut 91 = .ok (.imul, 1) := by decide +kernel
theorem dX12_giveOut_92 : decode cX12_giveOut 92 = .ok (.ishl, 1) := by decide +kernel
theorem dX12_giveOut_93 : decode cX12_giveOut 93 = .ok (.if_icmp .ge 91, 3) := by decide +kernel
theorem dX12_giveOut_96 : decode cX12_giveOut 96 = .ok (.iconst 0, 1) := by decide +kernel
theorem dX12_giveOut_97 : decode cX12_giveOut 97 = .ok (.istore 6, 2) := by decide +kernel
theorem dX12_giveOut_99 : decode cX12_giveOut 99 = .ok (.iconst 0, 1) := by decide +kernel
theorem dX12_giveOut_100 : decode cX12_giveOut 100 = .ok (.istore 7, 2) := by decide +kernel
theorem dX12_giveOut_102 : decode cX12_giveOut 102 = .ok (.iload 7, 2) := by decide +kernel
theorem dX12_giveOut_104 : decode cX12_giveOut 104 = .ok (.iload_n 1, 1) := by decide +kernel
theorem dX12_giveOut_105 : decode cX12_giveOut 105 = .ok (.if_icmp .ge 47, 3) := by decide +kernel
theorem dX12_giveOut_108 : decode cX12_giveOut 108 = .ok (.aload_n 0, 1) := by decide +kernel
theorem dX12_giveOut_109 : decode cX12_giveOut 109 = .ok (.getfield 16, 3) := by decide +kernel
theorem dX12_giveOut_112 : decode cX12_giveOut 112 = .ok (.iload 7, 2) := by decide +kernel
theorem dX12_giveOut_114 : decode cX12_giveOut 114 = .ok (.iload 5, 2) := by decide +kernel
theorem dX12_giveOut_116 : decode cX12_giveOut 116 = .ok (.iconst 2, 1) := by decide +kernel
theorem dX12_giveOut_117 : decode cX12_giveOut 117 = .ok (.iload_n 1, 1) := by decide +kernel
theorem dX12_giveOut_118 : decode cX12_giveOut 118 = .ok (.iconst 1, 1) := by decide +kernel
theorem dX12_giveOut_119 : decode cX12_giveOut 119 = .ok (.isub, 1) := by decide +kernel
theorem dX12_giveOut_120 : decode cX12_giveOut 120 = .ok (.iload 7, 2) := by decide +kernel
theorem dX12_giveOut_122 : decode cX12_giveOut 122 = .ok (.isub, 1) := by decide +kernel
theorem dX12_giveOut_123 : decode cX12_giveOut 123 = .ok (.imul, 1) := by decide +kernel
theorem dX12_giveOut_124 : decode cX12_giveOut 124 = .ok (.ishr, 1) := by decide +kernel
theorem dX12_giveOut_125 : decode cX12_giveOut 125 = .ok (.iconst 3, 1) := by decide +kernel
theorem dX12_giveOut_126 : decode cX12_giveOut 126 = .ok (.iand, 1) := by decide +kernel
theorem dX12_giveOut_127 : decode cX12_giveOut 127 = .ok (.iastore, 1) := by decide +kernel
theorem dX12_giveOut_128 : decode cX12_giveOut 128 = .ok (.iload 6, 2) := by decide +kernel
theorem dX12_giveOut_130 : decode cX12_giveOut 130 = .ok (.aload_n 0, 1) := by decide +kernel
theorem dX12_giveOut_131 : decode cX12_giveOut 131 = .ok (.iload 7, 2) := by decide +kernel
theorem dX12_giveOut_133 : decode cX12_giveOut 133 = .ok (.aload_n 0, 1) := by decide +kernel
theorem dX12_giveOut_134 : decode cX12_giveOut 134 = .ok (.getfield 16, 3) := by decide +kernel
theorem dX12_giveOut_137 : decode cX12_giveOut 137 = .ok (.iload 7, 2) := by decide +kernel
theorem dX12_giveOut_139 : decode cX12_giveOut 139 = .ok (.iaload, 1) := by decide +kernel
theorem dX12_giveOut_140 : decode cX12_giveOut 140 = .ok (.invokevirtual 164, 3) := by decide +kernel
theorem dX12_giveOut_143 : decode cX12_giveOut 143 = .ok (.iadd, 1) := by decide +kernel
theorem dX12_giveOut_144 : decode cX12_giveOut 144 = .ok (.istore 6, 2) := by decide +kernel
theorem dX12_giveOut_146 : decode cX12_giveOut 146 = .ok (.iinc 7 1, 3) := by decide +kernel
theorem dX12_giveOut_149 : decode cX12_giveOut 149 = .ok (.goto (-47), 3) := by decide +kernel
theorem dX12_giveOut_152 : decode cX12_giveOut 152 = .ok (.iload_n 3, 1) := by decide +kernel
theorem dX12_giveOut_153 : decode cX12_giveOut 153 = .ok (.iconst (-1), 1) := by decide +kernel
theorem dX12_giveOut_154 : decode cX12_giveOut 154 = .ok (.if_icmp .eq 10, 3) := by decide +kernel
theorem dX12_giveOut_157 : decode cX12_giveOut 157 = .ok (.iload 6, 2) := by decide +kernel
theorem dX12_giveOut_159 : decode cX12_giveOut 159 = .ok (.iload 4, 2) := by decide +kernel
theorem dX12_giveOut_161 : decode cX12_giveOut 161 = .ok (.if_icmp .ge 17, 3) := by decide +kernel
theorem dX12_giveOut_164 : decode cX12_giveOut 164 = .ok (.aload_n 0, 1) := by decide +kernel
theorem dX12_giveOut_165 : decode cX12_giveOut 165 = .ok (.invokevirtual 211, 3) := by decide +kernel
theorem dX12_giveOut_168 : decode cX12_giveOut 168 = .ok (.ifCond .eq 10, 3) := by decide +kernel
theorem dX12_giveOut_171 : decode cX12_giveOut 171 = .ok (.iload 5, 2) := by decide +kernel
theorem dX12_giveOut_173 : decode cX12_giveOut 173 = .ok (.istore_n 3, 1) := by decide +kernel
theorem dX12_giveOut_174 : decode cX12_giveOut 174 = .ok (.iload 6, 2) := by decide +kernel
theorem dX12_giveOut_176 : decode cX12_giveOut 176 = .ok (.istore 4, 2) := by decide +kernel
theorem dX12_giveOut_178 : decode cX12_giveOut 178 = .ok (.iinc 5 1, 3) := by decide +kernel
theorem dX12_giveOut_181 : decode cX12_giveOut 181 = .ok (.goto (-95), 3) := by decide +kernel
theorem dX12_giveOut_184 : decode cX12_giveOut 184 = .ok (.iconst 0, 1) := by decide +kernel
theorem dX12_giveOut_185 : decode cX12_giveOut 185 = .ok (.istore 5, 2) := by decide +kernel
theorem dX12_giveOut_187 : decode cX12_giveOut 187 = .ok (.iload 5, 2) := by decide +kernel
theorem dX12_giveOut_189 : decode cX12_giveOut 189 = .ok (.bipush 8, 2) := by decide +kernel
theorem dX12_giveOut_191 : decode cX12_giveOut 191 = .ok (.if_icmp .ge 23, 3) := by decide +kernel
theorem dX12_giveOut_194 : decode cX12_giveOut 194 = .ok (.aload_n 0, 1) := by decide +kernel
theorem dX12_giveOut_195 : decode cX12_giveOut 195 = .ok (.getfield 16, 3) := by decide +kernel
theorem dX12_giveOut_198 : decode cX12_giveOut 198 = .ok (.iload 5, 2) := by decide +kernel
theorem dX12_giveOut_200 : decode cX12_giveOut 200 = .ok (.aload_n 0, 1) := by decide +kernel
theorem dX12_giveOut_201 : decode cX12_giveOut 201 = .ok (.getfield 117, 3) := by decide +kernel
theorem dX12_giveOut_204 : decode cX12_giveOut 204 = .ok (.iload 5, 2) := by decide +kernel
theorem dX12_giveOut_206 : decode cX12_giveOut 206 = .ok (.iaload, 1) := by decide +kernel
theorem dX12_giveOut_207 : decode cX12_giveOut 207 = .ok (.iastore, 1) := by decide +kernel
theorem dX12_giveOut_208 : decode cX12_giveOut 208 = .ok (.iinc 5 1, 3) := by decide +kernel
theorem dX12_giveOut_211 : decode cX12_giveOut 211 = .ok (.goto (-24), 3) := by decide +kernel
theorem dX12_giveOut_214 : decode cX12_giveOut 214 = .ok (.iload_n 3, 1) := by decide +kernel
theorem dX12_giveOut_215 : decode cX12_giveOut 215 = .ok (.iconst (-1), 1) := by decide +kernel
theorem dX12_giveOut_216 : decode cX12_giveOut 216 = .ok (.if_icmp .ne 7, 3) := by decide +kernel
theorem dX12_giveOut_219 : decode cX12_giveOut 219 = .ok (.iconst (-1), 1) := by decide +kernel
theorem dX12_giveOut_220 : decode cX12_giveOut 220 = .ok (.goto 26, 3) := by decide +kernel
theorem dX12_giveOut_223 : decode cX12_giveOut 223 = .ok (.iload_n 2, 1) := by decide +kernel
theorem dX12_giveOut_224 : decode cX12_giveOut 224 = .ok (.ifCond .ne 8, 3) := by decide +kernel
theorem dX12_giveOut_227 : decode cX12_giveOut 227 = .ok (.iload 4, 2) := by decide +kernel
theorem dX12_giveOut_229 : decode cX12_giveOut 229 = .ok (.goto 17, 3) := by decide +kernel
theorem dX12_giveOut_232 : decode cX12_giveOut 232 = .ok (.iload_n 3, 1) := by decide +kernel
theorem dX12_giveOut_233 : decode cX12_giveOut 233 = .ok (.iconst 2, 1) := by decide +kernel
theorem dX12_giveOut_234 : decode cX12_giveOut 234 = .ok (.iload_n 1, 1) := by decide +kernel
theorem dX12_giveOut_235 : decode cX12_giveOut 235 = .ok (.iconst 1, 1) := by decide +kernel
theorem dX12_giveOut_236 : decode cX12_giveOut 236 = .ok (.isub, 1) := by decide +kernel
theorem dX12_giveOut_237 : decode cX12_giveOut 237 = .ok (.iload_n 2, 1) := by decide +kernel
theorem dX12_giveOut_238 : decode cX12_giveOut 238 = .ok (.bipush 10, 2) := by decide +kernel
theorem dX12_giveOut_240 : decode cX12_giveOut 240 = .ok (.isub, 1) := by decide +kernel
theorem dX12_giveOut_241 : decode cX12_giveOut 241 = .ok (.isub, 1) := by decide +kernel
theorem dX12_giveOut_242 : decode cX12_giveOut 242 = .ok (.imul, 1) := by decide +kernel
theorem dX12_giveOut_243 : decode cX12_giveOut 243 = .ok (.ishr, 1) := by decide +kernel
theorem dX12_giveOut_244 : decode cX12_giveOut 244 = .ok (.iconst 3, 1) := by decide +kernel
theorem dX12_giveOut_245 : decode cX12_giveOut 245 = .ok (.iand, 1) := by decide +kernel
theorem dX12_giveOut_246 : decode cX12_giveOut 246 = .ok (.ireturn, 1) := by decide +kernel
theorem cd_161 (G : ZG) (d : Nat) (K : ZKt) (F : ZFt) (hT : zt5 G.2.2.2) : CS G RX12 cX12_giveOut 8 d K (some .int) [] (fun _ => []) 0 (bd_161 G.2.2.2 K F) := by
  unfold bd_161
  exact (CS.seq 30 (CS.if1 (T := 27) (F := 30) (CD.pure (CC.or (CC.not (CC.if_ne_F (T := 10) (F := 27) (CE.callS (by decide) (CA.int (CE.iload_n rfl dX12_giveOut_0 zhd) (CA.int (CE.iconst kI_1 dX12_giveOut_1 zhd) (CA.int (CE.bipush kB_6 dX12_giveOut_2 zhd) CA.nil))) zi_135 cs_X12_142 (fun _ => rfl) dX12_giveOut_4 zhd) dX12_giveOut_7 rfl rfl)) (CC.and (CC.if_ne_F (T := 14) (F := 30) (CE.iload_n rfl dX12_giveOut_10 zhd) dX12_giveOut_11 rfl rfl) (CC.not (CC.if_ne_T (T := 30) (F := 27) (CE.callS (by decide) (CA.int (CE.iload_n rfl dX12_giveOut_14 zhd) (CA.int (CE.bipush kB_10 dX12_giveOut_15 zhd) (CA.int (CE.iadd (CE.bipush kB_9 dX12_giveOut_17 zhd) (CE.iload_n rfl dX12_giveOut_19 zhd) dX12_giveOut_20 zhd) CA.nil))) zi_135 cs_X12_142 (fun _ => rfl) dX12_giveOut_21 zhd) dX12_giveOut_24 rfl rfl))))) (CS.retI (CX.pure (CE.bipush kB_m102 dX12_giveOut_27 zhd)) dX12_giveOut_29) zhd)
  (CS.seq 42 (CS.if1 (T := 39) (F := 42) (CD.pure (CC.icmp_eq_F (T := 39) (F := 42) (CE.getI (CE.aload_n rfl dX12_giveOut_30 zhd) fs_X12_208 dX12_giveOut_31 zhd) (CE.bipush kB_30 dX12_giveOut_34 zhd) dX12_giveOut_36 rfl rfl)) (CS.retI (CX.pure (CE.bipush kB_m103 dX12_giveOut_39 zhd)) dX12_giveOut_41) zhd)
  (CS.seq 52 (CS.upd (CE.aload_n rfl dX12_giveOut_42 zhd) dX12_giveOut_43 dX12_giveOut_44 (CE.iconst kI_1 dX12_giveOut_47 zhd) (Or.inl ⟨rfl, dX12_giveOut_48⟩) fs_X12_208 fp_X12_208 dX12_giveOut_49 zhd)
  (CS.seq 78 (CS.scope (CS.seq 54 (CS.decI_n (CX.pure (CE.iconst kI_0 dX12_giveOut_52 zhd)) rfl (by decide) dX12_giveOut_53 zhd)
  (CS.whl (T := 60) (F := 78) (p1 := 75) (CD.pure (CC.icmp_lt_F (T := 60) (F := 78) (CE.iload_n rfl dX12_giveOut_54 zhd) (CE.bipush kB_8 dX12_giveOut_55 zhd) dX12_giveOut_57 rfl rfl))
  (CS.seq 72 (CS.st (CE.getR (CE.aload_n rfl dX12_giveOut_60 zhd) fs_X12_117 dX12_giveOut_61 zhd) (CX.pure (CE.iload_n rfl dX12_giveOut_64 zhd)) (CX.pure (CE.aldI (CE.getR (CE.aload_n rfl dX12_giveOut_65 zhd) fs_X12_16 dX12_giveOut_66 zhd) (CE.iload_n rfl dX12_giveOut_69 zhd) (Or.inl ⟨rfl, dX12_giveOut_70⟩) zhd)) (Or.inl ⟨rfl, dX12_giveOut_71⟩) zhd)
  (CS.inc kI_1 (by decide) dX12_giveOut_72 zhd)) dX12_giveOut_75 rfl zhd)))
  (CS.seq 80 (CS.decI_n (CX.pure (CE.iconst kI_m1 dX12_giveOut_78 zhd)) rfl (by decide) dX12_giveOut_79 zhd)
  (CS.seq 83 (CS.decI (CX.pure (CE.iconst kI_0 dX12_giveOut_80 zhd)) (by decide) dX12_giveOut_81 zhd)
  (CS.seq 184 (CS.scope (CS.seq 86 (CS.decI (CX.pure (CE.iconst kI_0 dX12_giveOut_83 zhd)) (by decide) dX12_giveOut_84 zhd)
  (CS.whl (T := 96) (F := 184) (p1 := 181) (CD.pure (CC.icmp_lt_F (T := 96) (F := 184) (CE.iload dX12_giveOut_86 zhd) (CE.ishl (CE.iconst kI_1 dX12_giveOut_88 zhd) (CE.imul (CE.iconst kI_2 dX12_giveOut_89 zhd) (CE.iload_n rfl dX12_giveOut_90 zhd) dX12_giveOut_91 zhd) dX12_giveOut_92 zhd) dX12_giveOut_93 rfl rfl))
  (CS.seq 178 (CS.scope (CS.seq 99 (CS.decI (CX.pure (CE.iconst kI_0 dX12_giveOut_96 zhd)) (by decide) dX12_giveOut_97 zhd)
  (CS.seq 152 (CS.scope (CS.seq 102 (CS.decI (CX.pure (CE.iconst kI_0 dX12_giveOut_99 zhd)) (by decide) dX12_giveOut_100 zhd)
  (CS.whl (T := 108) (F := 152) (p1 := 149) (CD.pure (CC.icmp_lt_F (T := 108) (F := 152) (CE.iload dX12_giveOut_102 zhd) (CE.iload_n rfl dX12_giveOut_104 zhd) dX12_giveOut_105 rfl rfl))
  (CS.seq 146 (CS.seq 128 (CS.st (CE.getR (CE.aload_n rfl dX12_giveOut_108 zhd) fs_X12_16 dX12_giveOut_109 zhd) (CX.pure (CE.iload dX12_giveOut_112 zhd)) (CX.pure (CE.iand (CE.ishr (CE.iload dX12_giveOut_114 zhd) (CE.imul (CE.iconst kI_2 dX12_giveOut_116 zhd) (CE.isub (CE.isub (CE.iload_n rfl dX12_giveOut_117 zhd) (CE.iconst kI_1 dX12_giveOut_118 zhd) dX12_giveOut_119 zhd) (CE.iload dX12_giveOut_120 zhd) dX12_giveOut_122 zhd) dX12_giveOut_123 zhd) dX12_giveOut_124 zhd) (CE.iconst kI_3 dX12_giveOut_125 zhd) dX12_giveOut_126 zhd)) (Or.inl ⟨rfl, dX12_giveOut_127⟩) zhd)
  (CS.setI (CX.pure (CE.iadd (CE.iload dX12_giveOut_128 zhd) (CE.callV (by decide) (CA.ref (CE.aload_n rfl dX12_giveOut_130 zhd) (CA.int (CE.iload dX12_giveOut_131 zhd) (CA.int (CE.aldI (CE.getR (CE.aload_n rfl dX12_giveOut_133 zhd) fs_X12_16 dX12_giveOut_134 zhd) (CE.iload dX12_giveOut_137 zhd) (Or.inl ⟨rfl, dX12_giveOut_139⟩) zhd) CA.nil))) zi_145 cv_X12_164 (fun _ => rfl) dX12_giveOut_140 zhd) dX12_giveOut_143 zhd)) (by decide) dX12_giveOut_144 zhd))
  (CS.inc kI_1 (by decide) dX12_giveOut_146 zhd)) dX12_giveOut_149 rfl zhd)))
  (CS.if1 (T := 171) (F := 178) (CD.pure (CC.and (CC.or (CC.icmp_eq_T (T := 164) (F := 157) (CE.iload_n rfl dX12_giveOut_152 zhd) (CE.iconst kI_m1 dX12_giveOut_153 zhd) dX12_giveOut_154 rfl rfl) (CC.icmp_lt_F (T := 164) (F := 178) (CE.iload dX12_giveOut_157 zhd) (CE.iload dX12_giveOut_159 zhd) dX12_giveOut_161 rfl rfl)) (CC.if_ne_F (T := 171) (F := 178) (CE.callV (by decide) (CA.ref (CE.aload_n rfl dX12_giveOut_164 zhd) CA.nil) zi_160 cv_X12_211 (fun _ => rfl) dX12_giveOut_165 zhd) dX12_giveOut_168 rfl rfl))) (CS.seq 174 (CS.setI_n (CX.pure (CE.iload dX12_giveOut_171 zhd)) rfl (by decide) dX12_giveOut_173 zhd)
  (CS.setI (CX.pure (CE.iload dX12_giveOut_174 zhd)) (by decide) dX12_giveOut_176 zhd)) zhd))))
  (CS.inc kI_1 (by decide) dX12_giveOut_178 zhd)) dX12_giveOut_181 rfl zhd)))
  (CS.seq 214 (CS.scope (CS.seq 187 (CS.decI (CX.pure (CE.iconst kI_0 dX12_giveOut_184 zhd)) (by decide) dX12_giveOut_185 zhd)
  (CS.whl (T := 194) (F := 214) (p1 := 211) (CD.pure (CC.icmp_lt_F (T := 194) (F := 214) (CE.iload dX12_giveOut_187 zhd) (CE.bipush kB_8 dX12_giveOut_189 zhd) dX12_giveOut_191 rfl rfl))
  (CS.seq 208 (CS.st (CE.getR (CE.aload_n rfl dX12_giveOut_194 zhd) fs_X12_16 dX12_giveOut_195 zhd) (CX.pure (CE.iload dX12_giveOut_198 zhd)) (CX.pure (CE.aldI (CE.getR (CE.aload_n rfl dX12_giveOut_200 zhd) fs_X12_117 dX12_giveOut_201 zhd) (CE.iload dX12_giveOut_204 zhd) (Or.inl ⟨rfl, dX12_giveOut_206⟩) zhd)) (Or.inl ⟨rfl, dX12_giveOut_207⟩) zhd)
  (CS.inc kI_1 (by decide) dX12_giveOut_208 zhd)) dX12_giveOut_211 rfl zhd)))
  (CS.retI (CX.pure (CE.tern (T := 219) (F := 223) (p1 := 220) (q := 246) (CC.icmp_eq_F (T := 219) (F := 223) (CE.iload_n rfl dX12_giveOut_214 zhd) (CE.iconst kI_m1 dX12_giveOut_215 zhd) dX12_giveOut_216 rfl rfl) (CE.iconst kI_m1 dX12_giveOut_219 zhd) zex2 dX12_giveOut_220 rfl zhd (CE.tern (T := 227) (F := 232) (p1 := 229) (q := 246) (CC.if_eq_F (T := 227) (F := 232) (CE.iload_n rfl dX12_giveOut_223 zhd) dX12_giveOut_224 rfl rfl) (CE.iload dX12_giveOut_227 zhd) zex2 dX12_giveOut_229 rfl zhd (CE.iand (CE.ishr (CE.iload_n rfl dX12_giveOut_232 zhd) (CE.imul (CE.iconst kI_2 dX12_giveOut_233 zhd) (CE.isub (CE.isub (CE.iload_n rfl dX12_giveOut_234 zhd) (CE.iconst kI_1 dX12_giveOut_235 zhd) dX12_giveOut_236 zhd) (CE.isub (CE.iload_n rfl dX12_giveOut_237 zhd) (CE.bipush kB_10 dX12_giveOut_238 zhd) dX12_giveOut_240 zhd) dX12_giveOut_241 zhd) dX12_giveOut_242 zhd) dX12_giveOut_243 zhd) (CE.iconst kI_3 dX12_giveOut_244 zhd) dX12_giveOut_245 zhd)))) dX12_giveOut_246)))))))))
theorem dX12_thing_0 : decode cX12_thing 0 = .ok (.iload_n 1, 1) := by decide +kernel
theorem dX12_thing_1 : decode cX12_thing 1 = .ok (.invokestatic 150, 3) := by decide +kernel
theorem dX12_thing_4 : decode cX12_thing 4 = .ok (.ifCond .ne 6, 3) := by decide +kernel
theorem dX12_thing_7 : decode cX12_thing 7 = .ok (.bipush (-101), 2) := by decide +kernel
theorem dX12_thing_9 : decode cX12_thing 9 = .ok (.ireturn, 1) := by decide +kernel
theorem dX12_thing_10 : decode cX12_thing 10 = .ok (.iload_n 2, 1) := by decide +kernel
theorem dX12_thing_11 : decode cX12_thing 11 = .ok (.iconst 0, 1) := by decide +kernel
theorem dX12_thing_12 : decode cX12_thing 12 = .ok (.bipush 11, 2) := by decide +kernel
theorem dX12_thing_14 : decode cX12_thing 14 = .ok (.invokestatic 142, 3) := by decide +kernel
theorem dX12_thing_17 : decode cX12_thing 17 = .ok (.ifCond .ne 6, 3) := by decide +kernel
theorem dX12_thing_20 : decode cX12_thing 20 = .ok (.bipush (-102), 2) := by decide +kernel
theorem dX12_thing_22 : decode cX12_thing 22 = .ok (.ireturn, 1) := by decide +kernel
theorem dX12_thing_23 : decode cX12_thing 23 = .ok (.aload_n 0, 1) := by decide +kernel
theorem dX12_thing_24 : decode cX12_thing 24 = .ok (.getfield 146, 3) := by decide +kernel
theorem dX12_thing_27 : decode cX12_thing 27 = .ok (.bipush 24, 2) := by decide +kernel
theorem dX12_thing_29 : decode cX12_thing 29 = .ok (.if_icmp .ne 6, 3) := by decide +kernel
theorem dX12_thing_32 : decode cX12_thing 32 = .ok (.bipush (-104), 2) := by decide +kernel
theorem dX12_thing_34 : decode cX12_thing 34 = .ok (.ireturn, 1) := by decide +kernel
theorem dX12_thing_35 : decode cX12_thing 35 = .ok (.aload_n 0, 1) := by decide +kernel
theorem dX12_thing_36 : decode cX12_thing 36 = .ok (.getfield 47, 3) := by decide +kernel
theorem dX12_thing_39 : decode cX12_thing 39 = .ok (.aload_n 0, 1) := by decide +kernel
theorem dX12_thing_40 : decode cX12_thing 40 = .ok (.getfield 146, 3) := by decide +kernel
theorem dX12_thing_43 : decode cX12_thing 43 = .ok (.iload_n 1, 1) := by decide +kernel
theorem dX12_thing_44 : decode cX12_thing 44 = .ok (.iastore, 1) := by decide +kernel
theorem dX12_thing_45 : decode cX12_thing 45 = .ok (.aload_n 0, 1) := by decide +kernel
theorem dX12_thing_46 : decode cX12_thing 46 = .ok (.getfield 50, 3) := by decide +kernel
theorem dX12_thing_49 : decode cX12_thing 49 = .ok (.aload_n 0, 1) := by decide +kernel
theorem dX12_thing_50 : decode cX12_thing 50 = .ok (.getfield 146, 3) := by decide +kernel
theorem dX12_thing_53 : decode cX12_thing 53 = .ok (.iload_n 2, 1) := by decide +kernel
theorem dX12_thing_54 : decode cX12_thing 54 = .ok (.iastore, 1) := by decide +kernel
theorem dX12_thing_55 : decode cX12_thing 55 = .ok (.aload_n 0, 1) := by decide +kernel
theorem dX12_thing_56 : decode cX12_thing 56 = .ok (.getfield 53, 3) := by decide +kernel
theorem dX12_thing_59 : decode cX12_thing 59 = .ok (.aload_n 0, 1) := by decide +kernel
theorem dX12_thing_60 : decode cX12_thing 60 = .ok (.getfield 146, 3) := by decide +kernel
theorem dX12_thing_63 : decode cX12_thing 63 = .ok (.iconst 0, 1) := by decide +kernel
theorem dX12_thing_64 : decode cX12_thing 64 = .ok (.iastore, 1) := by decide +kernel
theorem dX12_thing_65 : decode cX12_thing 65 = .ok (.aload_n 0, 1) := by decide +kernel
theorem dX12_thing_66 : decode cX12_thing 66 = .ok (.dup, 1) := by decide +kernel
theorem dX12_thing_67 : decode cX12_thing 67 = .ok (.getfield 146, 3) := by decide +kernel
theorem dX12_thing_70 : decode cX12_thing 70 = .ok (.iconst 1, 1) := by decide +kernel
theorem dX12_thing_71 : decode cX12_thing 71 = .ok (.iadd, 1) := by decide +kernel
theorem dX12_thing_72 : decode cX12_thing 72 = .ok (.putfield 146, 3) := by decide +kernel
theorem dX12_thing_75 : decode cX12_thing 75 = .ok (.aload_n 0, 1) := by decide +kernel
theorem dX12_thing_76 : decode cX12_thing 76 = .ok (.getfield 146, 3) := by decide +kernel
theorem dX12_thing_79 : decode cX12_thing 79 = .ok (.iconst 1, 1) := by decide +kernel
theorem dX12_thing_80 : decode cX12_thing 80 = .ok (.isub, 1) := by decide +kernel
theorem dX12_thing_81 : decode cX12_thing 81 = .ok (.ireturn, 1) := by decide +kernel
theorem cd_162 (G : ZG) (d : Nat) (K : ZKt) (F : ZFt) (hT : zt5 G.2.2.2) : CS G RX12 cX12_thing 3 d K (some .int) [] (fun _ => []) 0 (bd_162 G.2.2.2 K F) := by
  unfold bd_162
  exact (CS.seq 10 (CS.if1 (T := 7) (F := 10) (CD.pure (CC.not (CC.if_ne_T (T := 10) (F := 7) (CE.callS (by decide) (CA.int (CE.iload_n rfl dX12_thing_0 zhd) CA.nil) zi_136 cs_X12_150 (fun _ => rfl) dX12_thing_1 zhd) dX12_thing_4 rfl rfl))) (CS.retI (CX.pure (CE.bipush kB_m101 dX12_thing_7 zhd)) dX12_thing_9) zhd)
  (CS.seq 23 (CS.if1 (T := 20) (F := 23) (CD.pure (CC.not (CC.if_ne_T (T := 23) (F := 20) (CE.callS (by decide) (CA.int (CE.iload_n rfl dX12_thing_10 zhd) (CA.int (CE.iconst kI_0 dX12_thing_11 zhd) (CA.int (CE.bipush kB_11 dX12_thing_12 zhd) CA.nil))) zi_135 cs_X12_142 (fun _ => rfl) dX12_thing_14 zhd) dX12_thing_17 rfl rfl))) (CS.retI (CX.pure (CE.bipush kB_m102 dX12_thing_20 zhd)) dX12_thing_22) zhd)
  (CS.seq 35 (CS.if1 (T := 32) (F := 35) (CD.pure (CC.icmp_eq_F (T := 32) (F := 35) (CE.getI (CE.aload_n rfl dX12_thing_23 zhd) fs_X12_146 dX12_thing_24 zhd) (CE.bipush kB_24 dX12_thing_27 zhd) dX12_thing_29 rfl rfl)) (CS.retI (CX.pure (CE.bipush kB_m104 dX12_thing_32 zhd)) dX12_thing_34) zhd)
  (CS.seq 45 (CS.st (CE.getR (CE.aload_n rfl dX12_thing_35 zhd) fs_X12_47 dX12_thing_36 zhd) (CX.pure (CE.getI (CE.aload_n rfl dX12_thing_39 zhd) fs_X12_146 dX12_thing_40 zhd)) (CX.pure (CE.iload_n rfl dX12_thing_43 zhd)) (Or.inl ⟨rfl, dX12_thing_44⟩) zhd)
  (CS.seq 55 (CS.st (CE.getR (CE.aload_n rfl dX12_thing_45 zhd) fs_X12_50 dX12_thing_46 zhd) (CX.pure (CE.getI (CE.aload_n rfl dX12_thing_49 zhd) fs_X12_146 dX12_thing_50 zhd)) (CX.pure (CE.iload_n rfl dX12_thing_53 zhd)) (Or.inl ⟨rfl, dX12_thing_54⟩) zhd)
  (CS.seq 65 (CS.st (CE.getR (CE.aload_n rfl dX12_thing_55 zhd) fs_X12_53 dX12_thing_56 zhd) (CX.pure (CE.getI (CE.aload_n rfl dX12_thing_59 zhd) fs_X12_146 dX12_thing_60 zhd)) (CX.pure (CE.iconst kI_0 dX12_thing_63 zhd)) (Or.inl ⟨rfl, dX12_thing_64⟩) zhd)
  (CS.seq 75 (CS.upd (CE.aload_n rfl dX12_thing_65 zhd) dX12_thing_66 dX12_thing_67 (CE.iconst kI_1 dX12_thing_70 zhd) (Or.inl ⟨rfl, dX12_thing_71⟩) fs_X12_146 fp_X12_146 dX12_thing_72 zhd)
  (CS.retI (CX.pure (CE.isub (CE.getI (CE.aload_n rfl dX12_thing_75 zhd) fs_X12_146 dX12_thing_76 zhd) (CE.iconst kI_1 dX12_thing_79 zhd) dX12_thing_80 zhd)) dX12_thing_81))))))))
theorem dX12_measure_0 : decode cX12_measure 0 = .ok (.aload_n 0, 1) := by decide +kernel
theorem dX12_measure_1 : decode cX12_measure 1 = .ok (.iload_n 1, 1) := by decide +kernel
theorem dX12_measure_2 : decode cX12_measure 2 = .ok (.invokevirtual 215, 3) := by decide +kernel
theorem dX12_measure_5 : decode cX12_measure 5 = .ok (.ifCond .ne 6, 3) := by decide +kernel
theorem dX12_measure_8 : decode cX12_measure 8 = .ok (.bipush (-101), 2) := by decide +kernel
theorem dX12_measure_10 : decode cX12_measure 10 = .ok (.ireturn, 1) := by decide +kernel
theorem dX12_measure_11 : decode cX12_measure 11 = .ok (.iload_n 2, 1) := by decide +kernel
theorem dX12_measure_12 : decode cX12_measure 12 = .ok (.iconst 0, 1) := by decide +kernel
theorem dX12_measure_13 : decode cX12_measure 13 = .ok (.sipush 1999, 3) := by decide +kernel
theorem dX12_measure_16 : decode cX12_measure 16 = .ok (.invokestatic 142, 3) := by decide +kernel
theorem dX12_measure_19 : decode cX12_measure 19 = .ok (.ifCond .eq 13, 3) := by decide +kernel
theorem dX12_measure_22 : decode cX12_measure 22 = .ok (.iload_n 3, 1) := by decide +kernel
theorem dX12_measure_23 : decode cX12_measure 23 = .ok (.iconst 0, 1) := by decide +kernel
theorem dX12_measure_24 : decode cX12_measure 24 = .ok (.bipush 99, 2) := by decide +kernel
theorem dX12_measure_26 : decode cX12_measure 26 = .ok (.invokestatic 142, 3) := by decide +kernel
theorem dX12_measure_29 : decode cX12_measure 29 = .ok (.ifCond .ne 6, 3) := by decide +kernel
theorem dX12_measure_32 : decode cX12_measure 32 = .ok (.bipush (-102), 2) := by decide +kernel
theorem dX12_measure_34 : decode cX12_measure 34 = .ok (.ireturn, 1) := by decide +kernel
theorem dX12_measure_35 : decode cX12_measure 35 = .ok (.aload_n 0, 1) := by decide +kernel
theorem dX12_measure_36 : decode cX12_measure 36 = .ok (.getfield 53, 3) := by decide +kernel
theorem dX12_measure_39 : decode cX12_measure 39 = .ok (.iload_n 1, 1) := by decide +kernel
theorem dX12_measure_40 : decode cX12_measure 40 = .ok (.iaload, 1) := by decide +kernel
theorem dX12_measure_41 : decode cX12_measure 41 = .ok (.iconst 3, 1) := by decide +kernel
theorem dX12_measure_42 : decode cX12_measure 42 = .ok (.if_icmp .ne 6, 3) := by decide +kernel
theorem dX12_measure_45 : decode cX12_measure 45 = .ok (.bipush (-104), 2) := by decide +kernel
theorem dX12_measure_47 : decode cX12_measure 47 = .ok (.ireturn, 1) := by decide +kernel
theorem dX12_measure_48 : decode cX12_measure 48 = .ok (.aload_n 0, 1) := by decide +kernel
theorem dX12_measure_49 : decode cX12_measure 49 = .ok (.getfield 56, 3) := by decide +kernel
theorem dX12_measure_52 : decode cX12_measure 52 = .ok (.iconst 3, 1) := by decide +kernel
theorem dX12_measure_53 : decode cX12_measure 53 = .ok (.iload_n 1, 1) := by decide +kernel
theorem dX12_measure_54 : decode cX12_measure 54 = .ok (.imul, 1) := by decide +kernel
theorem dX12_measure_55 : decode cX12_measure 55 = .ok (.aload_n 0, 1) := by decide +kernel
theorem dX12_measure_56 : decode cX12_measure 56 = .ok (.getfield 53, 3) := by decide +kernel
theorem dX12_measure_59 : decode cX12_measure 59 = .ok (.iload_n 1, 1) := by decide +kernel
theorem dX12_measure_60 : decode cX12_measure 60 = .ok (.iaload, 1) := by decide +kernel
theorem dX12_measure_61 : decode cX12_measure 61 = .ok (.iadd, 1) := by decide +kernel
theorem dX12_measure_62 : decode cX12_measure 62 = .ok (.iload_n 2, 1) := by decide +kernel
theorem dX12_measure_63 : decode cX12_measure 63 = .ok (.iastore, 1) := by decide +kernel
theorem dX12_measure_64 : decode cX12_measure 64 = .ok (.aload_n 0, 1) := by decide +kernel
theorem dX12_measure_65 : decode cX12_measure 65 = .ok (.getfield 59, 3) := by decide +kernel
theorem dX12_measure_68 : decode cX12_measure 68 = .ok (.iconst 3, 1) := by decide +kernel
theorem dX12_measure_69 : decode cX12_measure 69 = .ok (.iload_n 1, 1) := by decide +kernel
theorem dX12_measure_70 : decode cX12_measure 70 = .ok (.imul, 1) := by decide +kernel
theorem dX12_measure_71 : decode cX12_measure 71 = .ok (.aload_n 0, 1) := by decide +kernel
theorem dX12_measure_72 : decode cX12_measure 72 = .ok (.getfield 53, 3) := by decide +kernel
theorem dX12_measure_75 : decode cX12_measure 75 = .ok (.iload_n 1, 1) := by decide +kernel
theorem dX12_measure_76 : decode cX12_measure 76 = .ok (.iaload, 1) := by decide +kernel
theorem dX12_measure_77 : decode cX12_measure 77 = .ok (.iadd, 1) := by decide +kernel
theorem dX12_measure_78 : decode cX12_measure 78 = .ok (.iload_n 3, 1) := by decide +kernel
theorem dX12_measure_79 : decode cX12_measure 79 = .ok (.iastore, 1) := by decide +kernel
theorem dX12_measure_80 : decode cX12_measure 80 = .ok (.aload_n 0, 1) := by decide +kernel
theorem dX12_measure_81 : decode cX12_measure 81 = .ok (.getfield 53, 3) := by decide +kernel
theorem dX12_measure_84 : decode cX12_measure 84 = .ok (.iload_n 1, 1) := by decide +kernel
theorem dX12_measure_85 : decode cX12_measure 85 = .ok (.dup2, 1) := by decide +kernel
theorem dX12_measure_86 : decode cX12_measure 86 = .ok (.iaload, 1) := by decide +kernel
theorem dX12_measure_87 : decode cX12_measure 87 = .ok (.iconst 1, 1) := by decide +kernel
theorem dX12_measure_88 : decode cX12_measure 88 = .ok (.iadd, 1) := by decide +kernel
theorem dX12_measure_89 : decode cX12_measure 89 = .ok (.iastore, 1) := by decide +kernel
theorem dX12_measure_90 : decode cX12_measure 90 = .ok (.aload_n 0, 1) := by decide +kernel
theorem dX12_measure_91 : decode cX12_measure 91 = .ok (.getfield 53, 3) := by decide +kernel
theorem dX12_measure_94 : decode cX12_measure 94 = .ok (.iload_n 1, 1) := by decide +kernel
theorem dX12_measure_95 : decode cX12_measure 95 = .ok (.iaload, 1) := by decide +kernel
theorem dX12_measure_96 : decode cX12_measure 96 = .ok (.ireturn, 1) := by decide +kernel
theorem cd_163 (G : ZG) (d : Nat) (K : ZKt) (F : ZFt) (hT : zt5 G.2.2.2) : CS G RX12 cX12_measure 4 d K (some .int) [] (fun _ => []) 0 (bd_163 G.2.2.2 K F) := by
  unfold bd_163
  exact (CS.seq 11 (CS.if1 (T := 8) (F := 11) (CD.pure (CC.not (CC.if_ne_T (T := 11) (F := 8) (CE.callV (by decide) (CA.ref (CE.aload_n rfl dX12_measure_0 zhd) (CA.int (CE.iload_n rfl dX12_measure_1 zhd) CA.nil)) zi_137 cv_X12_215 (fun _ => rfl) dX12_measure_2 zhd) dX12_measure_5 rfl rfl))) (CS.retI (CX.pure (CE.bipush kB_m101 dX12_measure_8 zhd)) dX12_measure_10) zhd)
  (CS.seq 35 (CS.if1 (T := 32) (F := 35) (CD.pure (CC.or (CC.not (CC.if_ne_F (T := 22) (F := 32) (CE.callS (by decide) (CA.int (CE.iload_n rfl dX12_measure_11 zhd) (CA.int (CE.iconst kI_0 dX12_measure_12 zhd) (CA.int (CE.sipush kS_1999 dX12_measure_13 zhd) CA.nil))) zi_135 cs_X12_142 (fun _ => rfl) dX12_measure_16 zhd) dX12_measure_19 rfl rfl)) (CC.not (CC.if_ne_T (T := 35) (F := 32) (CE.callS (by decide) (CA.int (CE.iload_n rfl dX12_measure_22 zhd) (CA.int (CE.iconst kI_0 dX12_measure_23 zhd) (CA.int (CE.bipush kB_99 dX12_measure_24 zhd) CA.nil))) zi_135 cs_X12_142 (fun _ => rfl) dX12_measure_26 zhd) dX12_measure_29 rfl rfl)))) (CS.retI (CX.pure (CE.bipush kB_m102 dX12_measure_32 zhd)) dX12_measure_34) zhd)
  (CS.seq 48 (CS.if1 (T := 45) (F := 48) (CD.pure (CC.icmp_eq_F (T := 45) (F := 48) (CE.aldI (CE.getR (CE.aload_n rfl dX12_measure_35 zhd) fs_X12_53 dX12_measure_36 zhd) (CE.iload_n rfl dX12_measure_39 zhd) (Or.inl ⟨rfl, dX12_measure_40⟩) zhd) (CE.iconst kI_3 dX12_measure_41 zhd) dX12_measure_42 rfl rfl)) (CS.retI (CX.pure (CE.bipush kB_m104 dX12_measure_45 zhd)) dX12_measure_47) zhd)
  (CS.seq 64 (CS.st (CE.getR (CE.aload_n rfl dX12_measure_48 zhd) fs_X12_56 dX12_measure_49 zhd) (CX.pure (CE.iadd (CE.imul (CE.iconst kI_3 dX12_measure_52 zhd) (CE.iload_n rfl dX12_measure_53 zhd) dX12_measure_54 zhd) (CE.aldI (CE.getR (CE.aload_n rfl dX12_measure_55 zhd) fs_X12_53 dX12_measure_56 zhd) (CE.iload_n rfl dX12_measure_59 zhd) (Or.inl ⟨rfl, dX12_measure_60⟩) zhd) dX12_measure_61 zhd)) (CX.pure (CE.iload_n rfl dX12_measure_62 zhd)) (Or.inl ⟨rfl, dX12_measure_63⟩) zhd)
  (CS.seq 80 (CS.st (CE.getR (CE.aload_n rfl dX12_measure_64 zhd) fs_X12_59 dX12_measure_65 zhd) (CX.pure (CE.iadd (CE.imul (CE.iconst kI_3 dX12_measure_68 zhd) (CE.iload_n rfl dX12_measure_69 zhd) dX12_measure_70 zhd) (CE.aldI (CE.getR (CE.aload_n rfl dX12_measure_71 zhd) fs_X12_53 dX12_measure_72 zhd) (CE.iload_n rfl dX12_measure_75 zhd) (Or.inl ⟨rfl, dX12_measure_76⟩) zhd) dX12_measure_77 zhd)) (CX.pure (CE.iload_n rfl dX12_measure_78 zhd)) (Or.inl ⟨rfl, dX12_measure_79⟩) zhd)
  (CS.seq 90 (CS.stU (CE.getR (CE.aload_n rfl dX12_measure_80 zhd) fs_X12_53 dX12_measure_81 zhd) (CE.iload_n rfl dX12_measure_84 zhd) dX12_measure_85 dX12_measure_86 (CE.iconst kI_1 dX12_measure_87 zhd) (Or.inl ⟨rfl, dX12_measure_88⟩) dX12_measure_89 zhd)
  (CS.retI (CX.pure (CE.aldI (CE.getR (CE.aload_n rfl dX12_measure_90 zhd) fs_X12_53 dX12_measure_91 zhd) (CE.iload_n rfl dX12_measure_94 zhd) (Or.inl ⟨rfl, dX12_measure_95⟩) zhd)) dX12_measure_96)))))))
theorem dX12_commonOf_0 : decode cX12_commonOf 0 = .ok (.iload_n 3, 1) := by decide +kernel
theorem dX12_commonOf_1 : decode cX12_commonOf 1 = .ok (.ifCond .ne 9, 3) := by decide +kernel
theorem dX12_commonOf_4 : decode cX12_commonOf 4 = .ok (.sipush (-1000), 3) := by decide +kernel
theorem dX12_commonOf_7 : decode cX12_commonOf 7 = .ok (.goto 6, 3) := by decide +kernel
theorem dX12_commonOf_10 : decode cX12_commonOf 10 = .ok (.sipush 10000, 3) := by decide +kernel
theorem dX12_commonOf_13 : decode cX12_commonOf 13 = .ok (.istore 4, 2) := by decide +kernel
theorem dX12_commonOf_15 : decode cX12_commonOf 15 = .ok (.iconst 0, 1) := by decide +kernel
theorem dX12_commonOf_16 : decode cX12_commonOf 16 = .ok (.istore 5, 2) := by decide +kernel
theorem dX12_commonOf_18 : decode cX12_commonOf 18 = .ok (.iload 5, 2) := by decide +kernel
theorem dX12_commonOf_20 : decode cX12_commonOf 20 = .ok (.aload_n 0, 1) := by decide +kernel
theorem dX12_commonOf_21 : decode cX12_commonOf 21 = .ok (.getfield 53, 3) := by decide +kernel
theorem dX12_commonOf_24 : decode cX12_commonOf 24 = .ok (.iload_n 1, 1) := by decide +kernel
theorem dX12_commonOf_25 : decode cX12_commonOf 25 = .ok (.iaload, 1) := by decide +kernel
theorem dX12_commonOf_26 : decode cX12_commonOf 26 = .ok (.if_icmp .ge 127, 3) := by decide +kernel
theorem dX12_commonOf_29 : decode cX12_commonOf 29 = .ok (.aload_n 0, 1) := by decide +kernel
theorem dX12_commonOf_30 : decode cX12_commonOf 30 = .ok (.getfield 56, 3) := by decide +kernel
theorem dX12_commonOf_33 : decode cX12_commonOf 33 = .ok (.iconst 3, 1) := by decide +kernel
theorem dX12_commonOf_34 : decode cX12_commonOf 34 = .ok (.iload_n 1, 1) := by decide +kernel
theorem dX12_commonOf_35 : decode cX12_commonOf 35 = .ok (.imul, 1) := by decide +kernel
theorem dX12_commonOf_36 : decode cX12_commonOf 36 = .ok (.iload 5, 2) := by decide +kernel
theorem dX12_commonOf_38 : decode cX12_commonOf 38 = .ok (.iadd, 1) := by decide +kernel
theorem dX12_commonOf_39 : decode cX12_commonOf 39 = .ok (.iaload, 1) := by decide +kernel
theorem dX12_commonOf_40 : decode cX12_commonOf 40 = .ok (.aload_n 0, 1) := by decide +kernel
theorem dX12_commonOf_41 : decode cX12_commonOf 41 = .ok (.getfield 59, 3) := by decide +kernel
theorem dX12_commonOf_44 : decode cX12_commonOf 44 = .ok (.iconst 3, 1) := by decide +kernel
theorem dX12_commonOf_45 : decode cX12_commonOf 45 = .ok (.iload_n 1, 1) := by decide +kernel
theorem dX12_commonOf_46 : decode cX12_commonOf 46 = .ok (.imul, 1) := by decide +kernel
theorem dX12_commonOf_47 : decode cX12_commonOf 47 = .ok (.iload 5, 2) := by decide +kernel
theorem dX12_commonOf_49 : decode cX12_commonOf 49 = .ok (.iadd, 1) := by decide +kernel
theorem dX12_commonOf_50 : decode cX12_commonOf 50 = .ok (.iaload, 1) := by decide +kernel
theorem dX12_commonOf_51 : decode cX12_commonOf 51 = .ok (.isub, 1) := by decide +kernel
theorem dX12_commonOf_52 : decode cX12_commonOf 52 = .ok (.istore 6, 2) := by decide +kernel
theorem dX12_commonOf_54 : decode cX12_commonOf 54 = .ok (.aload_n 0, 1) := by decide +kernel
theorem dX12_commonOf_55 : decode cX12_commonOf 55 = .ok (.getfield 56, 3) := by decide +kernel
theorem dX12_commonOf_58 : decode cX12_commonOf 58 = .ok (.iconst 3, 1) := by decide +kernel
theorem dX12_commonOf_59 : decode cX12_commonOf 59 = .ok (.iload_n 1, 1) := by decide +kernel
theorem dX12_commonOf_60 : decode cX12_commonOf 60 = .ok (.imul, 1) := by decide +kernel
theorem dX12_commonOf_61 : decode cX12_commonOf 61 = .ok (.iload 5, 2) := by decide +kernel
theorem dX12_commonOf_63 : decode cX12_commonOf 63 = .ok (.iadd, 1) := by decide +kernel
theorem dX12_commonOf_64 : decode cX12_commonOf 64 = .ok (.iaload, 1) := by decide +kernel
theorem dX12_commonOf_65 : decode cX12_commonOf 65 = .ok (.aload_n 0, 1) := by decide +kernel
theorem dX12_commonOf_66 : decode cX12_commonOf 66 = .ok (.getfield 59, 3) := by decide +kernel
theorem dX12_commonOf_69 : decode cX12_commonOf 69 = .ok (.iconst 3, 1) := by decide +kernel
theorem dX12_commonOf_70 : decode cX12_commonOf 70 = .ok (.iload_n 1, 1) := by decide +kernel
theorem dX12_commonOf_71 : decode cX12_commonOf 71 = .ok (.imul, 1) := by decide +kernel
theorem dX12_commonOf_72 : decode cX12_commonOf 72 = .ok (.iload 5, 2) := by decide +kernel
theorem dX12_commonOf_74 : decode cX12_commonOf 74 = .ok (.iadd, 1) := by decide +kernel
theorem dX12_commonOf_75 : decode cX12_commonOf 75 = .ok (.iaload, 1) := by decide +kernel
theorem dX12_commonOf_76 : decode cX12_commonOf 76 = .ok (.iadd, 1) := by decide +kernel
theorem dX12_commonOf_77 : decode cX12_commonOf 77 = .ok (.istore 7, 2) := by decide +kernel
theorem dX12_commonOf_79 : decode cX12_commonOf 79 = .ok (.iload_n 2, 1) := by decide +kernel
theorem dX12_commonOf_80 : decode cX12_commonOf 80 = .ok (.iload 5, 2) := by decide +kernel
theorem dX12_commonOf_82 : decode cX12_commonOf 82 = .ok (.ishr, 1) := by decide +kernel
theorem dX12_commonOf_83 : decode cX12_commonOf 83 = .ok (.iconst 1, 1) := by decide +kernel
theorem dX12_commonOf_84 : decode cX12_commonOf 84 = .ok (.iand, 1) := by decide +kernel
theorem dX12_commonOf_85 : decode cX12_commonOf 85 = .ok (.iconst 1, 1) := by decide +kernel
theorem dX12_commonOf_86 : decode cX12_commonOf 86 = .ok (.if_icmp .ne 7, 3) := by decide +kernel
theorem dX12_commonOf_89 : decode cX12_commonOf 89 = .ok (.iconst 1, 1) := by decide +kernel
theorem dX12_commonOf_90 : decode cX12_commonOf 90 = .ok (.goto 4, 3) := by decide +kernel
theorem dX12_commonOf_93 : decode cX12_commonOf 93 = .ok (.iconst 0, 1) := by decide +kernel
theorem dX12_commonOf_94 : decode cX12_commonOf 94 = .ok (.istore 8, 2) := by decide +kernel
theorem dX12_commonOf_96 : decode cX12_commonOf 96 = .ok (.iload 8, 2) := by decide +kernel
theorem dX12_commonOf_98 : decode cX12_commonOf 98 = .ok (.ifCond .eq 19, 3) := by decide +kernel
theorem dX12_commonOf_101 : decode cX12_commonOf 101 = .ok (.iload_n 3, 1) := by decide +kernel
theorem dX12_commonOf_102 : decode cX12_commonOf 102 = .ok (.ifCond .ne 15, 3) := by decide +kernel
theorem dX12_commonOf_105 : decode cX12_commonOf 105 = .ok (.iload 6, 2) := by decide +kernel
theorem dX12_commonOf_107 : decode cX12_commonOf 107 = .ok (.iload 4, 2) := by decide +kernel
theorem dX12_commonOf_109 : decode cX12_commonOf 109 = .ok (.if_icmp .le 8, 3) := by decide +kernel
theorem dX12_commonOf_112 : decode cX12_commonOf 112 = .ok (.iload 6, 2) := by decide +kernel
theorem dX12_commonOf_114 : decode cX12_commonOf 114 = .ok (.goto 5, 3) := by decide +kernel
theorem dX12_commonOf_117 : decode cX12_commonOf 117 = .ok (.iload 4, 2) := by decide +kernel
theorem dX12_commonOf_119 : decode cX12_commonOf 119 = .ok (.istore 4, 2) := by decide +kernel
theorem dX12_commonOf_121 : decode cX12_commonOf 121 = .ok (.iload 8, 2) := by decide +kernel
theorem dX12_commonOf_123 : decode cX12_commonOf 123 = .ok (.ifCond .eq 20, 3) := by decide +kernel
theorem dX12_commonOf_126 : decode cX12_commonOf 126 = .ok (.iload_n 3, 1) := by decide +kernel
theorem dX12_commonOf_127 : decode cX12_commonOf 127 = .ok (.iconst 1, 1) := by decide +kernel
theorem dX12_commonOf_128 : decode cX12_commonOf 128 = .ok (.if_icmp .ne 15, 3) := by decide +kernel
theorem dX12_commonOf_131 : decode cX12_commonOf 131 = .ok (.iload 7, 2) := by decide +kernel
theorem dX12_commonOf_133 : decode cX12_commonOf 133 = .ok (.iload 4, 2) := by decide +kernel
theorem dX12_commonOf_135 : decode cX12_commonOf 135 = .ok (.if_icmp .ge 8, 3) := by decide +kernel
theorem dX12_commonOf_138 : decode cX12_commonOf 138 = .ok (.iload 7, 2) := by decide +kernel
theorem dX12_commonOf_140 : decode cX12_commonOf 140 = .ok (.goto 5, 3) := by decide +kernel
theorem dX12_commonOf_143 : decode cX12_commonOf 143 = .ok (.iload 4, 2) := by decide +kernel
theorem dX12_commonOf_145 : decode cX12_commonOf 145 = .ok (.istore 4, 2) := by decide +kernel
theorem dX12_commonOf_147 : decode cX12_commonOf 147 = .ok (.iinc 5 1, 3) := by decide +kernel
theorem dX12_commonOf_150 : decode cX12_commonOf 150 = .ok (.goto (-132), 3) := by decide +kernel
theorem dX12_commonOf_153 : decode cX12_commonOf 153 = .ok (.iload 4, 2) := by decide +kernel
theorem dX12_commonOf_155 : decode cX12_commonOf 155 = .ok (.ireturn, 1) := by decide +kernel
theorem cd_164 (G : ZG) (d : Nat) (K : ZKt) (F : ZFt) (hT : zt5 G.2.2.2) : CS G RX12 cX12_commonOf 9 d K (some .int) [] (fun _ => []) 0 (bd_164 G.2.2.2 K F) := by
  unfold bd_164
  exact (CS.seq 15 (CS.decI (CX.pure (CE.tern (T := 4) (F := 10) (p1 := 7) (q := 13) (CC.if_eq_F (T := 4) (F := 10) (CE.iload_n rfl dX12_commonOf_0 zhd) dX12_commonOf_1 rfl rfl) (CE.sipush kS_m1000 dX12_commonOf_4 zhd) zex2 dX12_commonOf_7 rfl zhd (CE.sipush kS_10000 dX12_commonOf_10 zhd))) (by decide) dX12_commonOf_13 zhd)
  (CS.seq 153 (CS.scope (CS.seq 18 (CS.decI (CX.pure (CE.iconst kI_0 dX12_commonOf_15 zhd)) (by decide) dX12_commonOf_16 zhd)
  (CS.whl (T := 29) (F := 153) (p1 := 150) (CD.pure (CC.icmp_lt_F (T := 29) (F := 153) (CE.iload dX12_commonOf_18 zhd) (CE.aldI (CE.getR (CE.aload_n rfl dX12_commonOf_20 zhd) fs_X12_53 dX12_commonOf_21 zhd) (CE.iload_n rfl dX12_commonOf_24 zhd) (Or.inl ⟨rfl, dX12_commonOf_25⟩) zhd) dX12_commonOf_26 rfl rfl))
  (CS.seq 147 (CS.scope (CS.seq 54 (CS.decI (CX.pure (CE.isub (CE.aldI (CE.getR (CE.aload_n rfl dX12_commonOf_29 zhd) fs_X12_56 dX12_commonOf_30 zhd) (CE.iadd (CE.imul (CE.iconst kI_3 dX12_commonOf_33 zhd) (CE.iload_n rfl dX12_commonOf_34 zhd) dX12_commonOf_35 zhd) (CE.iload dX12_commonOf_36 zhd) dX12_commonOf_38 zhd) (Or.inl ⟨rfl, dX12_commonOf_39⟩) zhd) (CE.aldI (CE.getR (CE.aload_n rfl dX12_commonOf_40 zhd) fs_X12_59 dX12_commonOf_41 zhd) (CE.iadd (CE.imul (CE.iconst kI_3 dX12_commonOf_44 zhd) (CE.iload_n rfl dX12_commonOf_45 zhd) dX12_commonOf_46 zhd) (CE.iload dX12_commonOf_47 zhd) dX12_commonOf_49 zhd) (Or.inl ⟨rfl, dX12_commonOf_50⟩) zhd) dX12_commonOf_51 zhd)) (by decide) dX12_commonOf_52 zhd)
  (CS.seq 79 (CS.decI (CX.pure (CE.iadd (CE.aldI (CE.getR (CE.aload_n rfl dX12_commonOf_54 zhd) fs_X12_56 dX12_commonOf_55 zhd) (CE.iadd (CE.imul (CE.iconst kI_3 dX12_commonOf_58 zhd) (CE.iload_n rfl dX12_commonOf_59 zhd) dX12_commonOf_60 zhd) (CE.iload dX12_commonOf_61 zhd) dX12_commonOf_63 zhd) (Or.inl ⟨rfl, dX12_commonOf_64⟩) zhd) (CE.aldI (CE.getR (CE.aload_n rfl dX12_commonOf_65 zhd) fs_X12_59 dX12_commonOf_66 zhd) (CE.iadd (CE.imul (CE.iconst kI_3 dX12_commonOf_69 zhd) (CE.iload_n rfl dX12_commonOf_70 zhd) dX12_commonOf_71 zhd) (CE.iload dX12_commonOf_72 zhd) dX12_commonOf_74 zhd) (Or.inl ⟨rfl, dX12_commonOf_75⟩) zhd) dX12_commonOf_76 zhd)) (by decide) dX12_commonOf_77 zhd)
  (CS.seq 96 (CS.decI (CX.pure (CE.bool (T := 89) (F := 93) (q := 94) (CC.icmp_eq_F (T := 89) (F := 93) (CE.iand (CE.ishr (CE.iload_n rfl dX12_commonOf_79 zhd) (CE.iload dX12_commonOf_80 zhd) dX12_commonOf_82 zhd) (CE.iconst kI_1 dX12_commonOf_83 zhd) dX12_commonOf_84 zhd) (CE.iconst kI_1 dX12_commonOf_85 zhd) dX12_commonOf_86 rfl rfl) dX12_commonOf_89 rfl dX12_commonOf_90 rfl zhd dX12_commonOf_93 zhd)) (by decide) dX12_commonOf_94 zhd)
  (CS.seq 121 (CS.setI (CX.pure (CE.tern (T := 112) (F := 117) (p1 := 114) (q := 119) (CC.and (CC.and (CC.if_ne_F (T := 101) (F := 117) (CE.iload dX12_commonOf_96 zhd) dX12_commonOf_98 rfl rfl) (CC.if_eq_F (T := 105) (F := 117) (CE.iload_n rfl dX12_commonOf_101 zhd) dX12_commonOf_102 rfl rfl)) (CC.icmp_gt_F (T := 112) (F := 117) (CE.iload dX12_commonOf_105 zhd) (CE.iload dX12_commonOf_107 zhd) dX12_commonOf_109 rfl rfl)) (CE.iload dX12_commonOf_112 zhd) zex2 dX12_commonOf_114 rfl zhd (CE.iload dX12_commonOf_117 zhd))) (by decide) dX12_commonOf_119 zhd)
  (CS.setI (CX.pure (CE.tern (T := 138) (F := 143) (p1 := 140) (q := 145) (CC.and (CC.and (CC.if_ne_F (T := 126) (F := 143) (CE.iload dX12_commonOf_121 zhd) dX12_commonOf_123 rfl rfl) (CC.icmp_eq_F (T := 131) (F := 143) (CE.iload_n rfl dX12_commonOf_126 zhd) (CE.iconst kI_1 dX12_commonOf_127 zhd) dX12_commonOf_128 rfl rfl)) (CC.icmp_lt_F (T := 138) (F := 143) (CE.iload dX12_commonOf_131 zhd) (CE.iload dX12_commonOf_133 zhd) dX12_commonOf_135 rfl rfl)) (CE.iload dX12_commonOf_138 zhd) zex2 dX12_commonOf_140 rfl zhd (CE.iload dX12_commonOf_143 zhd))) (by decide) dX12_commonOf_145 zhd))))))
  (CS.inc kI_1 (by decide) dX12_commonOf_147 zhd)) dX12_commonOf_150 rfl zhd)))
  (CS.retI (CX.pure (CE.iload dX12_commonOf_153 zhd)) dX12_commonOf_155)))
theorem dX12_knownBy_0 : decode cX12_knownBy 0 = .ok (.iconst 1, 1) := by decide +kernel
theorem dX12_knownBy_1 : decode cX12_knownBy 1 = .ok (.aload_n 0, 1) := by decide +kernel
theorem dX12_knownBy_2 : decode cX12_knownBy 2 = .ok (.getfield 53, 3) := by decide +kernel
theorem dX12_knownBy_5 : decode cX12_knownBy 5 = .ok (.iload_n 1, 1) := by decide +kernel
theorem dX12_knownBy_6 : decode cX12_knownBy 6 = .ok (.iaload, 1) := by decide +kernel
theorem dX12_knownBy_7 : decode cX12_knownBy 7 = .ok (.ishl, 1) := by decide +kernel
theorem dX12_knownBy_8 : decode cX12_knownBy 8 = .ok (.iconst 1, 1) := by decide +kernel
theorem dX12_knownBy_9 : decode cX12_knownBy 9 = .ok (.isub, 1) := by decide +kernel
theorem dX12_knownBy_10 : decode cX12_knownBy 10 = .ok (.istore_n 2, 1) := by decide +kernel
theorem dX12_knownBy_11 : decode cX12_knownBy 11 = .ok (.iload_n 2, 1) := by decide +kernel
theorem dX12_knownBy_12 : decode cX12_knownBy 12 = .ok (.ifCond .ne 5, 3) := by decide +kernel
theorem dX12_knownBy_15 : decode cX12_knownBy 15 = .ok (.iconst 0, 1) := by decide +kernel
theorem dX12_knownBy_16 : decode cX12_knownBy 16 = .ok (.ireturn, 1) := by decide +kernel
theorem dX12_knownBy_17 : decode cX12_knownBy 17 = .ok (.aload_n 0, 1) := by decide +kernel
theorem dX12_knownBy_18 : decode cX12_knownBy 18 = .ok (.iload_n 1, 1) := by decide +kernel
theorem dX12_knownBy_19 : decode cX12_knownBy 19 = .ok (.iload_n 2, 1) := by decide +kernel
theorem dX12_knownBy_20 : decode cX12_knownBy 20 = .ok (.iconst 0, 1) := by decide +kernel
theorem dX12_knownBy_21 : decode cX12_knownBy 21 = .ok (.invokevirtual 218, 3) := by decide +kernel
theorem dX12_knownBy_24 : decode cX12_knownBy 24 = .ok (.aload_n 0, 1) := by decide +kernel
theorem dX12_knownBy_25 : decode cX12_knownBy 25 = .ok (.iload_n 1, 1) := by decide +kernel
theorem dX12_knownBy_26 : decode cX12_knownBy 26 = .ok (.iload_n 2, 1) := by decide +kernel
theorem dX12_knownBy_27 : decode cX12_knownBy 27 = .ok (.iconst 1, 1) := by decide +kernel
theorem dX12_knownBy_28 : decode cX12_knownBy 28 = .ok (.invokevirtual 218, 3) := by decide +kernel
theorem dX12_knownBy_31 : decode cX12_knownBy 31 = .ok (.if_icmp .gt 5, 3) := by decide +kernel
theorem dX12_knownBy_34 : decode cX12_knownBy 34 = .ok (.iload_n 2, 1) := by decide +kernel
theorem dX12_knownBy_35 : decode cX12_knownBy 35 = .ok (.ireturn, 1) := by decide +kernel
theorem dX12_knownBy_36 : decode cX12_knownBy 36 = .ok (.iconst 0, 1) := by decide +kernel
theorem dX12_knownBy_37 : decode cX12_knownBy 37 = .ok (.istore_n 3, 1) := by decide +kernel
theorem dX12_knownBy_38 : decode cX12_knownBy 38 = .ok (.iload_n 3, 1) := by decide +kernel
theorem dX12_knownBy_39 : decode cX12_knownBy 39 = .ok (.iconst 3, 1) := by decide +kernel
theorem dX12_knownBy_40 : decode cX12_knownBy 40 = .ok (.if_icmp .ge 62, 3) := by decide +kernel
theorem dX12_knownBy_43 : decode cX12_knownBy 43 = .ok (.aload_n 0, 1) := by decide +kernel
theorem dX12_knownBy_44 : decode cX12_knownBy 44 = .ok (.getfield 53, 3) := by decide +kernel
theorem dX12_knownBy_47 : decode cX12_knownBy 47 = .ok (.iload_n 1, 1) := by decide +kernel
theorem dX12_knownBy_48 : decode cX12_knownBy 48 = .ok (.iaload, 1) := by decide +kernel
theorem dX12_knownBy_49 : decode cX12_knownBy 49 = .ok (.iconst 3, 1) := by decide +kernel
theorem dX12_knownBy_50 : decode cX12_knownBy 50 = .ok (.if_icmp .ne 52, 3) := by decide +kernel
theorem dX12_knownBy_53 : decode cX12_knownBy 53 = .ok (.iload_n 3, 1) := by decide +kernel
theorem dX12_knownBy_54 : decode cX12_knownBy 54 = .ok (.ifCond .ne 7, 3) := by decide +kernel
theorem dX12_knownBy_57 : decode cX12_knownBy 57 = .ok (.iconst 3, 1) := by decide +kernel
theorem dX12_knownBy_58 : decode cX12_knownBy 58 = .ok (.goto 14, 3) := by decide +kernel
theorem dX12_knownBy_61 : decode cX12_knownBy 61 = .ok (.iload_n 3, 1) := by decide +kernel
theorem dX12_knownBy_62 : decode cX12_knownBy 62 = .ok (.iconst 1, 1) := by decide +kernel
theorem dX12_knownBy_63 : decode cX12_knownBy 63 = .ok (.if_icmp .ne 7, 3) := by decide +kernel
theorem dX12_knownBy_66 : decode cX12_knownBy 66 = .ok (.iconst 5, 1) := by decide +kernel
theorem dX12_knownBy_67 : decode cX12_knownBy 67 = .ok (.goto 5, 3) := by decide +kernel
theorem dX12_knownBy_70 : decode cX12_knownBy 70 = .ok (.bipush 6, 2) := by decide +kernel
theorem dX12_knownBy_72 : decode cX12_knownBy 72 = .ok (.istore 4, 2) := by decide +kernel
theorem dX12_knownBy_74 : decode cX12_knownBy 74 = .ok (.aload_n 0, 1) := by decide +kernel
theorem dX12_knownBy_75 : decode cX12_knownBy 75 = .ok (.iload_n 1, 1) := by decide +kernel
theorem dX12_knownBy_76 : decode cX12_knownBy 76 = .ok (.iload 4, 2) := by decide +kernel
theorem dX12_knownBy_78 : decode cX12_knownBy 78 = .ok (.iconst 0, 1) := by decide +kernel
theorem dX12_knownBy_79 : decode cX12_knownBy 79 = .ok (.invokevirtual 218, 3) := by decide +kernel
theorem dX12_knownBy_82 : decode cX12_knownBy 82 = .ok (.aload_n 0, 1) := by decide +kernel
theorem dX12_knownBy_83 : decode cX12_knownBy 83 = .ok (.iload_n 1, 1) := by decide +kernel
theorem dX12_knownBy_84 : decode cX12_knownBy 84 = .ok (.iload 4, 2) := by decide +kernel
theorem dX12_knownBy_86 : decode cX12_knownBy 86 = .ok (.iconst 1, 1) := by decide +kernel
theorem dX12_knownBy_87 : decode cX12_knownBy 87 = .ok (.invokevirtual 218, 3) := by decide +kernel
theorem dX12_knownBy_90 : decode cX12_knownBy 90 = .ok (.if_icmp .gt 6, 3) := by decide +kernel
theorem dX12_knownBy_93 : decode cX12_knownBy 93 = .ok (.iload 4, 2) := by decide +kernel
theorem dX12_knownBy_95 : decode cX12_knownBy 95 = .ok (.ireturn, 1) := by decide +kernel
theorem dX12_knownBy_96 : decode cX12_knownBy 96 = .ok (.iinc 3 1, 3) := by decide +kernel
theorem dX12_knownBy_99 : decode cX12_knownBy 99 = .ok (.goto (-61), 3) := by decide +kernel
theorem dX12_knownBy_102 : decode cX12_knownBy 102 = .ok (.iconst 0, 1) := by decide +kernel
theorem dX12_knownBy_103 : decode cX12_knownBy 103 = .ok (.ireturn, 1) := by decide +kernel
theorem cd_165 (G : ZG) (d : Nat) (K : ZKt) (F : ZFt) (hT : zt5 G.2.2.2) : CS G RX12 cX12_knownBy 5 d K (some .int) [] (fun _ => []) 0 (bd_165 G.2.2.2 K F) := by
  unfold bd_165
  exact (CS.seq 11 (CS.decI_n (CX.pure (CE.isub (CE.ishl (CE.iconst kI_1 dX12_knownBy_0 zhd) (CE.aldI (CE.getR (CE.aload_n rfl dX12_knownBy_1 zhd) fs_X12_53 dX12_knownBy_2 zhd) (CE.iload_n rfl dX12_knownBy_5 zhd) (Or.inl ⟨rfl, dX12_knownBy_6⟩) zhd) dX12_knownBy_7 zhd) (CE.iconst kI_1 dX12_knownBy_8 zhd) dX12_knownBy_9 zhd)) rfl (by decide) dX12_knownBy_10 zhd)
  (CS.seq 17 (CS.if1 (T := 15) (F := 17) (CD.pure (CC.if_eq_F (T := 15) (F := 17) (CE.iload_n rfl dX12_knownBy_11 zhd) dX12_knownBy_12 rfl rfl)) (CS.retI (CX.pure (CE.iconst kI_0 dX12_knownBy_15 zhd)) dX12_knownBy_16) zhd)
  (CS.seq 36 (CS.if1 (T := 34) (F := 36) (CD.pure (CC.icmp_le_F (T := 34) (F := 36) (CE.callV (by decide) (CA.ref (CE.aload_n rfl dX12_knownBy_17 zhd) (CA.int (CE.iload_n rfl dX12_knownBy_18 zhd) (CA.int (CE.iload_n rfl dX12_knownBy_19 zhd) (CA.int (CE.iconst kI_0 dX12_knownBy_20 zhd) CA.nil)))) zi_164 cv_X12_218 (fun _ => rfl) dX12_knownBy_21 zhd) (CE.callV (by decide) (CA.ref (CE.aload_n rfl dX12_knownBy_24 zhd) (CA.int (CE.iload_n rfl dX12_knownBy_25 zhd) (CA.int (CE.iload_n rfl dX12_knownBy_26 zhd) (CA.int (CE.iconst kI_1 dX12_knownBy_27 zhd) CA.nil)))) zi_164 cv_X12_218 (fun _ => rfl) dX12_knownBy_28 zhd) dX12_knownBy_31 rfl rfl)) (CS.retI (CX.pure (CE.iload_n rfl dX12_knownBy_34 zhd)) dX12_knownBy_35) zhd)
  (CS.seq 102 (CS.scope (CS.seq 38 (CS.decI_n (CX.pure (CE.iconst kI_0 dX12_knownBy_36 zhd)) rfl (by decide) dX12_knownBy_37 zhd)
  (CS.whl (T := 53) (F := 102) (p1 := 99) (CD.pure (CC.and (CC.icmp_lt_F (T := 43) (F := 102) (CE.iload_n rfl dX12_knownBy_38 zhd) (CE.iconst kI_3 dX12_knownBy_39 zhd) dX12_knownBy_40 rfl rfl) (CC.icmp_eq_F (T := 53) (F := 102) (CE.aldI (CE.getR (CE.aload_n rfl dX12_knownBy_43 zhd) fs_X12_53 dX12_knownBy_44 zhd) (CE.iload_n rfl dX12_knownBy_47 zhd) (Or.inl ⟨rfl, dX12_knownBy_48⟩) zhd) (CE.iconst kI_3 dX12_knownBy_49 zhd) dX12_knownBy_50 rfl rfl)))
  (CS.seq 96 (CS.scope (CS.seq 74 (CS.decI (CX.pure (CE.tern (T := 57) (F := 61) (p1 := 58) (q := 72) (CC.if_eq_F (T := 57) (F := 61) (CE.iload_n rfl dX12_knownBy_53 zhd) dX12_knownBy_54 rfl rfl) (CE.iconst kI_3 dX12_knownBy_57 zhd) zex2 dX12_knownBy_58 rfl zhd (CE.tern (T := 66) (F := 70) (p1 := 67) (q := 72) (CC.icmp_eq_F (T := 66) (F := 70) (CE.iload_n rfl dX12_knownBy_61 zhd) (CE.iconst kI_1 dX12_knownBy_62 zhd) dX12_knownBy_63 rfl rfl) (CE.iconst kI_5 dX12_knownBy_66 zhd) zex2 dX12_knownBy_67 rfl zhd (CE.bipush kB_6 dX12_knownBy_70 zhd)))) (by decide) dX12_knownBy_72 zhd)
  (CS.if1 (T := 93) (F := 96) (CD.pure (CC.icmp_le_F (T := 93) (F := 96) (CE.callV (by decide) (CA.ref (CE.aload_n rfl dX12_knownBy_74 zhd) (CA.int (CE.iload_n rfl dX12_knownBy_75 zhd) (CA.int (CE.iload dX12_knownBy_76 zhd) (CA.int (CE.iconst kI_0 dX12_knownBy_78 zhd) CA.nil)))) zi_164 cv_X12_218 (fun _ => rfl) dX12_knownBy_79 zhd) (CE.callV (by decide) (CA.ref (CE.aload_n rfl dX12_knownBy_82 zhd) (CA.int (CE.iload_n rfl dX12_knownBy_83 zhd) (CA.int (CE.iload dX12_knownBy_84 zhd) (CA.int (CE.iconst kI_1 dX12_knownBy_86 zhd) CA.nil)))) zi_164 cv_X12_218 (fun _ => rfl) dX12_knownBy_87 zhd) dX12_knownBy_90 rfl rfl)) (CS.retI (CX.pure (CE.iload dX12_knownBy_93 zhd)) dX12_knownBy_95) zhd)))
  (CS.inc kI_1 (by decide) dX12_knownBy_96 zhd)) dX12_knownBy_99 rfl zhd)))
  (CS.retI (CX.pure (CE.iconst kI_0 dX12_knownBy_102 zhd)) dX12_knownBy_103)))))
theorem dX12_knownAt_0 : decode cX12_knownAt 0 = .ok (.aload_n 0, 1) := by decide +kernel
theorem dX12_knownAt_1 : decode cX12_knownAt 1 = .ok (.iload_n 1, 1) := by decide +kernel
theorem dX12_knownAt_2 : decode cX12_knownAt 2 = .ok (.invokevirtual 222, 3) := by decide +kernel
theorem dX12_knownAt_5 : decode cX12_knownAt 5 = .ok (.istore_n 3, 1) := by decide +kernel
theorem dX12_knownAt_6 : decode cX12_knownAt 6 = .ok (.aload_n 0, 1) := by decide +kernel
theorem dX12_knownAt_7 : decode cX12_knownAt 7 = .ok (.getfield 53, 3) := by decide +kernel
theorem dX12_knownAt_10 : decode cX12_knownAt 10 = .ok (.iload_n 1, 1) := by decide +kernel
theorem dX12_knownAt_11 : decode cX12_knownAt 11 = .ok (.iaload, 1) := by decide +kernel
theorem dX12_knownAt_12 : decode cX12_knownAt 12 = .ok (.ifCond .ne 9, 3) := by decide +kernel
theorem dX12_knownAt_15 : decode cX12_knownAt 15 = .ok (.sipush (-1001), 3) := by decide +kernel
theorem dX12_knownAt_18 : decode cX12_knownAt 18 = .ok (.goto 20, 3) := by decide +kernel
theorem dX12_knownAt_21 : decode cX12_knownAt 21 = .ok (.iload_n 3, 1) := by decide +kernel
theorem dX12_knownAt_22 : decode cX12_knownAt 22 = .ok (.ifCond .ne 9, 3) := by decide +kernel
theorem dX12_knownAt_25 : decode cX12_knownAt 25 = .ok (.sipush (-1002), 3) := by decide +kernel
theorem dX12_knownAt_28 : decode cX12_knownAt 28 = .ok (.goto 10, 3) := by decide +kernel
theorem dX12_knownAt_31 : decode cX12_knownAt 31 = .ok (.aload_n 0, 1) := by decide +kernel
theorem dX12_knownAt_32 : decode cX12_knownAt 32 = .ok (.iload_n 1, 1) := by decide +kernel
theorem dX12_knownAt_33 : decode cX12_knownAt 33 = .ok (.iload_n 3, 1) := by decide +kernel
theorem dX12_knownAt_34 : decode cX12_knownAt 34 = .ok (.iload_n 2, 1) := by decide +kernel
theorem dX12_knownAt_35 : decode cX12_knownAt 35 = .ok (.invokevirtual 218, 3) := by decide +kernel
theorem dX12_knownAt_38 : decode cX12_knownAt 38 = .ok (.ireturn, 1) := by decide +kernel
theorem cd_166 (G : ZG) (d : Nat) (K : ZKt) (F : ZFt) (hT : zt5 G.2.2.2) : CS G RX12 cX12_knownAt 4 d K (some .int) [] (fun _ => []) 0 (bd_166 G.2.2.2 K F) := by
  unfold bd_166
  exact (CS.seq 6 (CS.decI_n (CX.pure (CE.callV (by decide) (CA.ref (CE.aload_n rfl dX12_knownAt_0 zhd) (CA.int (CE.iload_n rfl dX12_knownAt_1 zhd) CA.nil)) zi_165 cv_X12_222 (fun _ => rfl) dX12_knownAt_2 zhd)) rfl (by decide) dX12_knownAt_5 zhd)
  (CS.retI (CX.pure (CE.tern (T := 15) (F := 21) (p1 := 18) (q := 38) (CC.if_eq_F (T := 15) (F := 21) (CE.aldI (CE.getR (CE.aload_n rfl dX12_knownAt_6 zhd) fs_X12_53 dX12_knownAt_7 zhd) (CE.iload_n rfl dX12_knownAt_10 zhd) (Or.inl ⟨rfl, dX12_knownAt_11⟩) zhd) dX12_knownAt_12 rfl rfl) (CE.sipush kS_m1001 dX12_knownAt_15 zhd) zex2 dX12_knownAt_18 rfl zhd (CE.tern (T := 25) (F := 31) (p1 := 28) (q := 38) (CC.if_eq_F (T := 25) (F := 31) (CE.iload_n rfl dX12_knownAt_21 zhd) dX12_knownAt_22 rfl rfl) (CE.sipush kS_m1002 dX12_knownAt_25 zhd) zex2 dX12_knownAt_28 rfl zhd (CE.callV (by decide) (CA.ref (CE.aload_n rfl dX12_knownAt_31 zhd) (CA.int (CE.iload_n rfl dX12_knownAt_32 zhd) (CA.int (CE.iload_n rfl dX12_knownAt_33 zhd) (CA.int (CE.iload_n rfl dX12_knownAt_34 zhd) CA.nil)))) zi_164 cv_X12_218 (fun _ => rfl) dX12_knownAt_35 zhd)))) dX12_knownAt_38))
theorem dX12_known_0 : decode cX12_known 0 = .ok (.aload_n 0, 1) := by decide +kernel
theorem dX12_known_1 : decode cX12_known 1 = .ok (.iload_n 1, 1) := by decide +kernel
theorem dX12_known_2 : decode cX12_known 2 = .ok (.invokevirtual 215, 3) := by decide +kernel
theorem dX12_known_5 : decode cX12_known 5 = .ok (.ifCond .ne 8, 3) := by decide +kernel
theorem dX12_known_8 : decode cX12_known 8 = .ok (.bipush (-101), 2) := by decide +kernel
theorem dX12_known_10 : decode cX12_known 10 = .ok (.goto 23, 3) := by decide +kernel
theorem dX12_known_13 : decode cX12_known 13 = .ok (.iload_n 2, 1) := by decide +kernel
theorem dX12_known_14 : decode cX12_known 14 = .ok (.iconst 0, 1) := by decide +kernel
theorem dX12_known_15 : decode cX12_known 15 = .ok (.iconst 1, 1) := by decide +kernel
theorem dX12_known_16 : decode cX12_known 16 = .ok (.invokestatic 142, 3) := by decide +kernel
theorem dX12_known_19 : decode cX12_known 19 = .ok (.ifCond .eq 12, 3) := by decide +kernel
theorem dX12_known_22 : decode cX12_known 22 = .ok (.aload_n 0, 1) := by decide +kernel
theorem dX12_known_23 : decode cX12_known 23 = .ok (.iload_n 1, 1) := by decide +kernel
theorem dX12_known_24 : decode cX12_known 24 = .ok (.iload_n 2, 1) := by decide +kernel
theorem dX12_known_25 : decode cX12_known 25 = .ok (.invokevirtual 225, 3) := by decide +kernel
theorem dX12_known_28 : decode cX12_known 28 = .ok (.goto 5, 3) := by decide +kernel
theorem dX12_known_31 : decode cX12_known 31 = .ok (.bipush (-102), 2) := by decide +kernel
theorem dX12_known_33 : decode cX12_known 33 = .ok (.ireturn, 1) := by decide +kernel
theorem cd_167 (G : ZG) (d : Nat) (K : ZKt) (F : ZFt) (hT : zt5 G.2.2.2) : CS G RX12 cX12_known 3 d K (some .int) [] (fun _ => []) 0 (bd_167 G.2.2.2 K F) := by
  unfold bd_167
  exact (CS.retI (CX.pure (CE.tern (T := 8) (F := 13) (p1 := 10) (q := 33) (CC.not (CC.if_ne_T (T := 13) (F := 8) (CE.callV (by decide) (CA.ref (CE.aload_n rfl dX12_known_0 zhd) (CA.int (CE.iload_n rfl dX12_known_1 zhd) CA.nil)) zi_137 cv_X12_215 (fun _ => rfl) dX12_known_2 zhd) dX12_known_5 rfl rfl)) (CE.bipush kB_m101 dX12_known_8 zhd) zex2 dX12_known_10 rfl zhd (CE.tern (T := 22) (F := 31) (p1 := 28) (q := 33) (CC.if_ne_F (T := 22) (F := 31) (CE.callS (by decide) (CA.int (CE.iload_n rfl dX12_known_13 zhd) (CA.int (CE.iconst kI_0 dX12_known_14 zhd) (CA.int (CE.iconst kI_1 dX12_known_15 zhd) CA.nil))) zi_135 cs_X12_142 (fun _ => rfl) dX12_known_16 zhd) dX12_known_19 rfl rfl) (CE.callV (by decide) (CA.ref (CE.aload_n rfl dX12_known_22 zhd) (CA.int (CE.iload_n rfl dX12_known_23 zhd) (CA.int (CE.iload_n rfl dX12_known_24 zhd) CA.nil))) zi_166 cv_X12_225 (fun _ => rfl) dX12_known_25 zhd) zex2 dX12_known_28 rfl zhd (CE.bipush kB_m102 dX12_known_31 zhd)))) dX12_known_33)
theorem dX12_layFits_0 : decode cX12_layFits 0 = .ok (.iconst 0, 1) := by decide +kernel
theorem dX12_layFits_1 : decode cX12_layFits 1 = .ok (.istore 5, 2) := by decide +kernel
theorem dX12_layFits_3 : decode cX12_layFits 3 = .ok (.iload 5, 2) := by decide +kernel
theorem dX12_layFits_5 : decode cX12_layFits 5 = .ok (.aload_n 0, 1) := by decide +kernel
theorem dX12_layFits_6 : decode cX12_layFits 6 = .ok (.getfield 146, 3) := by decide +kernel
theorem dX12_layFits_9 : decode cX12_layFits 9 = .ok (.if_icmp .ge 136, 3) := by decide +kernel
theorem dX12_layFits_12 : decode cX12_layFits 12 = .ok (.iconst 0, 1) := by decide +kernel
theorem dX12_layFits_13 : decode cX12_layFits 13 = .ok (.istore 6, 2) := by decide +kernel
theorem dX12_layFits_15 : decode cX12_layFits 15 = .ok (.iload 6, 2) := by decide +kernel
theorem dX12_layFits_17 : decode cX12_layFits 17 = .ok (.aload_n 0, 1) := by decide +kernel
theorem dX12_layFits_18 : decode cX12_layFits 18 = .ok (.getfield 146, 3) := by decide +kernel
theorem dX12_layFits_21 : decode cX12_layFits 21 = .ok (.if_icmp .ge 118, 3) := by decide +kernel
theorem dX12_layFits_24 : decode cX12_layFits 24 = .ok (.aload_n 0, 1) := by decide +kernel
theorem dX12_layFits_25 : decode cX12_layFits 25 = .ok (.getfield 47, 3) := by decide +kernel
theorem dX12_layFits_28 : decode cX12_layFits 28 = .ok (.iload 5, 2) := by decide +kernel
theorem dX12_layFits_30 : decode cX12_layFits 30 = .ok (.iaload, 1) := by decide +kernel
theorem dX12_layFits_31 : decode cX12_layFits 31 = .ok (.iload_n 1, 1) := by decide +kernel
theorem dX12_layFits_32 : decode cX12_layFits 32 = .ok (.if_icmp .ne 36, 3) := by decide +kernel
theorem dX12_layFits_35 : decode cX12_layFits 35 = .ok (.aload_n 0, 1) := by decide +kernel
theorem dX12_layFits_36 : decode cX12_layFits 36 = .ok (.getfield 47, 3) := by decide +kernel
theorem dX12_layFits_39 : decode cX12_layFits 39 = .ok (.iload 6, 2) := by decide +kernel
theorem dX12_layFits_41 : decode cX12_layFits 41 = .ok (.iaload, 1) := by decide +kernel
theorem dX12_layFits_42 : decode cX12_layFits 42 = .ok (.iload_n 2, 1) := by decide +kernel
theorem dX12_layFits_43 : decode cX12_layFits 43 = .ok (.if_icmp .ne 25, 3) := by decide +kernel
theorem dX12_layFits_46 : decode cX12_layFits 46 = .ok (.aload_n 0, 1) := by decide +kernel
theorem dX12_layFits_47 : decode cX12_layFits 47 = .ok (.iload 5, 2) := by decide +kernel
theorem dX12_layFits_49 : decode cX12_layFits 49 = .ok (.invokevirtual 222, 3) := by decide +kernel
theorem dX12_layFits_52 : decode cX12_layFits 52 = .ok (.ifCond .eq 16, 3) := by decide +kernel
theorem dX12_layFits_55 : decode cX12_layFits 55 = .ok (.aload_n 0, 1) := by decide +kernel
theorem dX12_layFits_56 : decode cX12_layFits 56 = .ok (.iload 6, 2) := by decide +kernel
theorem dX12_layFits_58 : decode cX12_layFits 58 = .ok (.invokevirtual 222, 3) := by decide +kernel
theorem dX12_layFits_61 : decode cX12_layFits 61 = .ok (.ifCond .eq 7, 3) := by decide +kernel
theorem dX12_layFits_64 : decode cX12_layFits 64 = .ok (.iconst 1, 1) := by decide +kernel
theorem dX12_layFits_65 : decode cX12_layFits 65 = .ok (.goto 4, 3) := by decide +kernel
theorem dX12_layFits_68 : decode cX12_layFits 68 = .ok (.iconst 0, 1) := by decide +kernel
theorem dX12_layFits_69 : decode cX12_layFits 69 = .ok (.istore 7, 2) := by decide +kernel
theorem dX12_layFits_71 : decode cX12_layFits 71 = .ok (.aload_n 0, 1) := by decide +kernel
theorem dX12_layFits_72 : decode cX12_layFits 72 = .ok (.getfield 120, 3) := by decide +kernel
theorem dX12_layFits_75 : decode cX12_layFits 75 = .ok (.bipush 24, 2) := by decide +kernel
theorem dX12_layFits_77 : decode cX12_layFits 77 = .ok (.iload 5, 2) := by decide +kernel
theorem dX12_layFits_79 : decode cX12_layFits 79 = .ok (.imul, 1) := by decide +kernel
theorem dX12_layFits_80 : decode cX12_layFits 80 = .ok (.iload 6, 2) := by decide +kernel
theorem dX12_layFits_82 : decode cX12_layFits 82 = .ok (.iadd, 1) := by decide +kernel
theorem dX12_layFits_83 : decode cX12_layFits 83 = .ok (.iload 7, 2) := by decide +kernel
theorem dX12_layFits_85 : decode cX12_layFits 85 = .ok (.ifCond .eq 46, 3) := by decide +kernel
theorem dX12_layFits_88 : decode cX12_layFits 88 = .ok (.aload_n 0, 1) := by decide +kernel
theorem dX12_layFits_89 : decode cX12_layFits 89 = .ok (.iload 5, 2) := by decide +kernel
theorem dX12_layFits_91 : decode cX12_layFits 91 = .ok (.iconst 0, 1) := by decide +kernel
theorem dX12_layFits_92 : decode cX12_layFits 92 = .ok (.invokevirtual 225, 3) := by decide +kernel
theorem dX12_layFits_95 : decode cX12_layFits 95 = .ok (.aload_n 0, 1) := by decide +kernel
theorem dX12_layFits_96 : decode cX12_layFits 96 = .ok (.iload 6, 2) := by decide +kernel
theorem dX12_layFits_98 : decode cX12_layFits 98 = .ok (.iconst 1, 1) := by decide +kernel
theorem dX12_layFits_99 : decode cX12_layFits 99 = .ok (.invokevirtual 225, 3) := by decide +kernel
theorem dX12_layFits_102 : decode cX12_layFits 102 = .ok (.isub, 1) := by decide +kernel
theorem dX12_layFits_103 : decode cX12_layFits 103 = .ok (.iload_n 3, 1) := by decide +kernel
theorem dX12_layFits_104 : decode cX12_layFits 104 = .ok (.if_icmp .lt 27, 3) := by decide +kernel
theorem dX12_layFits_107 : decode cX12_layFits 107 = .ok (.aload_n 0, 1) := by decide +kernel
theorem dX12_layFits_108 : decode cX12_layFits 108 = .ok (.iload 5, 2) := by decide +kernel
theorem dX12_layFits_110 : decode cX12_layFits 110 = .ok (.iconst 1, 1) := by decide +kernel
theorem dX12_layFits_111 : decode cX12_layFits 111 = .ok (.invokevirtual 225, 3) := by decide +kernel
theorem dX12_layFits_114 : decode cX12_layFits 114 = .ok (.aload_n 0, 1) := by decide +kernel
theorem dX12_layFits_115 : decode cX12_layFits 115 = .ok (.iload 6, 2) := by decide +kernel
theorem dX12_layFits_117 : decode cX12_layFits 117 = .ok (.iconst 0, 1) := by decide +kernel
theorem dX12_layFits_118 : decode cX12_layFits 118 = .ok (.invokevirtual 225, 3) := by decide +kernel
theorem dX12_layFits_121 : decode cX12_layFits 121 = .ok (.isub, 1) := by decide +kernel
theorem dX12_layFits_122 : decode cX12_layFits 122 = .ok (.iload 4, 2) := by decide +kernel
theorem dX12_layFits_124 : decode cX12_layFits 124 = .ok (.if_icmp .gt 7, 3) := by decide +kernel
theorem dX12_layFits_127 : decode cX12_layFits 127 = .ok (.iconst 1, 1) := by decide +kernel
theorem dX12_layFits_128 : decode cX12_layFits 128 = .ok (.goto 4, 3) := by decide +kernel
theorem dX12_layFits_131 : decode cX12_layFits 131 = .ok (.iconst 0, 1) := by decide +kernel
theorem dX12_layFits_132 : decode cX12_layFits 132 = .ok (.bastore, 1) := by decide +kernel
theorem dX12_layFits_133 : decode cX12_layFits 133 = .ok (.iinc 6 1, 3) := by decide +kernel
theorem dX12_layFits_136 : decode cX12_layFits 136 = .ok (.goto (-121), 3) := by decide +kernel
theorem dX12_layFits_139 : decode cX12_layFits 139 = .ok (.iinc 5 1, 3) := by decide +kernel
theorem dX12_layFits_142 : decode cX12_layFits 142 = .ok (.goto (-139), 3) := by decide +kernel
theorem dX12_layFits_145 : decode cX12_layFits 145 = .ok (.return_, 1) := by decide +kernel
theorem cd_168 (G : ZG) (d : Nat) (K : ZKt) (F : ZFt) (hT : zt5 G.2.2.2) : CS G RX12 cX12_layFits 8 d K (none) [] (fun _ => []) 0 (bd_168 G.2.2.2 K F) := by
  unfold bd_168
  exact (CS.seq 145 (CS.scope (CS.seq 3 (CS.decI (CX.pure (CE.iconst kI_0 dX12_layFits_0 zhd)) (by decide) dX12_layFits_1 zhd)
  (CS.whl (T := 12) (F := 145) (p1 := 142) (CD.pure (CC.icmp_lt_F (T := 12) (F := 145) (CE.iload dX12_layFits_3 zhd) (CE.getI (CE.aload_n rfl dX12_layFits_5 zhd) fs_X12_146 dX12_layFits_6 zhd) dX12_layFits_9 rfl rfl))
  (CS.seq 139 (CS.scope (CS.seq 15 (CS.decI (CX.pure (CE.iconst kI_0 dX12_layFits_12 zhd)) (by decide) dX12_layFits_13 zhd)
  (CS.whl (T := 24) (F := 139) (p1 := 136) (CD.pure (CC.icmp_lt_F (T := 24) (F := 139) (CE.iload dX12_layFits_15 zhd) (CE.getI (CE.aload_n rfl dX12_layFits_17 zhd) fs_X12_146 dX12_layFits_18 zhd) dX12_layFits_21 rfl rfl))
  (CS.seq 133 (CS.scope (CS.seq 71 (CS.decI (CX.pure (CE.bool (T := 64) (F := 68) (q := 69) (CC.and (CC.and (CC.and (CC.icmp_eq_F (T := 35) (F := 68) (CE.aldI (CE.getR (CE.aload_n rfl dX12_layFits_24 zhd) fs_X12_47 dX12_layFits_25 zhd) (CE.iload dX12_layFits_28 zhd) (Or.inl ⟨rfl, dX12_layFits_30⟩) zhd) (CE.iload_n rfl dX12_layFits_31 zhd) dX12_layFits_32 rfl rfl) (CC.icmp_eq_F (T := 46) (F := 68) (CE.aldI (CE.getR (CE.aload_n rfl dX12_layFits_35 zhd) fs_X12_47 dX12_layFits_36 zhd) (CE.iload dX12_layFits_39 zhd) (Or.inl ⟨rfl, dX12_layFits_41⟩) zhd) (CE.iload_n rfl dX12_layFits_42 zhd) dX12_layFits_43 rfl rfl)) (CC.if_ne_F (T := 55) (F := 68) (CE.callV (by decide) (CA.ref (CE.aload_n rfl dX12_layFits_46 zhd) (CA.int (CE.iload dX12_layFits_47 zhd) CA.nil)) zi_165 cv_X12_222 (fun _ => rfl) dX12_layFits_49 zhd) dX12_layFits_52 rfl rfl)) (CC.if_ne_F (T := 64) (F := 68) (CE.callV (by decide) (CA.ref (CE.aload_n rfl dX12_layFits_55 zhd) (CA.int (CE.iload dX12_layFits_56 zhd) CA.nil)) zi_165 cv_X12_222 (fun _ => rfl) dX12_layFits_58 zhd) dX12_layFits_61 rfl rfl)) dX12_layFits_64 rfl dX12_layFits_65 rfl zhd dX12_layFits_68 zhd)) (by decide) dX12_layFits_69 zhd)
  (CS.st (CE.getR (CE.aload_n rfl dX12_layFits_71 zhd) fs_X12_120 dX12_layFits_72 zhd) (CX.pure (CE.iadd (CE.imul (CE.bipush kB_24 dX12_layFits_75 zhd) (CE.iload dX12_layFits_77 zhd) dX12_layFits_79 zhd) (CE.iload dX12_layFits_80 zhd) dX12_layFits_82 zhd)) (CX.pure (CE.bool (T := 127) (F := 131) (q := 132) (CC.and (CC.and (CC.if_ne_F (T := 88) (F := 131) (CE.iload dX12_layFits_83 zhd) dX12_layFits_85 rfl rfl) (CC.icmp_ge_F (T := 107) (F := 131) (CE.isub (CE.callV (by decide) (CA.ref (CE.aload_n rfl dX12_layFits_88 zhd) (CA.int (CE.iload dX12_layFits_89 zhd) (CA.int (CE.iconst kI_0 dX12_layFits_91 zhd) CA.nil))) zi_166 cv_X12_225 (fun _ => rfl) dX12_layFits_92 zhd) (CE.callV (by decide) (CA.ref (CE.aload_n rfl dX12_layFits_95 zhd) (CA.int (CE.iload dX12_layFits_96 zhd) (CA.int (CE.iconst kI_1 dX12_layFits_98 zhd) CA.nil))) zi_166 cv_X12_225 (fun _ => rfl) dX12_layFits_99 zhd) dX12_layFits_102 zhd) (CE.iload_n rfl dX12_layFits_103 zhd) dX12_layFits_104 rfl rfl)) (CC.icmp_le_F (T := 127) (F := 131) (CE.isub (CE.callV (by decide) (CA.ref (CE.aload_n rfl dX12_layFits_107 zhd) (CA.int (CE.iload dX12_layFits_108 zhd) (CA.int (CE.iconst kI_1 dX12_layFits_110 zhd) CA.nil))) zi_166 cv_X12_225 (fun _ => rfl) dX12_layFits_111 zhd) (CE.callV (by decide) (CA.ref (CE.aload_n rfl dX12_layFits_114 zhd) (CA.int (CE.iload dX12_layFits_115 zhd) (CA.int (CE.iconst kI_0 dX12_layFits_117 zhd) CA.nil))) zi_166 cv_X12_225 (fun _ => rfl) dX12_layFits_118 zhd) dX12_layFits_121 zhd) (CE.iload dX12_layFits_122 zhd) dX12_layFits_124 rfl rfl)) dX12_layFits_127 rfl dX12_layFits_128 rfl zhd dX12_layFits_131 zhd)) (Or.inr ⟨Or.inr rfl, dX12_layFits_132⟩) zhd)))
  (CS.inc kI_1 (by decide) dX12_layFits_133 zhd)) dX12_layFits_136 rfl zhd)))
  (CS.inc kI_1 (by decide) dX12_layFits_139 zhd)) dX12_layFits_142 rfl zhd)))
  (CS.retV dX12_layFits_145))
theorem dX12_grows_0 : decode cX12_grows 0 = .ok (.iconst 0, 1) := by decide +kernel
theorem dX12_grows_1 : decode cX12_grows 1 = .ok (.istore_n 2, 1) := by decide +kernel
theorem dX12_grows_2 : decode cX12_grows 2 = .ok (.iload_n 2, 1) := by decide +kernel
theorem dX12_grows_3 : decode cX12_grows 3 = .ok (.aload_n 0, 1) := by decide +kernel
theorem dX12_grows_4 : decode cX12_grows 4 = .ok (.getfield 146, 3) := by decide +kernel
theorem dX12_grows_7 : decode cX12_grows 7 = .ok (.if_icmp .ge 16, 3) := by decide +kernel
theorem dX12_grows_10 : decode cX12_grows 10 = .ok (.aload_n 0, 1) := by decide +kernel
theorem dX12_grows_11 : decode cX12_grows 11 = .ok (.getfield 130, 3) := by decide +kernel
theorem dX12_grows_14 : decode cX12_grows 14 = .ok (.iload_n 2, 1) := by decide +kernel
theorem dX12_grows_15 : decode cX12_grows 15 = .ok (.iconst (-1), 1) := by decide +kernel
theorem dX12_grows_16 : decode cX12_grows 16 = .ok (.iastore, 1) := by decide +kernel
theorem dX12_grows_17 : decode cX12_grows 17 = .ok (.iinc 2 1, 3) := by decide +kernel
theorem dX12_grows_20 : decode cX12_grows 20 = .ok (.goto (-18), 3) := by decide +kernel
theorem dX12_grows_23 : decode cX12_grows 23 = .ok (.iconst 0, 1) := by decide +kernel
theorem dX12_grows_24 : decode cX12_grows 24 = .ok (.istore_n 2, 1) := by decide +kernel
theorem dX12_grows_25 : decode cX12_grows 25 = .ok (.iconst 1, 1) := by decide +kernel
theorem dX12_grows_26 : decode cX12_grows 26 = .ok (.istore_n 3, 1) := by decide +kernel
theorem dX12_grows_27 : decode cX12_grows 27 = .ok (.aload_n 0, 1) := by decide +kernel
theorem dX12_grows_28 : decode cX12_grows 28 = .ok (.getfield 133, 3) := by decide +kernel
theorem dX12_grows_31 : decode cX12_grows 31 = .ok (.iconst 0, 1) := by decide +kernel
theorem dX12_grows_32 : decode cX12_grows 32 = .ok (.iload_n 1, 1) := by decide +kernel
theorem dX12_grows_33 : decode cX12_grows 33 = .ok (.iastore, 1) := by decide +kernel
theorem dX12_grows_34 : decode cX12_grows 34 = .ok (.iload_n 2, 1) := by decide +kernel
theorem dX12_grows_35 : decode cX12_grows 35 = .ok (.iload_n 3, 1) := by decide +kernel
theorem dX12_grows_36 : decode cX12_grows 36 = .ok (.if_icmp .ge 116, 3) := by decide +kernel
theorem dX12_grows_39 : decode cX12_grows 39 = .ok (.aload_n 0, 1) := by decide +kernel
theorem dX12_grows_40 : decode cX12_grows 40 = .ok (.getfield 133, 3) := by decide +kernel
theorem dX12_grows_43 : decode cX12_grows 43 = .ok (.iload_n 2, 1) := by decide +kernel
theorem dX12_grows_44 : decode cX12_grows 44 = .ok (.iaload, 1) := by decide +kernel
theorem dX12_grows_45 : decode cX12_grows 45 = .ok (.istore 4, 2) := by decide +kernel
theorem dX12_grows_47 : decode cX12_grows 47 = .ok (.iinc 2 1, 3) := by decide +kernel
theorem dX12_grows_50 : decode cX12_grows 50 = .ok (.iconst 0, 1) := by decide +kernel
theorem dX12_grows_51 : decode cX12_grows 51 = .ok (.istore 5, 2) := by decide +kernel
theorem dX12_grows_53 : decode cX12_grows 53 = .ok (.iload 5, 2) := by decide +kernel
theorem dX12_grows_55 : decode cX12_grows 55 = .ok (.aload_n 0, 1) := by decide +kernel
theorem dX12_grows_56 : decode cX12_grows 56 = .ok (.getfield 146, 3) := by decide +kernel
theorem dX12_grows_59 : decode cX12_grows 59 = .ok (.if_icmp .ge 90, 3) := by decide +kernel
theorem dX12_grows_62 : decode cX12_grows 62 = .ok (.aload_n 0, 1) := by decide +kernel
theorem dX12_grows_63 : decode cX12_grows 63 = .ok (.getfield 120, 3) := by decide +kernel
theorem dX12_grows_66 : decode cX12_grows 66 = .ok (.bipush 24, 2) := by decide +kernel
theorem dX12_grows_68 : decode cX12_grows 68 = .ok (.iload 4, 2) := by decide +kernel
theorem dX12_grows_70 : decode cX12_grows 70 = .ok (.imul, 1) := by decide +kernel
theorem dX12_grows_71 : decode cX12_grows 71 = .ok (.iload 5, 2) := by decide +kernel
theorem dX12_grows_73 : decode cX12_grows 73 = .ok (.iadd, 1) := by decide +kernel
theorem dX12_grows_74 : decode cX12_grows 74 = .ok (.baload, 1) := by decide +kernel
theorem dX12_grows_75 : decode cX12_grows 75 = .ok (.ifCond .eq 68, 3) := by decide +kernel
theorem dX12_grows_78 : decode cX12_grows 78 = .ok (.aload_n 0, 1) := by decide +kernel
theorem dX12_grows_79 : decode cX12_grows 79 = .ok (.getfield 127, 3) := by decide +kernel
theorem dX12_grows_82 : decode cX12_grows 82 = .ok (.iload 5, 2) := by decide +kernel
theorem dX12_grows_84 : decode cX12_grows 84 = .ok (.baload, 1) := by decide +kernel
theorem dX12_grows_85 : decode cX12_grows 85 = .ok (.ifCond .ne 58, 3) := by decide +kernel
theorem dX12_grows_88 : decode cX12_grows 88 = .ok (.aload_n 0, 1) := by decide +kernel
theorem dX12_grows_89 : decode cX12_grows 89 = .ok (.getfield 130, 3) := by decide +kernel
theorem dX12_grows_92 : decode cX12_grows 92 = .ok (.iload 5, 2) := by decide +kernel
theorem dX12_grows_94 : decode cX12_grows 94 = .ok (.iaload, 1) := by decide +kernel
theorem dX12_grows_95 : decode cX12_grows 95 = .ok (.iconst (-1), 1) := by decide +kernel
theorem dX12_grows_96 : decode cX12_grows 96 = .ok (.if_icmp .ne 47, 3) := by decide +kernel
theorem dX12_grows_99 : decode cX12_grows 99 = .ok (.aload_n 0, 1) := by decide +kernel
theorem dX12_grows_100 : decode cX12_grows 100 = .ok (.getfield 130, 3) := by decide +kernel
theorem dX12_grows_103 : decode cX12_grows 103 = .ok (.iload 5, 2) := by decide +kernel
theorem dX12_grows_105 : decode cX12_grows 105 = .ok (.iload 4, 2) := by decide +kernel
theorem dX12_grows_107 : decode cX12_grows 107 = .ok (.iastore, 1) := by decide +kernel
theorem dX12_grows_108 : decode cX12_grows 108 = .ok (.aload_n 0, 1) := by decide +kernel
theorem dX12_grows_109 : decode cX12_grows 109 = .ok (.getfield 124, 3) := by decide +kernel
theorem dX12_grows_112 : decode cX12_grows 112 = .ok (.iload 5, 2) := by decide +kernel
theorem dX12_grows_114 : decode cX12_grows 114 = .ok (.iaload, 1) := by decide +kernel
theorem dX12_grows_115 : decode cX12_grows 115 = .ok (.iconst (-1), 1) := by decide +kernel
theorem dX12_grows_116 : decode cX12_grows 116 = .ok (.if_icmp .ne 11, 3) := by decide +kernel
theorem dX12_grows_119 : decode cX12_grows 119 = .ok (.aload_n 0, 1) := by decide +kernel
theorem dX12_grows_120 : decode cX12_grows 120 = .ok (.iload 5, 2) := by decide +kernel
theorem dX12_grows_122 : decode cX12_grows 122 = .ok (.invokevirtual 228, 3) := by decide +kernel
theorem dX12_grows_125 : decode cX12_grows 125 = .ok (.iconst 1, 1) := by decide +kernel
theorem dX12_grows_126 : decode cX12_grows 126 = .ok (.ireturn, 1) := by decide +kernel
theorem dX12_grows_127 : decode cX12_grows 127 = .ok (.aload_n 0, 1) := by decide +kernel
theorem dX12_grows_128 : decode cX12_grows 128 = .ok (.getfield 133, 3) := by decide +kernel
theorem dX12_grows_131 : decode cX12_grows 131 = .ok (.iload_n 3, 1) := by decide +kernel
theorem dX12_grows_132 : decode cX12_grows 132 = .ok (.aload_n 0, 1) := by decide +kernel
theorem dX12_grows_133 : decode cX12_grows 133 = .ok (.getfield 124, 3) := by decide +kernel
theorem dX12_grows_136 : decode cX12_grows 136 = .ok (.iload 5, 2) := by decide +kernel
theorem dX12_grows_138 : decode cX12_grows 138 = .ok (.iaload, 1) := by decide +kernel
theorem dX12_grows_139 : decode cX12_grows 139 = .ok (.iastore, 1) := by decide +kernel
theorem dX12_grows_140 : decode cX12_grows 140 = .ok (.iinc 3 1, 3) := by decide +kernel
theorem dX12_grows_143 : decode cX12_grows 143 = .ok (.iinc 5 1, 3) := by decide +kernel
theorem dX12_grows_146 : decode cX12_grows 146 = .ok (.goto (-93), 3) := by decide +kernel
theorem dX12_grows_149 : decode cX12_grows 149 = .ok (.goto (-115), 3) := by decide +kernel
theorem dX12_grows_152 : decode cX12_grows 152 = .ok (.iconst 0, 1) := by decide +kernel
theorem dX12_grows_153 : decode cX12_grows 153 = .ok (.ireturn, 1) := by decide +kernel
theorem cd_169 (G : ZG) (d : Nat) (K : ZKt) (F : ZFt) (hT : zt5 G.2.2.2) : CS G RX12 cX12_grows 6 d K (some .boolean) [] (fun _ => []) 0 (bd_169 G.2.2.2 K F) := by
  unfold bd_169
  exact (CS.seq 23 (CS.scope (CS.seq 2 (CS.decI_n (CX.pure (CE.iconst kI_0 dX12_grows_0 zhd)) rfl (by decide) dX12_grows_1 zhd)
  (CS.whl (T := 10) (F := 23) (p1 := 20) (CD.pure (CC.icmp_lt_F (T := 10) (F := 23) (CE.iload_n rfl dX12_grows_2 zhd) (CE.getI (CE.aload_n rfl dX12_grows_3 zhd) fs_X12_146 dX12_grows_4 zhd) dX12_grows_7 rfl rfl))
  (CS.seq 17 (CS.st (CE.getR (CE.aload_n rfl dX12_grows_10 zhd) fs_X12_130 dX12_grows_11 zhd) (CX.pure (CE.iload_n rfl dX12_grows_14 zhd)) (CX.pure (CE.iconst kI_m1 dX12_grows_15 zhd)) (Or.inl ⟨rfl, dX12_grows_16⟩) zhd)
  (CS.inc kI_1 (by decide) dX12_grows_17 zhd)) dX12_grows_20 rfl zhd)))
  (CS.seq 25 (CS.decI_n (CX.pure (CE.iconst kI_0 dX12_grows_23 zhd)) rfl (by decide) dX12_grows_24 zhd)
  (CS.seq 27 (CS.decI_n (CX.pure (CE.iconst kI_1 dX12_grows_25 zhd)) rfl (by decide) dX12_grows_26 zhd)
  (CS.seq 34 (CS.st (CE.getR (CE.aload_n rfl dX12_grows_27 zhd) fs_X12_133 dX12_grows_28 zhd) (CX.pure (CE.iconst kI_0 dX12_grows_31 zhd)) (CX.pure (CE.iload_n rfl dX12_grows_32 zhd)) (Or.inl ⟨rfl, dX12_grows_33⟩) zhd)
  (CS.seq 152 (CS.whl (T := 39) (F := 152) (p1 := 149) (CD.pure (CC.icmp_lt_F (T := 39) (F := 152) (CE.iload_n rfl dX12_grows_34 zhd) (CE.iload_n rfl dX12_grows_35 zhd) dX12_grows_36 rfl rfl))
  (CS.scope (CS.seq 47 (CS.decI (CX.pure (CE.aldI (CE.getR (CE.aload_n rfl dX12_grows_39 zhd) fs_X12_133 dX12_grows_40 zhd) (CE.iload_n rfl dX12_grows_43 zhd) (Or.inl ⟨rfl, dX12_grows_44⟩) zhd)) (by decide) dX12_grows_45 zhd)
  (CS.seq 50 (CS.inc kI_1 (by decide) dX12_grows_47 zhd)
  (CS.scope (CS.seq 53 (CS.decI (CX.pure (CE.iconst kI_0 dX12_grows_50 zhd)) (by decide) dX12_grows_51 zhd)
  (CS.whl (T := 62) (F := 149) (p1 := 146) (CD.pure (CC.icmp_lt_F (T := 62) (F := 149) (CE.iload dX12_grows_53 zhd) (CE.getI (CE.aload_n rfl dX12_grows_55 zhd) fs_X12_146 dX12_grows_56 zhd) dX12_grows_59 rfl rfl))
  (CS.seq 143 (CS.if1 (T := 99) (F := 143) (CD.pure (CC.and (CC.and (CC.if_ne_F (T := 78) (F := 143) (CE.aldI (CE.getR (CE.aload_n rfl dX12_grows_62 zhd) fs_X12_120 dX12_grows_63 zhd) (CE.iadd (CE.imul (CE.bipush kB_24 dX12_grows_66 zhd) (CE.iload dX12_grows_68 zhd) dX12_grows_70 zhd) (CE.iload dX12_grows_71 zhd) dX12_grows_73 zhd) (Or.inr ⟨Or.inr rfl, dX12_grows_74⟩) zhd) dX12_grows_75 rfl rfl) (CC.not (CC.if_ne_T (T := 143) (F := 88) (CE.aldI (CE.getR (CE.aload_n rfl dX12_grows_78 zhd) fs_X12_127 dX12_grows_79 zhd) (CE.iload dX12_grows_82 zhd) (Or.inr ⟨Or.inr rfl, dX12_grows_84⟩) zhd) dX12_grows_85 rfl rfl))) (CC.icmp_eq_F (T := 99) (F := 143) (CE.aldI (CE.getR (CE.aload_n rfl dX12_grows_88 zhd) fs_X12_130 dX12_grows_89 zhd) (CE.iload dX12_grows_92 zhd) (Or.inl ⟨rfl, dX12_grows_94⟩) zhd) (CE.iconst kI_m1 dX12_grows_95 zhd) dX12_grows_96 rfl rfl))) (CS.seq 108 (CS.st (CE.getR (CE.aload_n rfl dX12_grows_99 zhd) fs_X12_130 dX12_grows_100 zhd) (CX.pure (CE.iload dX12_grows_103 zhd)) (CX.pure (CE.iload dX12_grows_105 zhd)) (Or.inl ⟨rfl, dX12_grows_107⟩) zhd)
  (CS.seq 127 (CS.if1 (T := 119) (F := 127) (CD.pure (CC.icmp_eq_F (T := 119) (F := 127) (CE.aldI (CE.getR (CE.aload_n rfl dX12_grows_108 zhd) fs_X12_124 dX12_grows_109 zhd) (CE.iload dX12_grows_112 zhd) (Or.inl ⟨rfl, dX12_grows_114⟩) zhd) (CE.iconst kI_m1 dX12_grows_115 zhd) dX12_grows_116 rfl rfl)) (CS.seq 125 (CS.callV (CA.ref (CE.aload_n rfl dX12_grows_119 zhd) (CA.int (CE.iload dX12_grows_120 zhd) CA.nil)) zi_170 cv_X12_228 (fun _ => rfl) dX12_grows_122 zhd)
  (CS.retZ (CX.pure (CE.iconst kI_1 dX12_grows_125 zhd)) dX12_grows_126)) zhd)
  (CS.seq 140 (CS.st (CE.getR (CE.aload_n rfl dX12_grows_127 zhd) fs_X12_133 dX12_grows_128 zhd) (CX.pure (CE.iload_n rfl dX12_grows_131 zhd)) (CX.pure (CE.aldI (CE.getR (CE.aload_n rfl dX12_grows_132 zhd) fs_X12_124 dX12_grows_133 zhd) (CE.iload dX12_grows_136 zhd) (Or.inl ⟨rfl, dX12_grows_138⟩) zhd)) (Or.inl ⟨rfl, dX12_grows_139⟩) zhd)
  (CS.inc kI_1 (by decide) dX12_grows_140 zhd)))) zhd)
  (CS.inc kI_1 (by decide) dX12_grows_143 zhd)) dX12_grows_146 rfl zhd)))))) dX12_grows_149 rfl zhd)
  (CS.retZ (CX.pure (CE.iconst kI_0 dX12_grows_152 zhd)) dX12_grows_153))))))
theorem dX12_turn_0 : decode cX12_turn 0 = .ok (.iload_n 1, 1) := by decide +kernel
theorem dX12_turn_1 : decode cX12_turn 1 = .ok (.istore_n 2, 1) := by decide +kernel
theorem dX12_turn_2 : decode cX12_turn 2 = .ok (.iload_n 2, 1) := by decide +kernel
theorem dX12_turn_3 : decode cX12_turn 3 = .ok (.iconst (-1), 1) := by decide +kernel
theorem dX12_turn_4 : decode cX12_turn 4 = .ok (.if_icmp .eq 38, 3) := by decide +kernel
theorem dX12_turn_7 : decode cX12_turn 7 = .ok (.aload_n 0, 1) := by decide +kernel
theorem dX12_turn_8 : decode cX12_turn 8 = .ok (.getfield 130, 3) := by decide +kernel
theorem dX12_turn_11 : decode cX12_turn 11 = .ok (.iload_n 2, 1) := by decide +kernel
theorem dX12_turn_12 : decode cX12_turn 12 = .ok (.iaload, 1) := by decide +kernel
theorem dX12_turn_13 : decode cX12_turn 13 = .ok (.istore_n 3, 1) := by decide +kernel
theorem dX12_turn_14 : decode cX12_turn 14 = .ok (.aload_n 0, 1) := by decide +kernel
theorem dX12_turn_15 : decode cX12_turn 15 = .ok (.getfield 124, 3) := by decide +kernel
theorem dX12_turn_18 : decode cX12_turn 18 = .ok (.iload_n 3, 1) := by decide +kernel
theorem dX12_turn_19 : decode cX12_turn 19 = .ok (.iaload, 1) := by decide +kernel
theorem dX12_turn_20 : decode cX12_turn 20 = .ok (.istore 4, 2) := by decide +kernel
theorem dX12_turn_22 : decode cX12_turn 22 = .ok (.aload_n 0, 1) := by decide +kernel
theorem dX12_turn_23 : decode cX12_turn 23 = .ok (.getfield 124, 3) := by decide +kernel
theorem dX12_turn_26 : decode cX12_turn 26 = .ok (.iload_n 3, 1) := by decide +kernel
theorem dX12_turn_27 : decode cX12_turn 27 = .ok (.iload_n 2, 1) := by decide +kernel
theorem dX12_turn_28 : decode cX12_turn 28 = .ok (.iastore, 1) := by decide +kernel
theorem dX12_turn_29 : decode cX12_turn 29 = .ok (.aload_n 0, 1) := by decide +kernel
theorem dX12_turn_30 : decode cX12_turn 30 = .ok (.getfield 124, 3) := by decide +kernel
theorem dX12_turn_33 : decode cX12_turn 33 = .ok (.iload_n 2, 1) := by decide +kernel
theorem dX12_turn_34 : decode cX12_turn 34 = .ok (.iload_n 3, 1) := by decide +kernel
theorem dX12_turn_35 : decode cX12_turn 35 = .ok (.iastore, 1) := by decide +kernel
theorem dX12_turn_36 : decode cX12_turn 36 = .ok (.iload 4, 2) := by decide +kernel
theorem dX12_turn_38 : decode cX12_turn 38 = .ok (.istore_n 2, 1) := by decide +kernel
theorem dX12_turn_39 : decode cX12_turn 39 = .ok (.goto (-37), 3) := by decide +kernel
theorem dX12_turn_42 : decode cX12_turn 42 = .ok (.return_, 1) := by decide +kernel
theorem cd_170 (G : ZG) (d : Nat) (K : ZKt) (F : ZFt) (hT : zt5 G.2.2.2) : CS G RX12 cX12_turn 5 d K (none) [] (fun _ => []) 0 (bd_170 G.2.2.2 K F) := by
  unfold bd_170
  exact (CS.seq 42 (CS.seq 2 (CS.decI_n (CX.pure (CE.iload_n rfl dX12_turn_0 zhd)) rfl (by decide) dX12_turn_1 zhd)
  (CS.whl (T := 7) (F := 42) (p1 := 39) (CD.pure (CC.icmp_ne_F (T := 7) (F := 42) (CE.iload_n rfl dX12_turn_2 zhd) (CE.iconst kI_m1 dX12_turn_3 zhd) dX12_turn_4 rfl rfl))
  (CS.scope (CS.seq 14 (CS.decI_n (CX.pure (CE.aldI (CE.getR (CE.aload_n rfl dX12_turn_7 zhd) fs_X12_130 dX12_turn_8 zhd) (CE.iload_n rfl dX12_turn_11 zhd) (Or.inl ⟨rfl, dX12_turn_12⟩) zhd)) rfl (by decide) dX12_turn_13 zhd)
  (CS.seq 22 (CS.decI (CX.pure (CE.aldI (CE.getR (CE.aload_n rfl dX12_turn_14 zhd) fs_X12_124 dX12_turn_15 zhd) (CE.iload_n rfl dX12_turn_18 zhd) (Or.inl ⟨rfl, dX12_turn_19⟩) zhd)) (by decide) dX12_turn_20 zhd)
  (CS.seq 29 (CS.st (CE.getR (CE.aload_n rfl dX12_turn_22 zhd) fs_X12_124 dX12_turn_23 zhd) (CX.pure (CE.iload_n rfl dX12_turn_26 zhd)) (CX.pure (CE.iload_n rfl dX12_turn_27 zhd)) (Or.inl ⟨rfl, dX12_turn_28⟩) zhd)
  (CS.seq 36 (CS.st (CE.getR (CE.aload_n rfl dX12_turn_29 zhd) fs_X12_124 dX12_turn_30 zhd) (CX.pure (CE.iload_n rfl dX12_turn_33 zhd)) (CX.pure (CE.iload_n rfl dX12_turn_34 zhd)) (Or.inl ⟨rfl, dX12_turn_35⟩) zhd)
  (CS.setI_n (CX.pure (CE.iload dX12_turn_36 zhd)) rfl (by decide) dX12_turn_38 zhd)))))) dX12_turn_39 rfl zhd))
  (CS.retV dX12_turn_42))
theorem dX12_mostPairs_0 : decode cX12_mostPairs 0 = .ok (.iconst 0, 1) := by decide +kernel
theorem dX12_mostPairs_1 : decode cX12_mostPairs 1 = .ok (.istore_n 2, 1) := by decide +kernel
theorem dX12_mostPairs_2 : decode cX12_mostPairs 2 = .ok (.iload_n 2, 1) := by decide +kernel
theorem dX12_mostPairs_3 : decode cX12_mostPairs 3 = .ok (.aload_n 0, 1) := by decide +kernel
theorem dX12_mostPairs_4 : decode cX12_mostPairs 4 = .ok (.getfield 146, 3) := by decide +kernel
theorem dX12_mostPairs_7 : decode cX12_mostPairs 7 = .ok (.if_icmp .ge 16, 3) := by decide +kernel
theorem dX12_mostPairs_10 : decode cX12_mostPairs 10 = .ok (.aload_n 0, 1) := by decide +kernel
theorem dX12_mostPairs_11 : decode cX12_mostPairs 11 = .ok (.getfield 124, 3) := by decide +kernel
theorem dX12_mostPairs_14 : decode cX12_mostPairs 14 = .ok (.iload_n 2, 1) := by decide +kernel
theorem dX12_mostPairs_15 : decode cX12_mostPairs 15 = .ok (.iconst (-1), 1) := by decide +kernel
theorem dX12_mostPairs_16 : decode cX12_mostPairs 16 = .ok (.iastore, 1) := by decide +kernel
theorem dX12_mostPairs_17 : decode cX12_mostPairs 17 = .ok (.iinc 2 1, 3) := by decide +kernel
theorem dX12_mostPairs_20 : decode cX12_mostPairs 20 = .ok (.goto (-18), 3) := by decide +kernel
theorem dX12_mostPairs_23 : decode cX12_mostPairs 23 = .ok (.iconst 0, 1) := by decide +kernel
theorem dX12_mostPairs_24 : decode cX12_mostPairs 24 = .ok (.istore_n 2, 1) := by decide +kernel
theorem dX12_mostPairs_25 : decode cX12_mostPairs 25 = .ok (.iconst 0, 1) := by decide +kernel
theorem dX12_mostPairs_26 : decode cX12_mostPairs 26 = .ok (.istore_n 3, 1) := by decide +kernel
theorem dX12_mostPairs_27 : decode cX12_mostPairs 27 = .ok (.iload_n 3, 1) := by decide +kernel
theorem dX12_mostPairs_28 : decode cX12_mostPairs 28 = .ok (.aload_n 0, 1) := by decide +kernel
theorem dX12_mostPairs_29 : decode cX12_mostPairs 29 = .ok (.getfield 146, 3) := by decide +kernel
theorem dX12_mostPairs_32 : decode cX12_mostPairs 32 = .ok (.if_icmp .ge 44, 3) := by decide +kernel
theorem dX12_mostPairs_35 : decode cX12_mostPairs 35 = .ok (.iload_n 2, 1) := by decide +kernel
theorem dX12_mostPairs_36 : decode cX12_mostPairs 36 = .ok (.aload_n 0, 1) := by decide +kernel
theorem dX12_mostPairs_37 : decode cX12_mostPairs 37 = .ok (.getfield 47, 3) := by decide +kernel
theorem dX12_mostPairs_40 : decode cX12_mostPairs 40 = .ok (.iload_n 3, 1) := by decide +kernel
theorem dX12_mostPairs_41 : decode cX12_mostPairs 41 = .ok (.iaload, 1) := by decide +kernel
theorem dX12_mostPairs_42 : decode cX12_mostPairs 42 = .ok (.iload_n 1, 1) := by decide +kernel
theorem dX12_mostPairs_43 : decode cX12_mostPairs 43 = .ok (.if_icmp .ne 24, 3) := by decide +kernel
theorem dX12_mostPairs_46 : decode cX12_mostPairs 46 = .ok (.aload_n 0, 1) := by decide +kernel
theorem dX12_mostPairs_47 : decode cX12_mostPairs 47 = .ok (.getfield 127, 3) := by decide +kernel
theorem dX12_mostPairs_50 : decode cX12_mostPairs 50 = .ok (.iload_n 3, 1) := by decide +kernel
theorem dX12_mostPairs_51 : decode cX12_mostPairs 51 = .ok (.baload, 1) := by decide +kernel
theorem dX12_mostPairs_52 : decode cX12_mostPairs 52 = .ok (.ifCond .ne 15, 3) := by decide +kernel
theorem dX12_mostPairs_55 : decode cX12_mostPairs 55 = .ok (.aload_n 0, 1) := by decide +kernel
theorem dX12_mostPairs_56 : decode cX12_mostPairs 56 = .ok (.iload_n 3, 1) := by decide +kernel
theorem dX12_mostPairs_57 : decode cX12_mostPairs 57 = .ok (.invokevirtual 232, 3) := by decide +kernel
theorem dX12_mostPairs_60 : decode cX12_mostPairs 60 = .ok (.ifCond .eq 7, 3) := by decide +kernel
theorem dX12_mostPairs_63 : decode cX12_mostPairs 63 = .ok (.iconst 1, 1) := by decide +kernel
theorem dX12_mostPairs_64 : decode cX12_mostPairs 64 = .ok (.goto 4, 3) := by decide +kernel
theorem dX12_mostPairs_67 : decode cX12_mostPairs 67 = .ok (.iconst 0, 1) := by decide +kernel
theorem dX12_mostPairs_68 : decode cX12_mostPairs 68 = .ok (.iadd, 1) := by decide +kernel
theorem dX12_mostPairs_69 : decode cX12_mostPairs 69 = .ok (.istore_n 2, 1) := by decide +kernel
theorem dX12_mostPairs_70 : decode cX12_mostPairs 70 = .ok (.iinc 3 1, 3) := by decide +kernel
theorem dX12_mostPairs_73 : decode cX12_mostPairs 73 = .ok (.goto (-46), 3) := by decide +kernel
theorem dX12_mostPairs_76 : decode cX12_mostPairs 76 = .ok (.iload_n 2, 1) := by decide +kernel
theorem dX12_mostPairs_77 : decode cX12_mostPairs 77 = .ok (.ireturn, 1) := by decide +kernel
theorem cd_171 (G : ZG) (d : Nat) (K : ZKt) (F : ZFt) (hT : zt5 G.2.2.2) : CS G RX12 cX12_mostPairs 4 d K (some .int) [] (fun _ => []) 0 (bd_171 G.2.2.2 K F) := by
  unfold bd_171
  exact (CS.seq 23 (CS.scope (CS.seq 2 (CS.decI_n (CX.pure (CE.iconst kI_0 dX12_mostPairs_0 zhd)) rfl (by decide) dX12_mostPairs_1 zhd)
  (CS.whl (T := 10) (F := 23) (p1 := 20) (CD.pure (CC.icmp_lt_F (T := 10) (F := 23) (CE.iload_n rfl dX12_mostPairs_2 zhd) (CE.getI (CE.aload_n rfl dX12_mostPairs_3 zhd) fs_X12_146 dX12_mostPairs_4 zhd) dX12_mostPairs_7 rfl rfl))
  (CS.seq 17 (CS.st (CE.getR (CE.aload_n rfl dX12_mostPairs_10 zhd) fs_X12_124 dX12_mostPairs_11 zhd) (CX.pure (CE.iload_n rfl dX12_mostPairs_14 zhd)) (CX.pure (CE.iconst kI_m1 dX12_mostPairs_15 zhd)) (Or.inl ⟨rfl, dX12_mostPairs_16⟩) zhd)
  (CS.inc kI_1 (by decide) dX12_mostPairs_17 zhd)) dX12_mostPairs_20 rfl zhd)))
  (CS.seq 25 (CS.decI_n (CX.pure (CE.iconst kI_0 dX12_mostPairs_23 zhd)) rfl (by decide) dX12_mostPairs_24 zhd)
  (CS.seq 76 (CS.scope (CS.seq 27 (CS.decI_n (CX.pure (CE.iconst kI_0 dX12_mostPairs_25 zhd)) rfl (by decide) dX12_mostPairs_26 zhd)
  (CS.whl (T := 35) (F := 76) (p1 := 73) (CD.pure (CC.icmp_lt_F (T := 35) (F := 76) (CE.iload_n rfl dX12_mostPairs_27 zhd) (CE.getI (CE.aload_n rfl dX12_mostPairs_28 zhd) fs_X12_146 dX12_mostPairs_29 zhd) dX12_mostPairs_32 rfl rfl))
  (CS.seq 70 (CS.setI_n (CX.iadd (CE.iload_n rfl dX12_mostPairs_35 zhd) (CX.tern (T := 63) (F := 67) (p1 := 64) (q := 68) (CD.and (CD.pure (CC.and (CC.icmp_eq_F (T := 46) (F := 67) (CE.aldI (CE.getR (CE.aload_n rfl dX12_mostPairs_36 zhd) fs_X12_47 dX12_mostPairs_37 zhd) (CE.iload_n rfl dX12_mostPairs_40 zhd) (Or.inl ⟨rfl, dX12_mostPairs_41⟩) zhd) (CE.iload_n rfl dX12_mostPairs_42 zhd) dX12_mostPairs_43 rfl rfl) (CC.not (CC.if_ne_T (T := 67) (F := 55) (CE.aldI (CE.getR (CE.aload_n rfl dX12_mostPairs_46 zhd) fs_X12_127 dX12_mostPairs_47 zhd) (CE.iload_n rfl dX12_mostPairs_50 zhd) (Or.inr ⟨Or.inr rfl, dX12_mostPairs_51⟩) zhd) dX12_mostPairs_52 rfl rfl)))) (CD.nz_F (T := 63) (F := 67) (CX.callV (by decide) (CA.ref (CE.aload_n rfl dX12_mostPairs_55 zhd) (CA.int (CE.iload_n rfl dX12_mostPairs_56 zhd) CA.nil)) zi_169 cv_X12_232 (fun _ => rfl) dX12_mostPairs_57 zhd) dX12_mostPairs_60 rfl rfl)) (CX.pure (CE.iconst kI_1 dX12_mostPairs_63 zhd)) zex2 dX12_mostPairs_64 rfl zhd (CX.pure (CE.iconst kI_0 dX12_mostPairs_67 zhd))) dX12_mostPairs_68 zhd) rfl (by decide) dX12_mostPairs_69 zhd)
  (CS.inc kI_1 (by decide) dX12_mostPairs_70 zhd)) dX12_mostPairs_73 rfl zhd)))
  (CS.retI (CX.pure (CE.iload_n rfl dX12_mostPairs_76 zhd)) dX12_mostPairs_77))))
theorem dX12_layPairs_0 : decode cX12_layPairs 0 = .ok (.iconst 0, 1) := by decide +kernel
theorem dX12_layPairs_1 : decode cX12_layPairs 1 = .ok (.istore_n 2, 1) := by decide +kernel
theorem dX12_layPairs_2 : decode cX12_layPairs 2 = .ok (.iload_n 2, 1) := by decide +kernel
theorem dX12_layPairs_3 : decode cX12_layPairs 3 = .ok (.aload_n 0, 1) := by decide +kernel
theorem dX12_layPairs_4 : decode cX12_layPairs 4 = .ok (.getfield 146, 3) := by decide +kernel
theorem dX12_layPairs_7 : decode cX12_layPairs 7 = .ok (.if_icmp .ge 23, 3) := by decide +kernel
theorem dX12_layPairs_10 : decode cX12_layPairs 10 = .ok (.aload_n 0, 1) := by decide +kernel
theorem dX12_layPairs_11 : decode cX12_layPairs 11 = .ok (.getfield 127, 3) := by decide +kernel
theorem dX12_layPairs_14 : decode cX12_layPairs 14 = .ok (.iload_n 2, 1) := by decide +kernel
theorem dX12_layPairs_15 : decode cX12_layPairs 15 = .ok (.iconst 0, 1) := by decide +kernel
theorem dX12_layPairs_16 : decode cX12_layPairs 16 = .ok (.bastore, 1) := by decide +kernel
theorem dX12_layPairs_17 : decode cX12_layPairs 17 = .ok (.aload_n 0, 1) := by decide +kernel
theorem dX12_layPairs_18 : decode cX12_layPairs 18 = .ok (.getfield 136, 3) := by decide +kernel
theorem dX12_layPairs_21 : decode cX12_layPairs 21 = .ok (.iload_n 2, 1) := by decide +kernel
theorem dX12_layPairs_22 : decode cX12_layPairs 22 = .ok (.iconst (-1), 1) := by decide +kernel
theorem dX12_layPairs_23 : decode cX12_layPairs 23 = .ok (.iastore, 1) := by decide +kernel
theorem dX12_layPairs_24 : decode cX12_layPairs 24 = .ok (.iinc 2 1, 3) := by decide +kernel
theorem dX12_layPairs_27 : decode cX12_layPairs 27 = .ok (.goto (-25), 3) := by decide +kernel
theorem dX12_layPairs_30 : decode cX12_layPairs 30 = .ok (.aload_n 0, 1) := by decide +kernel
theorem dX12_layPairs_31 : decode cX12_layPairs 31 = .ok (.iload_n 1, 1) := by decide +kernel
theorem dX12_layPairs_32 : decode cX12_layPairs 32 = .ok (.invokevirtual 235, 3) := by decide +kernel
theorem dX12_layPairs_35 : decode cX12_layPairs 35 = .ok (.istore_n 2, 1) := by decide +kernel
theorem dX12_layPairs_36 : decode cX12_layPairs 36 = .ok (.iload_n 2, 1) := by decide +kernel
theorem dX12_layPairs_37 : decode cX12_layPairs 37 = .ok (.istore_n 3, 1) := by decide +kernel
theorem dX12_layPairs_38 : decode cX12_layPairs 38 = .ok (.iconst 0, 1) := by decide +kernel
theorem dX12_layPairs_39 : decode cX12_layPairs 39 = .ok (.istore 4, 2) := by decide +kernel
theorem dX12_layPairs_41 : decode cX12_layPairs 41 = .ok (.iload 4, 2) := by decide +kernel
theorem dX12_layPairs_43 : decode cX12_layPairs 43 = .ok (.aload_n 0, 1) := by decide +kernel
theorem dX12_layPairs_44 : decode cX12_layPairs 44 = .ok (.getfield 146, 3) := by decide +kernel
theorem dX12_layPairs_47 : decode cX12_layPairs 47 = .ok (.if_icmp .ge 125, 3) := by decide +kernel
theorem dX12_layPairs_50 : decode cX12_layPairs 50 = .ok (.aload_n 0, 1) := by decide +kernel
theorem dX12_layPairs_51 : decode cX12_layPairs 51 = .ok (.getfield 47, 3) := by decide +kernel
theorem dX12_layPairs_54 : decode cX12_layPairs 54 = .ok (.iload 4, 2) := by decide +kernel
theorem dX12_layPairs_56 : decode cX12_layPairs 56 = .ok (.iaload, 1) := by decide +kernel
theorem dX12_layPairs_57 : decode cX12_layPairs 57 = .ok (.iload_n 1, 1) := by decide +kernel
theorem dX12_layPairs_58 : decode cX12_layPairs 58 = .ok (.if_icmp .ne 108, 3) := by decide +kernel
theorem dX12_layPairs_61 : decode cX12_layPairs 61 = .ok (.aload_n 0, 1) := by decide +kernel
theorem dX12_layPairs_62 : decode cX12_layPairs 62 = .ok (.getfield 127, 3) := by decide +kernel
theorem dX12_layPairs_65 : decode cX12_layPairs 65 = .ok (.iload 4, 2) := by decide +kernel
theorem dX12_layPairs_67 : decode cX12_layPairs 67 = .ok (.iconst 1, 1) := by decide +kernel
theorem dX12_layPairs_68 : decode cX12_layPairs 68 = .ok (.bastore, 1) := by decide +kernel
theorem dX12_layPairs_69 : decode cX12_layPairs 69 = .ok (.iconst 0, 1) := by decide +kernel
theorem dX12_layPairs_70 : decode cX12_layPairs 70 = .ok (.istore 5, 2) := by decide +kernel
theorem dX12_layPairs_72 : decode cX12_layPairs 72 = .ok (.iconst 1, 1) := by decide +kernel
theorem dX12_layPairs_73 : decode cX12_layPairs 73 = .ok (.istore 6, 2) := by decide +kernel
theorem dX12_layPairs_75 : decode cX12_layPairs 75 = .ok (.iload 5, 2) := by decide +kernel
theorem dX12_layPairs_77 : decode cX12_layPairs 77 = .ok (.aload_n 0, 1) := by decide +kernel
theorem dX12_layPairs_78 : decode cX12_layPairs 78 = .ok (.getfield 146, 3) := by decide +kernel
theorem dX12_layPairs_81 : decode cX12_layPairs 81 = .ok (.if_icmp .ge 85, 3) := by decide +kernel
theorem dX12_layPairs_84 : decode cX12_layPairs 84 = .ok (.iload 6, 2) := by decide +kernel
theorem dX12_layPairs_86 : decode cX12_layPairs 86 = .ok (.ifCond .eq 80, 3) := by decide +kernel
theorem dX12_layPairs_89 : decode cX12_layPairs 89 = .ok (.aload_n 0, 1) := by decide +kernel
theorem dX12_layPairs_90 : decode cX12_layPairs 90 = .ok (.getfield 120, 3) := by decide +kernel
theorem dX12_layPairs_93 : decode cX12_layPairs 93 = .ok (.bipush 24, 2) := by decide +kernel
theorem dX12_layPairs_95 : decode cX12_layPairs 95 = .ok (.iload 4, 2) := by decide +kernel
theorem dX12_layPairs_97 : decode cX12_layPairs 97 = .ok (.imul, 1) := by decide +kernel
theorem dX12_layPairs_98 : decode cX12_layPairs 98 = .ok (.iload 5, 2) := by decide +kernel
theorem dX12_layPairs_100 : decode cX12_layPairs 100 = .ok (.iadd, 1) := by decide +kernel
theorem dX12_layPairs_101 : decode cX12_layPairs 101 = .ok (.baload, 1) := by decide +kernel
theorem dX12_layPairs_102 : decode cX12_layPairs 102 = .ok (.ifCond .eq 58, 3) := by decide +kernel
theorem dX12_layPairs_105 : decode cX12_layPairs 105 = .ok (.aload_n 0, 1) := by decide +kernel
theorem dX12_layPairs_106 : decode cX12_layPairs 106 = .ok (.getfield 127, 3) := by decide +kernel
theorem dX12_layPairs_109 : decode cX12_layPairs 109 = .ok (.iload 5, 2) := by decide +kernel
theorem dX12_layPairs_111 : decode cX12_layPairs 111 = .ok (.baload, 1) := by decide +kernel
theorem dX12_layPairs_112 : decode cX12_layPairs 112 = .ok (.ifCond .ne 48, 3) := by decide +kernel
theorem dX12_layPairs_115 : decode cX12_layPairs 115 = .ok (.aload_n 0, 1) := by decide +kernel
theorem dX12_layPairs_116 : decode cX12_layPairs 116 = .ok (.getfield 127, 3) := by decide +kernel
theorem dX12_layPairs_119 : decode cX12_layPairs 119 = .ok (.iload 5, 2) := by decide +kernel
theorem dX12_layPairs_121 : decode cX12_layPairs 121 = .ok (.iconst 1, 1) := by decide +kernel
theorem dX12_layPairs_122 : decode cX12_layPairs 122 = .ok (.bastore, 1) := by decide +kernel
theorem dX12_layPairs_123 : decode cX12_layPairs 123 = .ok (.aload_n 0, 1) := by decide +kernel
theorem dX12_layPairs_124 : decode cX12_layPairs 124 = .ok (.iload_n 1, 1) := by decide +kernel
theorem dX12_layPairs_125 : decode cX12_layPairs 125 = .ok (.invokevirtual 235, 3) := by decide +kernel
theorem dX12_layPairs_128 : decode cX12_layPairs 128 = .ok (.iload_n 3, 1) := by decide +kernel
theorem dX12_layPairs_129 : decode cX12_layPairs 129 = .ok (.iconst 1, 1) := by decide +kernel
theorem dX12_layPairs_130 : decode cX12_layPairs 130 = .ok (.isub, 1) := by decide +kernel
theorem dX12_layPairs_131 : decode cX12_layPairs 131 = .ok (.if_icmp .ne 21, 3) := by decide +kernel
theorem dX12_layPairs_134 : decode cX12_layPairs 134 = .ok (.aload_n 0, 1) := by decide +kernel
theorem dX12_layPairs_135 : decode cX12_layPairs 135 = .ok (.getfield 136, 3) := by decide +kernel
theorem dX12_layPairs_138 : decode cX12_layPairs 138 = .ok (.iload 4, 2) := by decide +kernel
theorem dX12_layPairs_140 : decode cX12_layPairs 140 = .ok (.iload 5, 2) := by decide +kernel
theorem dX12_layPairs_142 : decode cX12_layPairs 142 = .ok (.iastore, 1) := by decide +kernel
theorem dX12_layPairs_143 : decode cX12_layPairs 143 = .ok (.iinc 3 (-1), 3) := by decide +kernel
theorem dX12_layPairs_146 : decode cX12_layPairs 146 = .ok (.iconst 0, 1) := by decide +kernel
theorem dX12_layPairs_147 : decode cX12_layPairs 147 = .ok (.istore 6, 2) := by decide +kernel
theorem dX12_layPairs_149 : decode cX12_layPairs 149 = .ok (.goto 11, 3) := by decide +kernel
theorem dX12_layPairs_152 : decode cX12_layPairs 152 = .ok (.aload_n 0, 1) := by decide +kernel
theorem dX12_layPairs_153 : decode cX12_layPairs 153 = .ok (.getfield 127, 3) := by decide +kernel
theorem dX12_layPairs_156 : decode cX12_layPairs 156 = .ok (.iload 5, 2) := by decide +kernel
theorem dX12_layPairs_158 : decode cX12_layPairs 158 = .ok (.iconst 0, 1) := by decide +kernel
theorem dX12_layPairs_159 : decode cX12_layPairs 159 = .ok (.bastore, 1) := by decide +kernel
theorem dX12_layPairs_160 : decode cX12_layPairs 160 = .ok (.iinc 5 1, 3) := by decide +kernel
theorem dX12_layPairs_163 : decode cX12_layPairs 163 = .ok (.goto (-88), 3) := by decide +kernel
theorem dX12_layPairs_166 : decode cX12_layPairs 166 = .ok (.iinc 4 1, 3) := by decide +kernel
theorem dX12_layPairs_169 : decode cX12_layPairs 169 = .ok (.goto (-128), 3) := by decide +kernel
theorem dX12_layPairs_172 : decode cX12_layPairs 172 = .ok (.iload_n 2, 1) := by decide +kernel
theorem dX12_layPairs_173 : decode cX12_layPairs 173 = .ok (.ireturn, 1) := by decide +kernel
theorem cd_172 (G : ZG) (d : Nat) (K : ZKt) (F : ZFt) (hT : zt5 G.2.2.2) : CS G RX12 cX12_layPairs 7 d K (some .int) [] (fun _ => []) 0 (bd_172 G.2.2.2 K F) := by
  unfold bd_172
  exact (CS.seq 30 (CS.scope (CS.seq 2 (CS.decI_n (CX.pure (CE.iconst kI_0 dX12_layPairs_0 zhd)) rfl (by decide) dX12_layPairs_1 zhd)
  (CS.whl (T := 10) (F := 30) (p1 := 27) (CD.pure (CC.icmp_lt_F (T := 10) (F := 30) (CE.iload_n rfl dX12_layPairs_2 zhd) (CE.getI (CE.aload_n rfl dX12_layPairs_3 zhd) fs_X12_146 dX12_layPairs_4 zhd) dX12_layPairs_7 rfl rfl))
  (CS.seq 24 (CS.seq 17 (CS.st (CE.getR (CE.aload_n rfl dX12_layPairs_10 zhd) fs_X12_127 dX12_layPairs_11 zhd) (CX.pure (CE.iload_n rfl dX12_layPairs_14 zhd)) (CX.pure (CE.iconst kI_0 dX12_layPairs_15 zhd)) (Or.inr ⟨Or.inr rfl, dX12_layPairs_16⟩) zhd)
  (CS.st (CE.getR (CE.aload_n rfl dX12_layPairs_17 zhd) fs_X12_136 dX12_layPairs_18 zhd) (CX.pure (CE.iload_n rfl dX12_layPairs_21 zhd)) (CX.pure (CE.iconst kI_m1 dX12_layPairs_22 zhd)) (Or.inl ⟨rfl, dX12_layPairs_23⟩) zhd))
  (CS.inc kI_1 (by decide) dX12_layPairs_24 zhd)) dX12_layPairs_27 rfl zhd)))
  (CS.seq 36 (CS.decI_n (CX.callV (by decide) (CA.ref (CE.aload_n rfl dX12_layPairs_30 zhd) (CA.int (CE.iload_n rfl dX12_layPairs_31 zhd) CA.nil)) zi_171 cv_X12_235 (fun _ => rfl) dX12_layPairs_32 zhd) rfl (by decide) dX12_layPairs_35 zhd)
  (CS.seq 38 (CS.decI_n (CX.pure (CE.iload_n rfl dX12_layPairs_36 zhd)) rfl (by decide) dX12_layPairs_37 zhd)
  (CS.seq 172 (CS.scope (CS.seq 41 (CS.decI (CX.pure (CE.iconst kI_0 dX12_layPairs_38 zhd)) (by decide) dX12_layPairs_39 zhd)
  (CS.whl (T := 50) (F := 172) (p1 := 169) (CD.pure (CC.icmp_lt_F (T := 50) (F := 172) (CE.iload dX12_layPairs_41 zhd) (CE.getI (CE.aload_n rfl dX12_layPairs_43 zhd) fs_X12_146 dX12_layPairs_44 zhd) dX12_layPairs_47 rfl rfl))
  (CS.seq 166 (CS.if1 (T := 61) (F := 166) (CD.pure (CC.icmp_eq_F (T := 61) (F := 166) (CE.aldI (CE.getR (CE.aload_n rfl dX12_layPairs_50 zhd) fs_X12_47 dX12_layPairs_51 zhd) (CE.iload dX12_layPairs_54 zhd) (Or.inl ⟨rfl, dX12_layPairs_56⟩) zhd) (CE.iload_n rfl dX12_layPairs_57 zhd) dX12_layPairs_58 rfl rfl)) (CS.scope (CS.seq 69 (CS.st (CE.getR (CE.aload_n rfl dX12_layPairs_61 zhd) fs_X12_127 dX12_layPairs_62 zhd) (CX.pure (CE.iload dX12_layPairs_65 zhd)) (CX.pure (CE.iconst kI_1 dX12_layPairs_67 zhd)) (Or.inr ⟨Or.inr rfl, dX12_layPairs_68⟩) zhd)
  (CS.seq 72 (CS.decI (CX.pure (CE.iconst kI_0 dX12_layPairs_69 zhd)) (by decide) dX12_layPairs_70 zhd)
  (CS.seq 75 (CS.decI (CX.pure (CE.iconst kI_1 dX12_layPairs_72 zhd)) (by decide) dX12_layPairs_73 zhd)
  (CS.whl (T := 89) (F := 166) (p1 := 163) (CD.pure (CC.and (CC.icmp_lt_F (T := 84) (F := 166) (CE.iload dX12_layPairs_75 zhd) (CE.getI (CE.aload_n rfl dX12_layPairs_77 zhd) fs_X12_146 dX12_layPairs_78 zhd) dX12_layPairs_81 rfl rfl) (CC.if_ne_F (T := 89) (F := 166) (CE.iload dX12_layPairs_84 zhd) dX12_layPairs_86 rfl rfl)))
  (CS.seq 160 (CS.if1 (T := 115) (F := 160) (CD.pure (CC.and (CC.if_ne_F (T := 105) (F := 160) (CE.aldI (CE.getR (CE.aload_n rfl dX12_layPairs_89 zhd) fs_X12_120 dX12_layPairs_90 zhd) (CE.iadd (CE.imul (CE.bipush kB_24 dX12_layPairs_93 zhd) (CE.iload dX12_layPairs_95 zhd) dX12_layPairs_97 zhd) (CE.iload dX12_layPairs_98 zhd) dX12_layPairs_100 zhd) (Or.inr ⟨Or.inr rfl, dX12_layPairs_101⟩) zhd) dX12_layPairs_102 rfl rfl) (CC.not (CC.if_ne_T (T := 160) (F := 115) (CE.aldI (CE.getR (CE.aload_n rfl dX12_layPairs_105 zhd) fs_X12_127 dX12_layPairs_106 zhd) (CE.iload dX12_layPairs_109 zhd) (Or.inr ⟨Or.inr rfl, dX12_layPairs_111⟩) zhd) dX12_layPairs_112 rfl rfl)))) (CS.seq 123 (CS.st (CE.getR (CE.aload_n rfl dX12_layPairs_115 zhd) fs_X12_127 dX12_layPairs_116 zhd) (CX.pure (CE.iload dX12_layPairs_119 zhd)) (CX.pure (CE.iconst kI_1 dX12_layPairs_121 zhd)) (Or.inr ⟨Or.inr rfl, dX12_layPairs_122⟩) zhd)
  (CS.if2 (T := 134) (F := 152) (p1 := 149) (q := 160) (CD.eq_F (T := 134) (F := 152) (CX.callV (by decide) (CA.ref (CE.aload_n rfl dX12_layPairs_123 zhd) (CA.int (CE.iload_n rfl dX12_layPairs_124 zhd) CA.nil)) zi_171 cv_X12_235 (fun _ => rfl) dX12_layPairs_125 zhd) (CE.isub (CE.iload_n rfl dX12_layPairs_128 zhd) (CE.iconst kI_1 dX12_layPairs_129 zhd) dX12_layPairs_130 zhd) dX12_layPairs_131 rfl rfl) (CS.seq 143 (CS.st (CE.getR (CE.aload_n rfl dX12_layPairs_134 zhd) fs_X12_136 dX12_layPairs_135 zhd) (CX.pure (CE.iload dX12_layPairs_138 zhd)) (CX.pure (CE.iload dX12_layPairs_140 zhd)) (Or.inl ⟨rfl, dX12_layPairs_142⟩) zhd)
  (CS.seq 146 (CS.inc kI_m1 (by decide) dX12_layPairs_143 zhd)
  (CS.setI (CX.pure (CE.iconst kI_0 dX12_layPairs_146 zhd)) (by decide) dX12_layPairs_147 zhd))) dX12_layPairs_149 rfl zhd
  (CS.st (CE.getR (CE.aload_n rfl dX12_layPairs_152 zhd) fs_X12_127 dX12_layPairs_153 zhd) (CX.pure (CE.iload dX12_layPairs_156 zhd)) (CX.pure (CE.iconst kI_0 dX12_layPairs_158 zhd)) (Or.inr ⟨Or.inr rfl, dX12_layPairs_159⟩) zhd))) zhd)
  (CS.inc kI_1 (by decide) dX12_layPairs_160 zhd)) dX12_layPairs_163 rfl zhd))))) zhd)
  (CS.inc kI_1 (by decide) dX12_layPairs_166 zhd)) dX12_layPairs_169 rfl zhd)))
  (CS.retI (CX.pure (CE.iload_n rfl dX12_layPairs_172 zhd)) dX12_layPairs_173)))))
theorem dX12_pairs_0 : decode cX12_pairs 0 = .ok (.iload_n 1, 1) := by decide +kernel
theorem dX12_pairs_1 : decode cX12_pairs 1 = .ok (.invokestatic 150, 3) := by decide +kernel
theorem dX12_pairs_4 : decode cX12_pairs 4 = .ok (.ifCond .eq 15, 3) := by decide +kernel
theorem dX12_pairs_7 : decode cX12_pairs 7 = .ok (.iload_n 2, 1) := by decide +kernel
theorem dX12_pairs_8 : decode cX12_pairs 8 = .ok (.invokestatic 150, 3) := by decide +kernel
theorem dX12_pairs_11 : decode cX12_pairs 11 = .ok (.ifCond .eq 8, 3) := by decide +kernel
theorem dX12_pairs_14 : decode cX12_pairs 14 = .ok (.iload_n 1, 1) := by decide +kernel
theorem dX12_pairs_15 : decode cX12_pairs 15 = .ok (.iload_n 2, 1) := by decide +kernel
theorem dX12_pairs_16 : decode cX12_pairs 16 = .ok (.if_icmp .ne 6, 3) := by decide +kernel
theorem dX12_pairs_19 : decode cX12_pairs 19 = .ok (.bipush (-101), 2) := by decide +kernel
theorem dX12_pairs_21 : decode cX12_pairs 21 = .ok (.ireturn, 1) := by decide +kernel
theorem dX12_pairs_22 : decode cX12_pairs 22 = .ok (.iload_n 3, 1) := by decide +kernel
theorem dX12_pairs_23 : decode cX12_pairs 23 = .ok (.sipush (-9999), 3) := by decide +kernel
theorem dX12_pairs_26 : decode cX12_pairs 26 = .ok (.sipush 9999, 3) := by decide +kernel
theorem dX12_pairs_29 : decode cX12_pairs 29 = .ok (.invokestatic 142, 3) := by decide +kernel
theorem dX12_pairs_32 : decode cX12_pairs 32 = .ok (.ifCond .eq 32, 3) := by decide +kernel
theorem dX12_pairs_35 : decode cX12_pairs 35 = .ok (.iload 4, 2) := by decide +kernel
theorem dX12_pairs_37 : decode cX12_pairs 37 = .ok (.iload_n 3, 1) := by decide +kernel
theorem dX12_pairs_38 : decode cX12_pairs 38 = .ok (.sipush 9999, 3) := by decide +kernel
theorem dX12_pairs_41 : decode cX12_pairs 41 = .ok (.invokestatic 142, 3) := by decide +kernel
theorem dX12_pairs_44 : decode cX12_pairs 44 = .ok (.ifCond .eq 20, 3) := by decide +kernel
theorem dX12_pairs_47 : decode cX12_pairs 47 = .ok (.iload 5, 2) := by decide +kernel
theorem dX12_pairs_49 : decode cX12_pairs 49 = .ok (.ifCond .eq 18, 3) := by decide +kernel
theorem dX12_pairs_52 : decode cX12_pairs 52 = .ok (.iload 5, 2) := by decide +kernel
theorem dX12_pairs_54 : decode cX12_pairs 54 = .ok (.bipush 10, 2) := by decide +kernel
theorem dX12_pairs_56 : decode cX12_pairs 56 = .ok (.bipush 33, 2) := by decide +kernel
theorem dX12_pairs_58 : decode cX12_pairs 58 = .ok (.invokestatic 142, 3) := by decide +kernel
theorem dX12_pairs_61 : decode cX12_pairs 61 = .ok (.ifCond .ne 6, 3) := by decide +kernel
theorem dX12_pairs_64 : decode cX12_pairs 64 = .ok (.bipush (-102), 2) := by decide +kernel
theorem dX12_pairs_66 : decode cX12_pairs 66 = .ok (.ireturn, 1) := by decide +kernel
theorem dX12_pairs_67 : decode cX12_pairs 67 = .ok (.aload_n 0, 1) := by decide +kernel
theorem dX12_pairs_68 : decode cX12_pairs 68 = .ok (.iload_n 1, 1) := by decide +kernel
theorem dX12_pairs_69 : decode cX12_pairs 69 = .ok (.iload_n 2, 1) := by decide +kernel
theorem dX12_pairs_70 : decode cX12_pairs 70 = .ok (.iload_n 3, 1) := by decide +kernel
theorem dX12_pairs_71 : decode cX12_pairs 71 = .ok (.iload 4, 2) := by decide +kernel
theorem dX12_pairs_73 : decode cX12_pairs 73 = .ok (.invokevirtual 238, 3) := by decide +kernel
theorem dX12_pairs_76 : decode cX12_pairs 76 = .ok (.aload_n 0, 1) := by decide +kernel
theorem dX12_pairs_77 : decode cX12_pairs 77 = .ok (.iload_n 1, 1) := by decide +kernel
theorem dX12_pairs_78 : decode cX12_pairs 78 = .ok (.invokevirtual 242, 3) := by decide +kernel
theorem dX12_pairs_81 : decode cX12_pairs 81 = .ok (.istore 6, 2) := by decide +kernel
theorem dX12_pairs_83 : decode cX12_pairs 83 = .ok (.iload 5, 2) := by decide +kernel
theorem dX12_pairs_85 : decode cX12_pairs 85 = .ok (.ifCond .ne 8, 3) := by decide +kernel
theorem dX12_pairs_88 : decode cX12_pairs 88 = .ok (.iload 6, 2) := by decide +kernel
theorem dX12_pairs_90 : decode cX12_pairs 90 = .ok (.goto 29, 3) := by decide +kernel
theorem dX12_pairs_93 : decode cX12_pairs 93 = .ok (.aload_n 0, 1) := by decide +kernel
theorem dX12_pairs_94 : decode cX12_pairs 94 = .ok (.iload 5, 2) := by decide +kernel
theorem dX12_pairs_96 : decode cX12_pairs 96 = .ok (.bipush 10, 2) := by decide +kernel
theorem dX12_pairs_98 : decode cX12_pairs 98 = .ok (.isub, 1) := by decide +kernel
theorem dX12_pairs_99 : decode cX12_pairs 99 = .ok (.invokevirtual 215, 3) := by decide +kernel
theorem dX12_pairs_102 : decode cX12_pairs 102 = .ok (.ifCond .eq 16, 3) := by decide +kernel
theorem dX12_pairs_105 : decode cX12_pairs 105 = .ok (.aload_n 0, 1) := by decide +kernel
theorem dX12_pairs_106 : decode cX12_pairs 106 = .ok (.getfield 136, 3) := by decide +kernel
theorem dX12_pairs_109 : decode cX12_pairs 109 = .ok (.iload 5, 2) := by decide +kernel
theorem dX12_pairs_111 : decode cX12_pairs 111 = .ok (.bipush 10, 2) := by decide +kernel
theorem dX12_pairs_113 : decode cX12_pairs 113 = .ok (.isub, 1) := by decide +kernel
theorem dX12_pairs_114 : decode cX12_pairs 114 = .ok (.iaload, 1) := by decide +kernel
theorem dX12_pairs_115 : decode cX12_pairs 115 = .ok (.goto 4, 3) := by decide +kernel
theorem dX12_pairs_118 : decode cX12_pairs 118 = .ok (.iconst (-1), 1) := by decide +kernel
theorem dX12_pairs_119 : decode cX12_pairs 119 = .ok (.ireturn, 1) := by decide +kernel
theorem cd_173 (G : ZG) (d : Nat) (K : ZKt) (F : ZFt) (hT : zt5 G.2.2.2) : CS G RX12 cX12_pairs 7 d K (some .int) [] (fun _ => []) 0 (bd_173 G.2.2.2 K F) := by
  unfold bd_173
  exact (CS.seq 22 (CS.if1 (T := 19) (F := 22) (CD.pure (CC.or (CC.or (CC.not (CC.if_ne_F (T := 7) (F := 19) (CE.callS (by decide) (CA.int (CE.iload_n rfl dX12_pairs_0 zhd) CA.nil) zi_136 cs_X12_150 (fun _ => rfl) dX12_pairs_1 zhd) dX12_pairs_4 rfl rfl)) (CC.not (CC.if_ne_F (T := 14) (F := 19) (CE.callS (by decide) (CA.int (CE.iload_n rfl dX12_pairs_7 zhd) CA.nil) zi_136 cs_X12_150 (fun _ => rfl) dX12_pairs_8 zhd) dX12_pairs_11 rfl rfl))) (CC.icmp_eq_F (T := 19) (F := 22) (CE.iload_n rfl dX12_pairs_14 zhd) (CE.iload_n rfl dX12_pairs_15 zhd) dX12_pairs_16 rfl rfl))) (CS.retI (CX.pure (CE.bipush kB_m101 dX12_pairs_19 zhd)) dX12_pairs_21) zhd)
  (CS.seq 67 (CS.if1 (T := 64) (F := 67) (CD.pure (CC.or (CC.or (CC.not (CC.if_ne_F (T := 35) (F := 64) (CE.callS (by decide) (CA.int (CE.iload_n rfl dX12_pairs_22 zhd) (CA.int (CE.sipush kS_m9999 dX12_pairs_23 zhd) (CA.int (CE.sipush kS_9999 dX12_pairs_26 zhd) CA.nil))) zi_135 cs_X12_142 (fun _ => rfl) dX12_pairs_29 zhd) dX12_pairs_32 rfl rfl)) (CC.not (CC.if_ne_F (T := 47) (F := 64) (CE.callS (by decide) (CA.int (CE.iload dX12_pairs_35 zhd) (CA.int (CE.iload_n rfl dX12_pairs_37 zhd) (CA.int (CE.sipush kS_9999 dX12_pairs_38 zhd) CA.nil))) zi_135 cs_X12_142 (fun _ => rfl) dX12_pairs_41 zhd) dX12_pairs_44 rfl rfl))) (CC.and (CC.if_ne_F (T := 52) (F := 67) (CE.iload dX12_pairs_47 zhd) dX12_pairs_49 rfl rfl) (CC.not (CC.if_ne_T (T := 67) (F := 64) (CE.callS (by decide) (CA.int (CE.iload dX12_pairs_52 zhd) (CA.int (CE.bipush kB_10 dX12_pairs_54 zhd) (CA.int (CE.bipush kB_33 dX12_pairs_56 zhd) CA.nil))) zi_135 cs_X12_142 (fun _ => rfl) dX12_pairs_58 zhd) dX12_pairs_61 rfl rfl))))) (CS.retI (CX.pure (CE.bipush kB_m102 dX12_pairs_64 zhd)) dX12_pairs_66) zhd)
  (CS.seq 76 (CS.callV (CA.ref (CE.aload_n rfl dX12_pairs_67 zhd) (CA.int (CE.iload_n rfl dX12_pairs_68 zhd) (CA.int (CE.iload_n rfl dX12_pairs_69 zhd) (CA.int (CE.iload_n rfl dX12_pairs_70 zhd) (CA.int (CE.iload dX12_pairs_71 zhd) CA.nil))))) zi_168 cv_X12_238 (fun _ => rfl) dX12_pairs_73 zhd)
  (CS.seq 83 (CS.decI (CX.callV (by decide) (CA.ref (CE.aload_n rfl dX12_pairs_76 zhd) (CA.int (CE.iload_n rfl dX12_pairs_77 zhd) CA.nil)) zi_172 cv_X12_242 (fun _ => rfl) dX12_pairs_78 zhd) (by decide) dX12_pairs_81 zhd)
  (CS.retI (CX.pure (CE.tern (T := 88) (F := 93) (p1 := 90) (q := 119) (CC.if_eq_F (T := 88) (F := 93) (CE.iload dX12_pairs_83 zhd) dX12_pairs_85 rfl rfl) (CE.iload dX12_pairs_88 zhd) zex2 dX12_pairs_90 rfl zhd (CE.tern (T := 105) (F := 118) (p1 := 115) (q := 119) (CC.if_ne_F (T := 105) (F := 118) (CE.callV (by decide) (CA.ref (CE.aload_n rfl dX12_pairs_93 zhd) (CA.int (CE.isub (CE.iload dX12_pairs_94 zhd) (CE.bipush kB_10 dX12_pairs_96 zhd) dX12_pairs_98 zhd) CA.nil)) zi_137 cv_X12_215 (fun _ => rfl) dX12_pairs_99 zhd) dX12_pairs_102 rfl rfl) (CE.aldI (CE.getR (CE.aload_n rfl dX12_pairs_105 zhd) fs_X12_136 dX12_pairs_106 zhd) (CE.isub (CE.iload dX12_pairs_109 zhd) (CE.bipush kB_10 dX12_pairs_111 zhd) dX12_pairs_113 zhd) (Or.inl ⟨rfl, dX12_pairs_114⟩) zhd) zex2 dX12_pairs_115 rfl zhd (CE.iconst kI_m1 dX12_pairs_118 zhd)))) dX12_pairs_119)))))
theorem dX12_isMachine_0 : decode cX12_isMachine 0 = .ok (.iload_n 0, 1) := by decide +kernel
theorem dX12_isMachine_1 : decode cX12_isMachine 1 = .ok (.iconst 0, 1) := by decide +kernel
theorem dX12_isMachine_2 : decode cX12_isMachine 2 = .ok (.iconst 5, 1) := by decide +kernel
theorem dX12_isMachine_3 : decode cX12_isMachine 3 = .ok (.invokestatic 142, 3) := by decide +kernel
theorem dX12_isMachine_6 : decode cX12_isMachine 6 = .ok (.ireturn, 1) := by decide +kernel
theorem cd_174 (G : ZG) (d : Nat) (K : ZKt) (F : ZFt) (hT : zt5 G.2.2.2) : CS G RX12 cX12_isMachine 1 d K (some .boolean) [] (fun _ => []) 0 (bd_174 G.2.2.2 K F) := by
  unfold bd_174
  exact (CS.retZ (CX.pure (CE.callS (by decide) (CA.int (CE.iload_n rfl dX12_isMachine_0 zhd) (CA.int (CE.iconst kI_0 dX12_isMachine_1 zhd) (CA.int (CE.iconst kI_5 dX12_isMachine_2 zhd) CA.nil))) zi_135 cs_X12_142 (fun _ => rfl) dX12_isMachine_3 zhd)) dX12_isMachine_6)
