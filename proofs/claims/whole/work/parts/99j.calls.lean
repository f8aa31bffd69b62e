theorem dL_law_0 : decode code 0 = .ok (.new 7, 3) := by decide +kernel
theorem dL_law_3 : decode code 3 = .ok (.dup, 1) := by decide +kernel
theorem dL_law_4 : decode code 4 = .ok (.invokespecial 9, 3) := by decide +kernel
theorem dL_law_7 : decode code 7 = .ok (.astore_n 1, 1) := by decide +kernel
theorem dL_law_8 : decode code 8 = .ok (.new 10, 3) := by decide +kernel
theorem dL_law_11 : decode code 11 = .ok (.dup, 1) := by decide +kernel
theorem dL_law_12 : decode code 12 = .ok (.invokespecial 12, 3) := by decide +kernel
theorem dL_law_15 : decode code 15 = .ok (.astore_n 2, 1) := by decide +kernel
theorem dL_law_16 : decode code 16 = .ok (.iconst 0, 1) := by decide +kernel
theorem dL_law_17 : decode code 17 = .ok (.istore_n 3, 1) := by decide +kernel
theorem dL_law_18 : decode code 18 = .ok (.iload_n 3, 1) := by decide +kernel
theorem dL_law_19 : decode code 19 = .ok (.aload_n 0, 1) := by decide +kernel
theorem dL_law_20 : decode code 20 = .ok (.arraylength, 1) := by decide +kernel
theorem dL_law_21 : decode code 21 = .ok (.bipush 6, 2) := by decide +kernel
theorem dL_law_23 : decode code 23 = .ok (.isub, 1) := by decide +kernel
theorem dL_law_24 : decode code 24 = .ok (.if_icmp .gt 1412, 3) := by decide +kernel
theorem dL_law_27 : decode code 27 = .ok (.aload_n 0, 1) := by decide +kernel
theorem dL_law_28 : decode code 28 = .ok (.iload_n 3, 1) := by decide +kernel
theorem dL_law_29 : decode code 29 = .ok (.iaload, 1) := by decide +kernel
theorem dL_law_30 : decode code 30 = .ok (.bipush 63, 2) := by decide +kernel
theorem dL_law_32 : decode code 32 = .ok (.iand, 1) := by decide +kernel
theorem dL_law_33 : decode code 33 = .ok (.tableswitch 1397 0 39 #[175, 218, 251, 274, 317, 350, 393, 446, 459, 472, 485, 518, 552, 585, 618, 661, 694, 757, 790, 823, 856, 869, 892, 925, 938, 951, 984, 1037, 1070, 1103, 1136, 1169, 1192, 1235, 1268, 1291, 1314, 1327, 1360, 1383], 175) := by decide +kernel
theorem dL_law_208 : decode code 208 = .ok (.aload_n 1, 1) := by decide +kernel
theorem dL_law_209 : decode code 209 = .ok (.aload_n 0, 1) := by decide +kernel
theorem dL_law_210 : decode code 210 = .ok (.iload_n 3, 1) := by decide +kernel
theorem dL_law_211 : decode code 211 = .ok (.iconst 1, 1) := by decide +kernel
theorem dL_law_212 : decode code 212 = .ok (.iadd, 1) := by decide +kernel
theorem dL_law_213 : decode code 213 = .ok (.iaload, 1) := by decide +kernel
theorem dL_law_214 : decode code 214 = .ok (.aload_n 0, 1) := by decide +kernel
theorem dL_law_215 : decode code 215 = .ok (.iload_n 3, 1) := by decide +kernel
theorem dL_law_216 : decode code 216 = .ok (.iconst 2, 1) := by decide +kernel
theorem dL_law_217 : decode code 217 = .ok (.iadd, 1) := by decide +kernel
theorem dL_law_218 : decode code 218 = .ok (.iaload, 1) := by decide +kernel
theorem dL_law_219 : decode code 219 = .ok (.aload_n 0, 1) := by decide +kernel
theorem dL_law_220 : decode code 220 = .ok (.iload_n 3, 1) := by decide +kernel
theorem dL_law_221 : decode code 221 = .ok (.iconst 3, 1) := by decide +kernel
theorem dL_law_222 : decode code 222 = .ok (.iadd, 1) := by decide +kernel
theorem dL_law_223 : decode code 223 = .ok (.iaload, 1) := by decide +kernel
theorem dL_law_224 : decode code 224 = .ok (.invokevirtual 13, 3) := by decide +kernel
theorem dL_law_227 : decode code 227 = .ok (.aload_n 2, 1) := by decide +kernel
theorem dL_law_228 : decode code 228 = .ok (.aload_n 0, 1) := by decide +kernel
theorem dL_law_229 : decode code 229 = .ok (.iload_n 3, 1) := by decide +kernel
theorem dL_law_230 : decode code 230 = .ok (.iconst 1, 1) := by decide +kernel
theorem dL_law_231 : decode code 231 = .ok (.iadd, 1) := by decide +kernel
theorem dL_law_232 : decode code 232 = .ok (.iaload, 1) := by decide +kernel
theorem dL_law_233 : decode code 233 = .ok (.aload_n 0, 1) := by decide +kernel
theorem dL_law_234 : decode code 234 = .ok (.iload_n 3, 1) := by decide +kernel
theorem dL_law_235 : decode code 235 = .ok (.iconst 2, 1) := by decide +kernel
theorem dL_law_236 : decode code 236 = .ok (.iadd, 1) := by decide +kernel
theorem dL_law_237 : decode code 237 = .ok (.iaload, 1) := by decide +kernel
theorem dL_law_238 : decode code 238 = .ok (.aload_n 0, 1) := by decide +kernel
theorem dL_law_239 : decode code 239 = .ok (.iload_n 3, 1) := by decide +kernel
theorem dL_law_240 : decode code 240 = .ok (.iconst 3, 1) := by decide +kernel
theorem dL_law_241 : decode code 241 = .ok (.iadd, 1) := by decide +kernel
theorem dL_law_242 : decode code 242 = .ok (.iaload, 1) := by decide +kernel
theorem dL_law_243 : decode code 243 = .ok (.invokevirtual 17, 3) := by decide +kernel
theorem dL_law_246 : decode code 246 = .ok (.if_icmp .eq 1184, 3) := by decide +kernel
theorem dL_law_249 : decode code 249 = .ok (.iconst 0, 1) := by decide +kernel
theorem dL_law_250 : decode code 250 = .ok (.ireturn, 1) := by decide +kernel
theorem dL_law_251 : decode code 251 = .ok (.aload_n 1, 1) := by decide +kernel
theorem dL_law_252 : decode code 252 = .ok (.aload_n 0, 1) := by decide +kernel
theorem dL_law_253 : decode code 253 = .ok (.iload_n 3, 1) := by decide +kernel
theorem dL_law_254 : decode code 254 = .ok (.iconst 1, 1) := by decide +kernel
theorem dL_law_255 : decode code 255 = .ok (.iadd, 1) := by decide +kernel
theorem dL_law_256 : decode code 256 = .ok (.iaload, 1) := by decide +kernel
theorem dL_law_257 : decode code 257 = .ok (.aload_n 0, 1) := by decide +kernel
theorem dL_law_258 : decode code 258 = .ok (.iload_n 3, 1) := by decide +kernel
theorem dL_law_259 : decode code 259 = .ok (.iconst 2, 1) := by decide +kernel
theorem dL_law_260 : decode code 260 = .ok (.iadd, 1) := by decide +kernel
theorem dL_law_261 : decode code 261 = .ok (.iaload, 1) := by decide +kernel
theorem dL_law_262 : decode code 262 = .ok (.invokevirtual 18, 3) := by decide +kernel
theorem dL_law_265 : decode code 265 = .ok (.aload_n 2, 1) := by decide +kernel
theorem dL_law_266 : decode code 266 = .ok (.aload_n 0, 1) := by decide +kernel
theorem dL_law_267 : decode code 267 = .ok (.iload_n 3, 1) := by decide +kernel
theorem dL_law_268 : decode code 268 = .ok (.iconst 1, 1) := by decide +kernel
theorem dL_law_269 : decode code 269 = .ok (.iadd, 1) := by decide +kernel
theorem dL_law_270 : decode code 270 = .ok (.iaload, 1) := by decide +kernel
theorem dL_law_271 : decode code 271 = .ok (.aload_n 0, 1) := by decide +kernel
theorem dL_law_272 : decode code 272 = .ok (.iload_n 3, 1) := by decide +kernel
theorem dL_law_273 : decode code 273 = .ok (.iconst 2, 1) := by decide +kernel
theorem dL_law_274 : decode code 274 = .ok (.iadd, 1) := by decide +kernel
theorem dL_law_275 : decode code 275 = .ok (.iaload, 1) := by decide +kernel
theorem dL_law_276 : decode code 276 = .ok (.invokevirtual 22, 3) := by decide +kernel
theorem dL_law_279 : decode code 279 = .ok (.if_icmp .eq 1151, 3) := by decide +kernel
theorem dL_law_282 : decode code 282 = .ok (.iconst 0, 1) := by decide +kernel
theorem dL_law_283 : decode code 283 = .ok (.ireturn, 1) := by decide +kernel
theorem dL_law_284 : decode code 284 = .ok (.aload_n 1, 1) := by decide +kernel
theorem dL_law_285 : decode code 285 = .ok (.aload_n 0, 1) := by decide +kernel
theorem dL_law_286 : decode code 286 = .ok (.iload_n 3, 1) := by decide +kernel
theorem dL_law_287 : decode code 287 = .ok (.iconst 1, 1) := by decide +kernel
theorem dL_law_288 : decode code 288 = .ok (.iadd, 1) := by decide +kernel
theorem dL_law_289 : decode code 289 = .ok (.iaload, 1) := by decide +kernel
theorem dL_law_290 : decode code 290 = .ok (.invokevirtual 23, 3) := by decide +kernel
theorem dL_law_293 : decode code 293 = .ok (.aload_n 2, 1) := by decide +kernel
theorem dL_law_294 : decode code 294 = .ok (.aload_n 0, 1) := by decide +kernel
theorem dL_law_295 : decode code 295 = .ok (.iload_n 3, 1) := by decide +kernel
theorem dL_law_296 : decode code 296 = .ok (.iconst 1, 1) := by decide +kernel
theorem dL_law_297 : decode code 297 = .ok (.iadd, 1) := by decide +kernel
theorem dL_law_298 : decode code 298 = .ok (.iaload, 1) := by decide +kernel
theorem dL_law_299 : decode code 299 = .ok (.invokevirtual 27, 3) := by decide +kernel
theorem dL_law_302 : decode code 302 = .ok (.if_icmp .eq 1128, 3) := by decide +kernel
theorem dL_law_305 : decode code 305 = .ok (.iconst 0, 1) := by decide +kernel
theorem dL_law_306 : decode code 306 = .ok (.ireturn, 1) := by decide +kernel
theorem dL_law_307 : decode code 307 = .ok (.aload_n 1, 1) := by decide +kernel
theorem dL_law_308 : decode code 308 = .ok (.aload_n 0, 1) := by decide +kernel
theorem dL_law_309 : decode code 309 = .ok (.iload_n 3, 1) := by decide +kernel
theorem dL_law_310 : decode code 310 = .ok (.iconst 1, 1) := by decide +kernel
theorem dL_law_311 : decode code 311 = .ok (.iadd, 1) := by decide +kernel
theorem dL_law_312 : decode code 312 = .ok (.iaload, 1) := by decide +kernel
theorem dL_law_313 : decode code 313 = .ok (.aload_n 0, 1) := by decide +kernel
theorem dL_law_314 : decode code 314 = .ok (.iload_n 3, 1) := by decide +kernel
theorem dL_law_315 : decode code 315 = .ok (.iconst 2, 1) := by decide +kernel
theorem dL_law_316 : decode code 316 = .ok (.iadd, 1) := by decide +kernel
theorem dL_law_317 : decode code 317 = .ok (.iaload, 1) := by decide +kernel
theorem dL_law_318 : decode code 318 = .ok (.aload_n 0, 1) := by decide +kernel
theorem dL_law_319 : decode code 319 = .ok (.iload_n 3, 1) := by decide +kernel
theorem dL_law_320 : decode code 320 = .ok (.iconst 3, 1) := by decide +kernel
theorem dL_law_321 : decode code 321 = .ok (.iadd, 1) := by decide +kernel
theorem dL_law_322 : decode code 322 = .ok (.iaload, 1) := by decide +kernel
theorem dL_law_323 : decode code 323 = .ok (.invokevirtual 28, 3) := by decide +kernel
theorem dL_law_326 : decode code 326 = .ok (.aload_n 2, 1) := by decide +kernel
theorem dL_law_327 : decode code 327 = .ok (.aload_n 0, 1) := by decide +kernel
theorem dL_law_328 : decode code 328 = .ok (.iload_n 3, 1) := by decide +kernel
theorem dL_law_329 : decode code 329 = .ok (.iconst 1, 1) := by decide +kernel
theorem dL_law_330 : decode code 330 = .ok (.iadd, 1) := by decide +kernel
theorem dL_law_331 : decode code 331 = .ok (.iaload, 1) := by decide +kernel
theorem dL_law_332 : decode code 332 = .ok (.aload_n 0, 1) := by decide +kernel
theorem dL_law_333 : decode code 333 = .ok (.iload_n 3, 1) := by decide +kernel
theorem dL_law_334 : decode code 334 = .ok (.iconst 2, 1) := by decide +kernel
theorem dL_law_335 : decode code 335 = .ok (.iadd, 1) := by decide +kernel
theorem dL_law_336 : decode code 336 = .ok (.iaload, 1) := by decide +kernel
theorem dL_law_337 : decode code 337 = .ok (.aload_n 0, 1) := by decide +kernel
theorem dL_law_338 : decode code 338 = .ok (.iload_n 3, 1) := by decide +kernel
theorem dL_law_339 : decode code 339 = .ok (.iconst 3, 1) := by decide +kernel
theorem dL_law_340 : decode code 340 = .ok (.iadd, 1) := by decide +kernel
theorem dL_law_341 : decode code 341 = .ok (.iaload, 1) := by decide +kernel
theorem dL_law_342 : decode code 342 = .ok (.invokevirtual 31, 3) := by decide +kernel
theorem dL_law_345 : decode code 345 = .ok (.if_icmp .eq 1085, 3) := by decide +kernel
theorem dL_law_348 : decode code 348 = .ok (.iconst 0, 1) := by decide +kernel
theorem dL_law_349 : decode code 349 = .ok (.ireturn, 1) := by decide +kernel
theorem dL_law_350 : decode code 350 = .ok (.aload_n 1, 1) := by decide +kernel
theorem dL_law_351 : decode code 351 = .ok (.aload_n 0, 1) := by decide +kernel
theorem dL_law_352 : decode code 352 = .ok (.iload_n 3, 1) := by decide +kernel
theorem dL_law_353 : decode code 353 = .ok (.iconst 1, 1) := by decide +kernel
theorem dL_law_354 : decode code 354 = .ok (.iadd, 1) := by decide +kernel
theorem dL_law_355 : decode code 355 = .ok (.iaload, 1) := by decide +kernel
theorem dL_law_356 : decode code 356 = .ok (.aload_n 0, 1) := by decide +kernel
theorem dL_law_357 : decode code 357 = .ok (.iload_n 3, 1) := by decide +kernel
theorem dL_law_358 : decode code 358 = .ok (.iconst 2, 1) := by decide +kernel
theorem dL_law_359 : decode code 359 = .ok (.iadd, 1) := by decide +kernel
theorem dL_law_360 : decode code 360 = .ok (.iaload, 1) := by decide +kernel
theorem dL_law_361 : decode code 361 = .ok (.invokevirtual 32, 3) := by decide +kernel
theorem dL_law_364 : decode code 364 = .ok (.aload_n 2, 1) := by decide +kernel
theorem dL_law_365 : decode code 365 = .ok (.aload_n 0, 1) := by decide +kernel
theorem dL_law_366 : decode code 366 = .ok (.iload_n 3, 1) := by decide +kernel
theorem dL_law_367 : decode code 367 = .ok (.iconst 1, 1) := by decide +kernel
theorem dL_law_368 : decode code 368 = .ok (.iadd, 1) := by decide +kernel
theorem dL_law_369 : decode code 369 = .ok (.iaload, 1) := by decide +kernel
theorem dL_law_370 : decode code 370 = .ok (.aload_n 0, 1) := by decide +kernel
theorem dL_law_371 : decode code 371 = .ok (.iload_n 3, 1) := by decide +kernel
theorem dL_law_372 : decode code 372 = .ok (.iconst 2, 1) := by decide +kernel
theorem dL_law_373 : decode code 373 = .ok (.iadd, 1) := by decide +kernel
theorem dL_law_374 : decode code 374 = .ok (.iaload, 1) := by decide +kernel
theorem dL_law_375 : decode code 375 = .ok (.invokevirtual 35, 3) := by decide +kernel
theorem dL_law_378 : decode code 378 = .ok (.if_icmp .eq 1052, 3) := by decide +kernel
theorem dL_law_381 : decode code 381 = .ok (.iconst 0, 1) := by decide +kernel
theorem dL_law_382 : decode code 382 = .ok (.ireturn, 1) := by decide +kernel
theorem dL_law_383 : decode code 383 = .ok (.aload_n 1, 1) := by decide +kernel
theorem dL_law_384 : decode code 384 = .ok (.aload_n 0, 1) := by decide +kernel
theorem dL_law_385 : decode code 385 = .ok (.iload_n 3, 1) := by decide +kernel
theorem dL_law_386 : decode code 386 = .ok (.iconst 1, 1) := by decide +kernel
theorem dL_law_387 : decode code 387 = .ok (.iadd, 1) := by decide +kernel
theorem dL_law_388 : decode code 388 = .ok (.iaload, 1) := by decide +kernel
theorem dL_law_389 : decode code 389 = .ok (.aload_n 0, 1) := by decide +kernel
theorem dL_law_390 : decode code 390 = .ok (.iload_n 3, 1) := by decide +kernel
theorem dL_law_391 : decode code 391 = .ok (.iconst 2, 1) := by decide +kernel
theorem dL_law_392 : decode code 392 = .ok (.iadd, 1) := by decide +kernel
theorem dL_law_393 : decode code 393 = .ok (.iaload, 1) := by decide +kernel
theorem dL_law_394 : decode code 394 = .ok (.aload_n 0, 1) := by decide +kernel
theorem dL_law_395 : decode code 395 = .ok (.iload_n 3, 1) := by decide +kernel
theorem dL_law_396 : decode code 396 = .ok (.iconst 3, 1) := by decide +kernel
theorem dL_law_397 : decode code 397 = .ok (.iadd, 1) := by decide +kernel
theorem dL_law_398 : decode code 398 = .ok (.iaload, 1) := by decide +kernel
theorem dL_law_399 : decode code 399 = .ok (.invokevirtual 36, 3) := by decide +kernel
theorem dL_law_402 : decode code 402 = .ok (.aload_n 2, 1) := by decide +kernel
theorem dL_law_403 : decode code 403 = .ok (.aload_n 0, 1) := by decide +kernel
theorem dL_law_404 : decode code 404 = .ok (.iload_n 3, 1) := by decide +kernel
theorem dL_law_405 : decode code 405 = .ok (.iconst 1, 1) := by decide +kernel
theorem dL_law_406 : decode code 406 = .ok (.iadd, 1) := by decide +kernel
theorem dL_law_407 : decode code 407 = .ok (.iaload, 1) := by decide +kernel
theorem dL_law_408 : decode code 408 = .ok (.aload_n 0, 1) := by decide +kernel
theorem dL_law_409 : decode code 409 = .ok (.iload_n 3, 1) := by decide +kernel
theorem dL_law_410 : decode code 410 = .ok (.iconst 2, 1) := by decide +kernel
theorem dL_law_411 : decode code 411 = .ok (.iadd, 1) := by decide +kernel
theorem dL_law_412 : decode code 412 = .ok (.iaload, 1) := by decide +kernel
theorem dL_law_413 : decode code 413 = .ok (.aload_n 0, 1) := by decide +kernel
theorem dL_law_414 : decode code 414 = .ok (.iload_n 3, 1) := by decide +kernel
theorem dL_law_415 : decode code 415 = .ok (.iconst 3, 1) := by decide +kernel
theorem dL_law_416 : decode code 416 = .ok (.iadd, 1) := by decide +kernel
theorem dL_law_417 : decode code 417 = .ok (.iaload, 1) := by decide +kernel
theorem dL_law_418 : decode code 418 = .ok (.invokevirtual 39, 3) := by decide +kernel
theorem dL_law_421 : decode code 421 = .ok (.if_icmp .eq 1009, 3) := by decide +kernel
theorem dL_law_424 : decode code 424 = .ok (.iconst 0, 1) := by decide +kernel
theorem dL_law_425 : decode code 425 = .ok (.ireturn, 1) := by decide +kernel
theorem dL_law_426 : decode code 426 = .ok (.aload_n 1, 1) := by decide +kernel
theorem dL_law_427 : decode code 427 = .ok (.aload_n 0, 1) := by decide +kernel
theorem dL_law_428 : decode code 428 = .ok (.iload_n 3, 1) := by decide +kernel
theorem dL_law_429 : decode code 429 = .ok (.iconst 1, 1) := by decide +kernel
theorem dL_law_430 : decode code 430 = .ok (.iadd, 1) := by decide +kernel
theorem dL_law_431 : decode code 431 = .ok (.iaload, 1) := by decide +kernel
theorem dL_law_432 : decode code 432 = .ok (.i2l, 1) := by decide +kernel
theorem dL_law_433 : decode code 433 = .ok (.bipush 32, 2) := by decide +kernel
theorem dL_law_435 : decode code 435 = .ok (.lshl, 1) := by decide +kernel
theorem dL_law_436 : decode code 436 = .ok (.aload_n 0, 1) := by decide +kernel
theorem dL_law_437 : decode code 437 = .ok (.iload_n 3, 1) := by decide +kernel
theorem dL_law_438 : decode code 438 = .ok (.iconst 2, 1) := by decide +kernel
theorem dL_law_439 : decode code 439 = .ok (.iadd, 1) := by decide +kernel
theorem dL_law_440 : decode code 440 = .ok (.iaload, 1) := by decide +kernel
theorem dL_law_441 : decode code 441 = .ok (.i2l, 1) := by decide +kernel
theorem dL_law_442 : decode code 442 = .ok (.ldc2_w 40, 3) := by decide +kernel
theorem dL_law_445 : decode code 445 = .ok (.land, 1) := by decide +kernel
theorem dL_law_446 : decode code 446 = .ok (.lor, 1) := by decide +kernel
theorem dL_law_447 : decode code 447 = .ok (.invokevirtual 42, 3) := by decide +kernel
theorem dL_law_450 : decode code 450 = .ok (.aload_n 2, 1) := by decide +kernel
theorem dL_law_451 : decode code 451 = .ok (.aload_n 0, 1) := by decide +kernel
theorem dL_law_452 : decode code 452 = .ok (.iload_n 3, 1) := by decide +kernel
theorem dL_law_453 : decode code 453 = .ok (.iconst 1, 1) := by decide +kernel
theorem dL_law_454 : decode code 454 = .ok (.iadd, 1) := by decide +kernel
theorem dL_law_455 : decode code 455 = .ok (.iaload, 1) := by decide +kernel
theorem dL_law_456 : decode code 456 = .ok (.i2l, 1) := by decide +kernel
theorem dL_law_457 : decode code 457 = .ok (.bipush 32, 2) := by decide +kernel
theorem dL_law_459 : decode code 459 = .ok (.lshl, 1) := by decide +kernel
theorem dL_law_460 : decode code 460 = .ok (.aload_n 0, 1) := by decide +kernel
theorem dL_law_461 : decode code 461 = .ok (.iload_n 3, 1) := by decide +kernel
theorem dL_law_462 : decode code 462 = .ok (.iconst 2, 1) := by decide +kernel
theorem dL_law_463 : decode code 463 = .ok (.iadd, 1) := by decide +kernel
theorem dL_law_464 : decode code 464 = .ok (.iaload, 1) := by decide +kernel
theorem dL_law_465 : decode code 465 = .ok (.i2l, 1) := by decide +kernel
theorem dL_law_466 : decode code 466 = .ok (.ldc2_w 40, 3) := by decide +kernel
theorem dL_law_469 : decode code 469 = .ok (.land, 1) := by decide +kernel
theorem dL_law_470 : decode code 470 = .ok (.lor, 1) := by decide +kernel
theorem dL_law_471 : decode code 471 = .ok (.invokevirtual 46, 3) := by decide +kernel
theorem dL_law_474 : decode code 474 = .ok (.if_icmp .eq 956, 3) := by decide +kernel
theorem dL_law_477 : decode code 477 = .ok (.iconst 0, 1) := by decide +kernel
theorem dL_law_478 : decode code 478 = .ok (.ireturn, 1) := by decide +kernel
theorem dL_law_479 : decode code 479 = .ok (.aload_n 1, 1) := by decide +kernel
theorem dL_law_480 : decode code 480 = .ok (.invokevirtual 47, 3) := by decide +kernel
theorem dL_law_483 : decode code 483 = .ok (.aload_n 2, 1) := by decide +kernel
theorem dL_law_484 : decode code 484 = .ok (.invokevirtual 51, 3) := by decide +kernel
theorem dL_law_487 : decode code 487 = .ok (.if_icmp .eq 943, 3) := by decide +kernel
theorem dL_law_490 : decode code 490 = .ok (.iconst 0, 1) := by decide +kernel
theorem dL_law_491 : decode code 491 = .ok (.ireturn, 1) := by decide +kernel
theorem dL_law_492 : decode code 492 = .ok (.aload_n 1, 1) := by decide +kernel
theorem dL_law_493 : decode code 493 = .ok (.invokevirtual 52, 3) := by decide +kernel
theorem dL_law_496 : decode code 496 = .ok (.aload_n 2, 1) := by decide +kernel
theorem dL_law_497 : decode code 497 = .ok (.invokevirtual 55, 3) := by decide +kernel
theorem dL_law_500 : decode code 500 = .ok (.if_icmp .eq 930, 3) := by decide +kernel
theorem dL_law_503 : decode code 503 = .ok (.iconst 0, 1) := by decide +kernel
theorem dL_law_504 : decode code 504 = .ok (.ireturn, 1) := by decide +kernel
theorem dL_law_505 : decode code 505 = .ok (.aload_n 1, 1) := by decide +kernel
theorem dL_law_506 : decode code 506 = .ok (.invokevirtual 56, 3) := by decide +kernel
theorem dL_law_509 : decode code 509 = .ok (.aload_n 2, 1) := by decide +kernel
theorem dL_law_510 : decode code 510 = .ok (.invokevirtual 59, 3) := by decide +kernel
theorem dL_law_513 : decode code 513 = .ok (.if_icmp .eq 917, 3) := by decide +kernel
theorem dL_law_516 : decode code 516 = .ok (.iconst 0, 1) := by decide +kernel
theorem dL_law_517 : decode code 517 = .ok (.ireturn, 1) := by decide +kernel
theorem dL_law_518 : decode code 518 = .ok (.aload_n 1, 1) := by decide +kernel
theorem dL_law_519 : decode code 519 = .ok (.aload_n 0, 1) := by decide +kernel
theorem dL_law_520 : decode code 520 = .ok (.iload_n 3, 1) := by decide +kernel
theorem dL_law_521 : decode code 521 = .ok (.iconst 1, 1) := by decide +kernel
theorem dL_law_522 : decode code 522 = .ok (.iadd, 1) := by decide +kernel
theorem dL_law_523 : decode code 523 = .ok (.iaload, 1) := by decide +kernel
theorem dL_law_524 : decode code 524 = .ok (.aload_n 0, 1) := by decide +kernel
theorem dL_law_525 : decode code 525 = .ok (.iload_n 3, 1) := by decide +kernel
theorem dL_law_526 : decode code 526 = .ok (.iconst 2, 1) := by decide +kernel
theorem dL_law_527 : decode code 527 = .ok (.iadd, 1) := by decide +kernel
theorem dL_law_528 : decode code 528 = .ok (.iaload, 1) := by decide +kernel
theorem dL_law_529 : decode code 529 = .ok (.invokevirtual 60, 3) := by decide +kernel
theorem dL_law_532 : decode code 532 = .ok (.aload_n 2, 1) := by decide +kernel
theorem dL_law_533 : decode code 533 = .ok (.aload_n 0, 1) := by decide +kernel
theorem dL_law_534 : decode code 534 = .ok (.iload_n 3, 1) := by decide +kernel
theorem dL_law_535 : decode code 535 = .ok (.iconst 1, 1) := by decide +kernel
theorem dL_law_536 : decode code 536 = .ok (.iadd, 1) := by decide +kernel
theorem dL_law_537 : decode code 537 = .ok (.iaload, 1) := by decide +kernel
theorem dL_law_538 : decode code 538 = .ok (.aload_n 0, 1) := by decide +kernel
theorem dL_law_539 : decode code 539 = .ok (.iload_n 3, 1) := by decide +kernel
theorem dL_law_540 : decode code 540 = .ok (.iconst 2, 1) := by decide +kernel
theorem dL_law_541 : decode code 541 = .ok (.iadd, 1) := by decide +kernel
theorem dL_law_542 : decode code 542 = .ok (.iaload, 1) := by decide +kernel
theorem dL_law_543 : decode code 543 = .ok (.invokevirtual 63, 3) := by decide +kernel
theorem dL_law_546 : decode code 546 = .ok (.if_icmp .eq 884, 3) := by decide +kernel
theorem dL_law_549 : decode code 549 = .ok (.iconst 0, 1) := by decide +kernel
theorem dL_law_550 : decode code 550 = .ok (.ireturn, 1) := by decide +kernel
theorem dL_law_551 : decode code 551 = .ok (.aload_n 1, 1) := by decide +kernel
theorem dL_law_552 : decode code 552 = .ok (.aload_n 0, 1) := by decide +kernel
theorem dL_law_553 : decode code 553 = .ok (.iload_n 3, 1) := by decide +kernel
theorem dL_law_554 : decode code 554 = .ok (.iconst 1, 1) := by decide +kernel
theorem dL_law_555 : decode code 555 = .ok (.iadd, 1) := by decide +kernel
theorem dL_law_556 : decode code 556 = .ok (.iaload, 1) := by decide +kernel
theorem dL_law_557 : decode code 557 = .ok (.aload_n 0, 1) := by decide +kernel
theorem dL_law_558 : decode code 558 = .ok (.iload_n 3, 1) := by decide +kernel
theorem dL_law_559 : decode code 559 = .ok (.iconst 2, 1) := by decide +kernel
theorem dL_law_560 : decode code 560 = .ok (.iadd, 1) := by decide +kernel
theorem dL_law_561 : decode code 561 = .ok (.iaload, 1) := by decide +kernel
theorem dL_law_562 : decode code 562 = .ok (.invokevirtual 64, 3) := by decide +kernel
theorem dL_law_565 : decode code 565 = .ok (.aload_n 2, 1) := by decide +kernel
theorem dL_law_566 : decode code 566 = .ok (.aload_n 0, 1) := by decide +kernel
theorem dL_law_567 : decode code 567 = .ok (.iload_n 3, 1) := by decide +kernel
theorem dL_law_568 : decode code 568 = .ok (.iconst 1, 1) := by decide +kernel
theorem dL_law_569 : decode code 569 = .ok (.iadd, 1) := by decide +kernel
theorem dL_law_570 : decode code 570 = .ok (.iaload, 1) := by decide +kernel
theorem dL_law_571 : decode code 571 = .ok (.aload_n 0, 1) := by decide +kernel
theorem dL_law_572 : decode code 572 = .ok (.iload_n 3, 1) := by decide +kernel
theorem dL_law_573 : decode code 573 = .ok (.iconst 2, 1) := by decide +kernel
theorem dL_law_574 : decode code 574 = .ok (.iadd, 1) := by decide +kernel
theorem dL_law_575 : decode code 575 = .ok (.iaload, 1) := by decide +kernel
theorem dL_law_576 : decode code 576 = .ok (.invokevirtual 68, 3) := by decide +kernel
theorem dL_law_579 : decode code 579 = .ok (.lcmp, 1) := by decide +kernel
theorem dL_law_580 : decode code 580 = .ok (.ifCond .eq 850, 3) := by decide +kernel
theorem dL_law_583 : decode code 583 = .ok (.iconst 0, 1) := by decide +kernel
theorem dL_law_584 : decode code 584 = .ok (.ireturn, 1) := by decide +kernel
theorem dL_law_585 : decode code 585 = .ok (.aload_n 1, 1) := by decide +kernel
theorem dL_law_586 : decode code 586 = .ok (.aload_n 0, 1) := by decide +kernel
theorem dL_law_587 : decode code 587 = .ok (.iload_n 3, 1) := by decide +kernel
theorem dL_law_588 : decode code 588 = .ok (.iconst 1, 1) := by decide +kernel
theorem dL_law_589 : decode code 589 = .ok (.iadd, 1) := by decide +kernel
theorem dL_law_590 : decode code 590 = .ok (.iaload, 1) := by decide +kernel
theorem dL_law_591 : decode code 591 = .ok (.aload_n 0, 1) := by decide +kernel
theorem dL_law_592 : decode code 592 = .ok (.iload_n 3, 1) := by decide +kernel
theorem dL_law_593 : decode code 593 = .ok (.iconst 2, 1) := by decide +kernel
theorem dL_law_594 : decode code 594 = .ok (.iadd, 1) := by decide +kernel
theorem dL_law_595 : decode code 595 = .ok (.iaload, 1) := by decide +kernel
theorem dL_law_596 : decode code 596 = .ok (.invokevirtual 69, 3) := by decide +kernel
theorem dL_law_599 : decode code 599 = .ok (.aload_n 2, 1) := by decide +kernel
theorem dL_law_600 : decode code 600 = .ok (.aload_n 0, 1) := by decide +kernel
theorem dL_law_601 : decode code 601 = .ok (.iload_n 3, 1) := by decide +kernel
theorem dL_law_602 : decode code 602 = .ok (.iconst 1, 1) := by decide +kernel
theorem dL_law_603 : decode code 603 = .ok (.iadd, 1) := by decide +kernel
theorem dL_law_604 : decode code 604 = .ok (.iaload, 1) := by decide +kernel
theorem dL_law_605 : decode code 605 = .ok (.aload_n 0, 1) := by decide +kernel
theorem dL_law_606 : decode code 606 = .ok (.iload_n 3, 1) := by decide +kernel
theorem dL_law_607 : decode code 607 = .ok (.iconst 2, 1) := by decide +kernel
theorem dL_law_608 : decode code 608 = .ok (.iadd, 1) := by decide +kernel
theorem dL_law_609 : decode code 609 = .ok (.iaload, 1) := by decide +kernel
theorem dL_law_610 : decode code 610 = .ok (.invokevirtual 72, 3) := by decide +kernel
theorem dL_law_613 : decode code 613 = .ok (.if_icmp .eq 817, 3) := by decide +kernel
theorem dL_law_616 : decode code 616 = .ok (.iconst 0, 1) := by decide +kernel
theorem dL_law_617 : decode code 617 = .ok (.ireturn, 1) := by decide +kernel
theorem dL_law_618 : decode code 618 = .ok (.aload_n 1, 1) := by decide +kernel
theorem dL_law_619 : decode code 619 = .ok (.aload_n 0, 1) := by decide +kernel
theorem dL_law_620 : decode code 620 = .ok (.iload_n 3, 1) := by decide +kernel
theorem dL_law_621 : decode code 621 = .ok (.iconst 1, 1) := by decide +kernel
theorem dL_law_622 : decode code 622 = .ok (.iadd, 1) := by decide +kernel
theorem dL_law_623 : decode code 623 = .ok (.iaload, 1) := by decide +kernel
theorem dL_law_624 : decode code 624 = .ok (.aload_n 0, 1) := by decide +kernel
theorem dL_law_625 : decode code 625 = .ok (.iload_n 3, 1) := by decide +kernel
theorem dL_law_626 : decode code 626 = .ok (.iconst 2, 1) := by decide +kernel
theorem dL_law_627 : decode code 627 = .ok (.iadd, 1) := by decide +kernel
theorem dL_law_628 : decode code 628 = .ok (.iaload, 1) := by decide +kernel
theorem dL_law_629 : decode code 629 = .ok (.invokevirtual 73, 3) := by decide +kernel
theorem dL_law_632 : decode code 632 = .ok (.aload_n 2, 1) := by decide +kernel
theorem dL_law_633 : decode code 633 = .ok (.aload_n 0, 1) := by decide +kernel
theorem dL_law_634 : decode code 634 = .ok (.iload_n 3, 1) := by decide +kernel
theorem dL_law_635 : decode code 635 = .ok (.iconst 1, 1) := by decide +kernel
theorem dL_law_636 : decode code 636 = .ok (.iadd, 1) := by decide +kernel
theorem dL_law_637 : decode code 637 = .ok (.iaload, 1) := by decide +kernel
theorem dL_law_638 : decode code 638 = .ok (.aload_n 0, 1) := by decide +kernel
theorem dL_law_639 : decode code 639 = .ok (.iload_n 3, 1) := by decide +kernel
theorem dL_law_640 : decode code 640 = .ok (.iconst 2, 1) := by decide +kernel
theorem dL_law_641 : decode code 641 = .ok (.iadd, 1) := by decide +kernel
theorem dL_law_642 : decode code 642 = .ok (.iaload, 1) := by decide +kernel
theorem dL_law_643 : decode code 643 = .ok (.invokevirtual 76, 3) := by decide +kernel
theorem dL_law_646 : decode code 646 = .ok (.if_icmp .eq 784, 3) := by decide +kernel
theorem dL_law_649 : decode code 649 = .ok (.iconst 0, 1) := by decide +kernel
theorem dL_law_650 : decode code 650 = .ok (.ireturn, 1) := by decide +kernel
theorem dL_law_651 : decode code 651 = .ok (.aload_n 1, 1) := by decide +kernel
theorem dL_law_652 : decode code 652 = .ok (.aload_n 0, 1) := by decide +kernel
theorem dL_law_653 : decode code 653 = .ok (.iload_n 3, 1) := by decide +kernel
theorem dL_law_654 : decode code 654 = .ok (.iconst 1, 1) := by decide +kernel
theorem dL_law_655 : decode code 655 = .ok (.iadd, 1) := by decide +kernel
theorem dL_law_656 : decode code 656 = .ok (.iaload, 1) := by decide +kernel
theorem dL_law_657 : decode code 657 = .ok (.aload_n 0, 1) := by decide +kernel
theorem dL_law_658 : decode code 658 = .ok (.iload_n 3, 1) := by decide +kernel
theorem dL_law_659 : decode code 659 = .ok (.iconst 2, 1) := by decide +kernel
theorem dL_law_660 : decode code 660 = .ok (.iadd, 1) := by decide +kernel
theorem dL_law_661 : decode code 661 = .ok (.iaload, 1) := by decide +kernel
theorem dL_law_662 : decode code 662 = .ok (.aload_n 0, 1) := by decide +kernel
theorem dL_law_663 : decode code 663 = .ok (.iload_n 3, 1) := by decide +kernel
theorem dL_law_664 : decode code 664 = .ok (.iconst 3, 1) := by decide +kernel
theorem dL_law_665 : decode code 665 = .ok (.iadd, 1) := by decide +kernel
theorem dL_law_666 : decode code 666 = .ok (.iaload, 1) := by decide +kernel
theorem dL_law_667 : decode code 667 = .ok (.invokevirtual 77, 3) := by decide +kernel
theorem dL_law_670 : decode code 670 = .ok (.aload_n 2, 1) := by decide +kernel
theorem dL_law_671 : decode code 671 = .ok (.aload_n 0, 1) := by decide +kernel
theorem dL_law_672 : decode code 672 = .ok (.iload_n 3, 1) := by decide +kernel
theorem dL_law_673 : decode code 673 = .ok (.iconst 1, 1) := by decide +kernel
theorem dL_law_674 : decode code 674 = .ok (.iadd, 1) := by decide +kernel
theorem dL_law_675 : decode code 675 = .ok (.iaload, 1) := by decide +kernel
theorem dL_law_676 : decode code 676 = .ok (.aload_n 0, 1) := by decide +kernel
theorem dL_law_677 : decode code 677 = .ok (.iload_n 3, 1) := by decide +kernel
theorem dL_law_678 : decode code 678 = .ok (.iconst 2, 1) := by decide +kernel
theorem dL_law_679 : decode code 679 = .ok (.iadd, 1) := by decide +kernel
theorem dL_law_680 : decode code 680 = .ok (.iaload, 1) := by decide +kernel
theorem dL_law_681 : decode code 681 = .ok (.aload_n 0, 1) := by decide +kernel
theorem dL_law_682 : decode code 682 = .ok (.iload_n 3, 1) := by decide +kernel
theorem dL_law_683 : decode code 683 = .ok (.iconst 3, 1) := by decide +kernel
theorem dL_law_684 : decode code 684 = .ok (.iadd, 1) := by decide +kernel
theorem dL_law_685 : decode code 685 = .ok (.iaload, 1) := by decide +kernel
theorem dL_law_686 : decode code 686 = .ok (.invokevirtual 80, 3) := by decide +kernel
theorem dL_law_689 : decode code 689 = .ok (.if_icmp .eq 741, 3) := by decide +kernel
theorem dL_law_692 : decode code 692 = .ok (.iconst 0, 1) := by decide +kernel
theorem dL_law_693 : decode code 693 = .ok (.ireturn, 1) := by decide +kernel
theorem dL_law_694 : decode code 694 = .ok (.aload_n 1, 1) := by decide +kernel
theorem dL_law_695 : decode code 695 = .ok (.aload_n 0, 1) := by decide +kernel
theorem dL_law_696 : decode code 696 = .ok (.iload_n 3, 1) := by decide +kernel
theorem dL_law_697 : decode code 697 = .ok (.iconst 1, 1) := by decide +kernel
theorem dL_law_698 : decode code 698 = .ok (.iadd, 1) := by decide +kernel
theorem dL_law_699 : decode code 699 = .ok (.iaload, 1) := by decide +kernel
theorem dL_law_700 : decode code 700 = .ok (.aload_n 0, 1) := by decide +kernel
theorem dL_law_701 : decode code 701 = .ok (.iload_n 3, 1) := by decide +kernel
theorem dL_law_702 : decode code 702 = .ok (.iconst 2, 1) := by decide +kernel
theorem dL_law_703 : decode code 703 = .ok (.iadd, 1) := by decide +kernel
theorem dL_law_704 : decode code 704 = .ok (.iaload, 1) := by decide +kernel
theorem dL_law_705 : decode code 705 = .ok (.invokevirtual 81, 3) := by decide +kernel
theorem dL_law_708 : decode code 708 = .ok (.aload_n 2, 1) := by decide +kernel
theorem dL_law_709 : decode code 709 = .ok (.aload_n 0, 1) := by decide +kernel
theorem dL_law_710 : decode code 710 = .ok (.iload_n 3, 1) := by decide +kernel
theorem dL_law_711 : decode code 711 = .ok (.iconst 1, 1) := by decide +kernel
theorem dL_law_712 : decode code 712 = .ok (.iadd, 1) := by decide +kernel
theorem dL_law_713 : decode code 713 = .ok (.iaload, 1) := by decide +kernel
theorem dL_law_714 : decode code 714 = .ok (.aload_n 0, 1) := by decide +kernel
theorem dL_law_715 : decode code 715 = .ok (.iload_n 3, 1) := by decide +kernel
theorem dL_law_716 : decode code 716 = .ok (.iconst 2, 1) := by decide +kernel
theorem dL_law_717 : decode code 717 = .ok (.iadd, 1) := by decide +kernel
theorem dL_law_718 : decode code 718 = .ok (.iaload, 1) := by decide +kernel
theorem dL_law_719 : decode code 719 = .ok (.invokevirtual 84, 3) := by decide +kernel
theorem dL_law_722 : decode code 722 = .ok (.if_icmp .eq 708, 3) := by decide +kernel
theorem dL_law_725 : decode code 725 = .ok (.iconst 0, 1) := by decide +kernel
theorem dL_law_726 : decode code 726 = .ok (.ireturn, 1) := by decide +kernel
theorem dL_law_727 : decode code 727 = .ok (.aload_n 1, 1) := by decide +kernel
theorem dL_law_728 : decode code 728 = .ok (.aload_n 0, 1) := by decide +kernel
theorem dL_law_729 : decode code 729 = .ok (.iload_n 3, 1) := by decide +kernel
theorem dL_law_730 : decode code 730 = .ok (.iconst 1, 1) := by decide +kernel
theorem dL_law_731 : decode code 731 = .ok (.iadd, 1) := by decide +kernel
theorem dL_law_732 : decode code 732 = .ok (.iaload, 1) := by decide +kernel
theorem dL_law_733 : decode code 733 = .ok (.aload_n 0, 1) := by decide +kernel
theorem dL_law_734 : decode code 734 = .ok (.iload_n 3, 1) := by decide +kernel
theorem dL_law_735 : decode code 735 = .ok (.iconst 2, 1) := by decide +kernel
theorem dL_law_736 : decode code 736 = .ok (.iadd, 1) := by decide +kernel
theorem dL_law_737 : decode code 737 = .ok (.iaload, 1) := by decide +kernel
theorem dL_law_738 : decode code 738 = .ok (.aload_n 0, 1) := by decide +kernel
theorem dL_law_739 : decode code 739 = .ok (.iload_n 3, 1) := by decide +kernel
theorem dL_law_740 : decode code 740 = .ok (.iconst 3, 1) := by decide +kernel
theorem dL_law_741 : decode code 741 = .ok (.iadd, 1) := by decide +kernel
theorem dL_law_742 : decode code 742 = .ok (.iaload, 1) := by decide +kernel
theorem dL_law_743 : decode code 743 = .ok (.aload_n 0, 1) := by decide +kernel
theorem dL_law_744 : decode code 744 = .ok (.iload_n 3, 1) := by decide +kernel
theorem dL_law_745 : decode code 745 = .ok (.iconst 4, 1) := by decide +kernel
theorem dL_law_746 : decode code 746 = .ok (.iadd, 1) := by decide +kernel
theorem dL_law_747 : decode code 747 = .ok (.iaload, 1) := by decide +kernel
theorem dL_law_748 : decode code 748 = .ok (.aload_n 0, 1) := by decide +kernel
theorem dL_law_749 : decode code 749 = .ok (.iload_n 3, 1) := by decide +kernel
theorem dL_law_750 : decode code 750 = .ok (.iconst 5, 1) := by decide +kernel
theorem dL_law_751 : decode code 751 = .ok (.iadd, 1) := by decide +kernel
theorem dL_law_752 : decode code 752 = .ok (.iaload, 1) := by decide +kernel
theorem dL_law_753 : decode code 753 = .ok (.invokevirtual 85, 3) := by decide +kernel
theorem dL_law_756 : decode code 756 = .ok (.aload_n 2, 1) := by decide +kernel
theorem dL_law_757 : decode code 757 = .ok (.aload_n 0, 1) := by decide +kernel
theorem dL_law_758 : decode code 758 = .ok (.iload_n 3, 1) := by decide +kernel
theorem dL_law_759 : decode code 759 = .ok (.iconst 1, 1) := by decide +kernel
theorem dL_law_760 : decode code 760 = .ok (.iadd, 1) := by decide +kernel
theorem dL_law_761 : decode code 761 = .ok (.iaload, 1) := by decide +kernel
theorem dL_law_762 : decode code 762 = .ok (.aload_n 0, 1) := by decide +kernel
theorem dL_law_763 : decode code 763 = .ok (.iload_n 3, 1) := by decide +kernel
theorem dL_law_764 : decode code 764 = .ok (.iconst 2, 1) := by decide +kernel
theorem dL_law_765 : decode code 765 = .ok (.iadd, 1) := by decide +kernel
theorem dL_law_766 : decode code 766 = .ok (.iaload, 1) := by decide +kernel
theorem dL_law_767 : decode code 767 = .ok (.aload_n 0, 1) := by decide +kernel
theorem dL_law_768 : decode code 768 = .ok (.iload_n 3, 1) := by decide +kernel
theorem dL_law_769 : decode code 769 = .ok (.iconst 3, 1) := by decide +kernel
theorem dL_law_770 : decode code 770 = .ok (.iadd, 1) := by decide +kernel
theorem dL_law_771 : decode code 771 = .ok (.iaload, 1) := by decide +kernel
theorem dL_law_772 : decode code 772 = .ok (.aload_n 0, 1) := by decide +kernel
theorem dL_law_773 : decode code 773 = .ok (.iload_n 3, 1) := by decide +kernel
theorem dL_law_774 : decode code 774 = .ok (.iconst 4, 1) := by decide +kernel
theorem dL_law_775 : decode code 775 = .ok (.iadd, 1) := by decide +kernel
theorem dL_law_776 : decode code 776 = .ok (.iaload, 1) := by decide +kernel
theorem dL_law_777 : decode code 777 = .ok (.aload_n 0, 1) := by decide +kernel
theorem dL_law_778 : decode code 778 = .ok (.iload_n 3, 1) := by decide +kernel
theorem dL_law_779 : decode code 779 = .ok (.iconst 5, 1) := by decide +kernel
theorem dL_law_780 : decode code 780 = .ok (.iadd, 1) := by decide +kernel
theorem dL_law_781 : decode code 781 = .ok (.iaload, 1) := by decide +kernel
theorem dL_law_782 : decode code 782 = .ok (.invokevirtual 89, 3) := by decide +kernel
theorem dL_law_785 : decode code 785 = .ok (.if_icmp .eq 645, 3) := by decide +kernel
theorem dL_law_788 : decode code 788 = .ok (.iconst 0, 1) := by decide +kernel
theorem dL_law_789 : decode code 789 = .ok (.ireturn, 1) := by decide +kernel
theorem dL_law_790 : decode code 790 = .ok (.aload_n 1, 1) := by decide +kernel
theorem dL_law_791 : decode code 791 = .ok (.aload_n 0, 1) := by decide +kernel
theorem dL_law_792 : decode code 792 = .ok (.iload_n 3, 1) := by decide +kernel
theorem dL_law_793 : decode code 793 = .ok (.iconst 1, 1) := by decide +kernel
theorem dL_law_794 : decode code 794 = .ok (.iadd, 1) := by decide +kernel
theorem dL_law_795 : decode code 795 = .ok (.iaload, 1) := by decide +kernel
theorem dL_law_796 : decode code 796 = .ok (.aload_n 0, 1) := by decide +kernel
theorem dL_law_797 : decode code 797 = .ok (.iload_n 3, 1) := by decide +kernel
theorem dL_law_798 : decode code 798 = .ok (.iconst 2, 1) := by decide +kernel
theorem dL_law_799 : decode code 799 = .ok (.iadd, 1) := by decide +kernel
theorem dL_law_800 : decode code 800 = .ok (.iaload, 1) := by decide +kernel
theorem dL_law_801 : decode code 801 = .ok (.invokevirtual 90, 3) := by decide +kernel
theorem dL_law_804 : decode code 804 = .ok (.aload_n 2, 1) := by decide +kernel
theorem dL_law_805 : decode code 805 = .ok (.aload_n 0, 1) := by decide +kernel
theorem dL_law_806 : decode code 806 = .ok (.iload_n 3, 1) := by decide +kernel
theorem dL_law_807 : decode code 807 = .ok (.iconst 1, 1) := by decide +kernel
theorem dL_law_808 : decode code 808 = .ok (.iadd, 1) := by decide +kernel
theorem dL_law_809 : decode code 809 = .ok (.iaload, 1) := by decide +kernel
theorem dL_law_810 : decode code 810 = .ok (.aload_n 0, 1) := by decide +kernel
theorem dL_law_811 : decode code 811 = .ok (.iload_n 3, 1) := by decide +kernel
theorem dL_law_812 : decode code 812 = .ok (.iconst 2, 1) := by decide +kernel
theorem dL_law_813 : decode code 813 = .ok (.iadd, 1) := by decide +kernel
theorem dL_law_814 : decode code 814 = .ok (.iaload, 1) := by decide +kernel
theorem dL_law_815 : decode code 815 = .ok (.invokevirtual 93, 3) := by decide +kernel
theorem dL_law_818 : decode code 818 = .ok (.if_icmp .eq 612, 3) := by decide +kernel
theorem dL_law_821 : decode code 821 = .ok (.iconst 0, 1) := by decide +kernel
theorem dL_law_822 : decode code 822 = .ok (.ireturn, 1) := by decide +kernel
theorem dL_law_823 : decode code 823 = .ok (.aload_n 1, 1) := by decide +kernel
theorem dL_law_824 : decode code 824 = .ok (.aload_n 0, 1) := by decide +kernel
theorem dL_law_825 : decode code 825 = .ok (.iload_n 3, 1) := by decide +kernel
theorem dL_law_826 : decode code 826 = .ok (.iconst 1, 1) := by decide +kernel
theorem dL_law_827 : decode code 827 = .ok (.iadd, 1) := by decide +kernel
theorem dL_law_828 : decode code 828 = .ok (.iaload, 1) := by decide +kernel
theorem dL_law_829 : decode code 829 = .ok (.aload_n 0, 1) := by decide +kernel
theorem dL_law_830 : decode code 830 = .ok (.iload_n 3, 1) := by decide +kernel
theorem dL_law_831 : decode code 831 = .ok (.iconst 2, 1) := by decide +kernel
theorem dL_law_832 : decode code 832 = .ok (.iadd, 1) := by decide +kernel
theorem dL_law_833 : decode code 833 = .ok (.iaload, 1) := by decide +kernel
theorem dL_law_834 : decode code 834 = .ok (.invokevirtual 94, 3) := by decide +kernel
theorem dL_law_837 : decode code 837 = .ok (.aload_n 2, 1) := by decide +kernel
theorem dL_law_838 : decode code 838 = .ok (.aload_n 0, 1) := by decide +kernel
theorem dL_law_839 : decode code 839 = .ok (.iload_n 3, 1) := by decide +kernel
theorem dL_law_840 : decode code 840 = .ok (.iconst 1, 1) := by decide +kernel
theorem dL_law_841 : decode code 841 = .ok (.iadd, 1) := by decide +kernel
theorem dL_law_842 : decode code 842 = .ok (.iaload, 1) := by decide +kernel
theorem dL_law_843 : decode code 843 = .ok (.aload_n 0, 1) := by decide +kernel
theorem dL_law_844 : decode code 844 = .ok (.iload_n 3, 1) := by decide +kernel
theorem dL_law_845 : decode code 845 = .ok (.iconst 2, 1) := by decide +kernel
theorem dL_law_846 : decode code 846 = .ok (.iadd, 1) := by decide +kernel
theorem dL_law_847 : decode code 847 = .ok (.iaload, 1) := by decide +kernel
theorem dL_law_848 : decode code 848 = .ok (.invokevirtual 97, 3) := by decide +kernel
theorem dL_law_851 : decode code 851 = .ok (.if_icmp .eq 579, 3) := by decide +kernel
theorem dL_law_854 : decode code 854 = .ok (.iconst 0, 1) := by decide +kernel
theorem dL_law_855 : decode code 855 = .ok (.ireturn, 1) := by decide +kernel
theorem dL_law_856 : decode code 856 = .ok (.aload_n 1, 1) := by decide +kernel
theorem dL_law_857 : decode code 857 = .ok (.aload_n 0, 1) := by decide +kernel
theorem dL_law_858 : decode code 858 = .ok (.iload_n 3, 1) := by decide +kernel
theorem dL_law_859 : decode code 859 = .ok (.iconst 1, 1) := by decide +kernel
theorem dL_law_860 : decode code 860 = .ok (.iadd, 1) := by decide +kernel
theorem dL_law_861 : decode code 861 = .ok (.iaload, 1) := by decide +kernel
theorem dL_law_862 : decode code 862 = .ok (.aload_n 0, 1) := by decide +kernel
theorem dL_law_863 : decode code 863 = .ok (.iload_n 3, 1) := by decide +kernel
theorem dL_law_864 : decode code 864 = .ok (.iconst 2, 1) := by decide +kernel
theorem dL_law_865 : decode code 865 = .ok (.iadd, 1) := by decide +kernel
theorem dL_law_866 : decode code 866 = .ok (.iaload, 1) := by decide +kernel
theorem dL_law_867 : decode code 867 = .ok (.invokevirtual 98, 3) := by decide +kernel
theorem dL_law_870 : decode code 870 = .ok (.aload_n 2, 1) := by decide +kernel
theorem dL_law_871 : decode code 871 = .ok (.aload_n 0, 1) := by decide +kernel
theorem dL_law_872 : decode code 872 = .ok (.iload_n 3, 1) := by decide +kernel
theorem dL_law_873 : decode code 873 = .ok (.iconst 1, 1) := by decide +kernel
theorem dL_law_874 : decode code 874 = .ok (.iadd, 1) := by decide +kernel
theorem dL_law_875 : decode code 875 = .ok (.iaload, 1) := by decide +kernel
theorem dL_law_876 : decode code 876 = .ok (.aload_n 0, 1) := by decide +kernel
theorem dL_law_877 : decode code 877 = .ok (.iload_n 3, 1) := by decide +kernel
theorem dL_law_878 : decode code 878 = .ok (.iconst 2, 1) := by decide +kernel
theorem dL_law_879 : decode code 879 = .ok (.iadd, 1) := by decide +kernel
theorem dL_law_880 : decode code 880 = .ok (.iaload, 1) := by decide +kernel
theorem dL_law_881 : decode code 881 = .ok (.invokevirtual 101, 3) := by decide +kernel
theorem dL_law_884 : decode code 884 = .ok (.if_icmp .eq 546, 3) := by decide +kernel
theorem dL_law_887 : decode code 887 = .ok (.iconst 0, 1) := by decide +kernel
theorem dL_law_888 : decode code 888 = .ok (.ireturn, 1) := by decide +kernel
theorem dL_law_889 : decode code 889 = .ok (.aload_n 1, 1) := by decide +kernel
theorem dL_law_890 : decode code 890 = .ok (.invokevirtual 102, 3) := by decide +kernel
theorem dL_law_893 : decode code 893 = .ok (.aload_n 2, 1) := by decide +kernel
theorem dL_law_894 : decode code 894 = .ok (.invokevirtual 105, 3) := by decide +kernel
theorem dL_law_897 : decode code 897 = .ok (.if_icmp .eq 533, 3) := by decide +kernel
theorem dL_law_900 : decode code 900 = .ok (.iconst 0, 1) := by decide +kernel
theorem dL_law_901 : decode code 901 = .ok (.ireturn, 1) := by decide +kernel
theorem dL_law_902 : decode code 902 = .ok (.aload_n 1, 1) := by decide +kernel
theorem dL_law_903 : decode code 903 = .ok (.aload_n 0, 1) := by decide +kernel
theorem dL_law_904 : decode code 904 = .ok (.iload_n 3, 1) := by decide +kernel
theorem dL_law_905 : decode code 905 = .ok (.iconst 1, 1) := by decide +kernel
theorem dL_law_906 : decode code 906 = .ok (.iadd, 1) := by decide +kernel
theorem dL_law_907 : decode code 907 = .ok (.iaload, 1) := by decide +kernel
theorem dL_law_908 : decode code 908 = .ok (.invokevirtual 106, 3) := by decide +kernel
theorem dL_law_911 : decode code 911 = .ok (.aload_n 2, 1) := by decide +kernel
theorem dL_law_912 : decode code 912 = .ok (.aload_n 0, 1) := by decide +kernel
theorem dL_law_913 : decode code 913 = .ok (.iload_n 3, 1) := by decide +kernel
theorem dL_law_914 : decode code 914 = .ok (.iconst 1, 1) := by decide +kernel
theorem dL_law_915 : decode code 915 = .ok (.iadd, 1) := by decide +kernel
theorem dL_law_916 : decode code 916 = .ok (.iaload, 1) := by decide +kernel
theorem dL_law_917 : decode code 917 = .ok (.invokevirtual 109, 3) := by decide +kernel
theorem dL_law_920 : decode code 920 = .ok (.if_icmp .eq 510, 3) := by decide +kernel
theorem dL_law_923 : decode code 923 = .ok (.iconst 0, 1) := by decide +kernel
theorem dL_law_924 : decode code 924 = .ok (.ireturn, 1) := by decide +kernel
theorem dL_law_925 : decode code 925 = .ok (.aload_n 1, 1) := by decide +kernel
theorem dL_law_926 : decode code 926 = .ok (.aload_n 0, 1) := by decide +kernel
theorem dL_law_927 : decode code 927 = .ok (.iload_n 3, 1) := by decide +kernel
theorem dL_law_928 : decode code 928 = .ok (.iconst 1, 1) := by decide +kernel
theorem dL_law_929 : decode code 929 = .ok (.iadd, 1) := by decide +kernel
theorem dL_law_930 : decode code 930 = .ok (.iaload, 1) := by decide +kernel
theorem dL_law_931 : decode code 931 = .ok (.aload_n 0, 1) := by decide +kernel
theorem dL_law_932 : decode code 932 = .ok (.iload_n 3, 1) := by decide +kernel
theorem dL_law_933 : decode code 933 = .ok (.iconst 2, 1) := by decide +kernel
theorem dL_law_934 : decode code 934 = .ok (.iadd, 1) := by decide +kernel
theorem dL_law_935 : decode code 935 = .ok (.iaload, 1) := by decide +kernel
theorem dL_law_936 : decode code 936 = .ok (.invokevirtual 110, 3) := by decide +kernel
theorem dL_law_939 : decode code 939 = .ok (.aload_n 2, 1) := by decide +kernel
theorem dL_law_940 : decode code 940 = .ok (.aload_n 0, 1) := by decide +kernel
theorem dL_law_941 : decode code 941 = .ok (.iload_n 3, 1) := by decide +kernel
theorem dL_law_942 : decode code 942 = .ok (.iconst 1, 1) := by decide +kernel
theorem dL_law_943 : decode code 943 = .ok (.iadd, 1) := by decide +kernel
theorem dL_law_944 : decode code 944 = .ok (.iaload, 1) := by decide +kernel
theorem dL_law_945 : decode code 945 = .ok (.aload_n 0, 1) := by decide +kernel
theorem dL_law_946 : decode code 946 = .ok (.iload_n 3, 1) := by decide +kernel
theorem dL_law_947 : decode code 947 = .ok (.iconst 2, 1) := by decide +kernel
theorem dL_law_948 : decode code 948 = .ok (.iadd, 1) := by decide +kernel
theorem dL_law_949 : decode code 949 = .ok (.iaload, 1) := by decide +kernel
theorem dL_law_950 : decode code 950 = .ok (.invokevirtual 113, 3) := by decide +kernel
theorem dL_law_953 : decode code 953 = .ok (.if_icmp .eq 477, 3) := by decide +kernel
theorem dL_law_956 : decode code 956 = .ok (.iconst 0, 1) := by decide +kernel
theorem dL_law_957 : decode code 957 = .ok (.ireturn, 1) := by decide +kernel
theorem dL_law_958 : decode code 958 = .ok (.aload_n 1, 1) := by decide +kernel
theorem dL_law_959 : decode code 959 = .ok (.invokevirtual 114, 3) := by decide +kernel
theorem dL_law_962 : decode code 962 = .ok (.aload_n 2, 1) := by decide +kernel
theorem dL_law_963 : decode code 963 = .ok (.invokevirtual 117, 3) := by decide +kernel
theorem dL_law_966 : decode code 966 = .ok (.if_icmp .eq 464, 3) := by decide +kernel
theorem dL_law_969 : decode code 969 = .ok (.iconst 0, 1) := by decide +kernel
theorem dL_law_970 : decode code 970 = .ok (.ireturn, 1) := by decide +kernel
theorem dL_law_971 : decode code 971 = .ok (.aload_n 1, 1) := by decide +kernel
theorem dL_law_972 : decode code 972 = .ok (.invokevirtual 118, 3) := by decide +kernel
theorem dL_law_975 : decode code 975 = .ok (.aload_n 2, 1) := by decide +kernel
theorem dL_law_976 : decode code 976 = .ok (.invokevirtual 121, 3) := by decide +kernel
theorem dL_law_979 : decode code 979 = .ok (.if_icmp .eq 451, 3) := by decide +kernel
theorem dL_law_982 : decode code 982 = .ok (.iconst 0, 1) := by decide +kernel
theorem dL_law_983 : decode code 983 = .ok (.ireturn, 1) := by decide +kernel
theorem dL_law_984 : decode code 984 = .ok (.aload_n 1, 1) := by decide +kernel
theorem dL_law_985 : decode code 985 = .ok (.aload_n 0, 1) := by decide +kernel
theorem dL_law_986 : decode code 986 = .ok (.iload_n 3, 1) := by decide +kernel
theorem dL_law_987 : decode code 987 = .ok (.iconst 1, 1) := by decide +kernel
theorem dL_law_988 : decode code 988 = .ok (.iadd, 1) := by decide +kernel
theorem dL_law_989 : decode code 989 = .ok (.iaload, 1) := by decide +kernel
theorem dL_law_990 : decode code 990 = .ok (.aload_n 0, 1) := by decide +kernel
theorem dL_law_991 : decode code 991 = .ok (.iload_n 3, 1) := by decide +kernel
theorem dL_law_992 : decode code 992 = .ok (.iconst 2, 1) := by decide +kernel
theorem dL_law_993 : decode code 993 = .ok (.iadd, 1) := by decide +kernel
theorem dL_law_994 : decode code 994 = .ok (.iaload, 1) := by decide +kernel
theorem dL_law_995 : decode code 995 = .ok (.invokevirtual 122, 3) := by decide +kernel
theorem dL_law_998 : decode code 998 = .ok (.aload_n 2, 1) := by decide +kernel
theorem dL_law_999 : decode code 999 = .ok (.aload_n 0, 1) := by decide +kernel
theorem dL_law_1000 : decode code 1000 = .ok (.iload_n 3, 1) := by decide +kernel
theorem dL_law_1001 : decode code 1001 = .ok (.iconst 1, 1) := by decide +kernel
theorem dL_law_1002 : decode code 1002 = .ok (.iadd, 1) := by decide +kernel
theorem dL_law_1003 : decode code 1003 = .ok (.iaload, 1) := by decide +kernel
theorem dL_law_1004 : decode code 1004 = .ok (.aload_n 0, 1) := by decide +kernel
theorem dL_law_1005 : decode code 1005 = .ok (.iload_n 3, 1) := by decide +kernel
theorem dL_law_1006 : decode code 1006 = .ok (.iconst 2, 1) := by decide +kernel
theorem dL_law_1007 : decode code 1007 = .ok (.iadd, 1) := by decide +kernel
theorem dL_law_1008 : decode code 1008 = .ok (.iaload, 1) := by decide +kernel
theorem dL_law_1009 : decode code 1009 = .ok (.invokevirtual 125, 3) := by decide +kernel
theorem dL_law_1012 : decode code 1012 = .ok (.if_icmp .eq 418, 3) := by decide +kernel
theorem dL_law_1015 : decode code 1015 = .ok (.iconst 0, 1) := by decide +kernel
theorem dL_law_1016 : decode code 1016 = .ok (.ireturn, 1) := by decide +kernel
theorem dL_law_1017 : decode code 1017 = .ok (.aload_n 1, 1) := by decide +kernel
theorem dL_law_1018 : decode code 1018 = .ok (.aload_n 0, 1) := by decide +kernel
theorem dL_law_1019 : decode code 1019 = .ok (.iload_n 3, 1) := by decide +kernel
theorem dL_law_1020 : decode code 1020 = .ok (.iconst 1, 1) := by decide +kernel
theorem dL_law_1021 : decode code 1021 = .ok (.iadd, 1) := by decide +kernel
theorem dL_law_1022 : decode code 1022 = .ok (.iaload, 1) := by decide +kernel
theorem dL_law_1023 : decode code 1023 = .ok (.aload_n 0, 1) := by decide +kernel
theorem dL_law_1024 : decode code 1024 = .ok (.iload_n 3, 1) := by decide +kernel
theorem dL_law_1025 : decode code 1025 = .ok (.iconst 2, 1) := by decide +kernel
theorem dL_law_1026 : decode code 1026 = .ok (.iadd, 1) := by decide +kernel
theorem dL_law_1027 : decode code 1027 = .ok (.iaload, 1) := by decide +kernel
theorem dL_law_1028 : decode code 1028 = .ok (.aload_n 0, 1) := by decide +kernel
theorem dL_law_1029 : decode code 1029 = .ok (.iload_n 3, 1) := by decide +kernel
theorem dL_law_1030 : decode code 1030 = .ok (.iconst 3, 1) := by decide +kernel
theorem dL_law_1031 : decode code 1031 = .ok (.iadd, 1) := by decide +kernel
theorem dL_law_1032 : decode code 1032 = .ok (.iaload, 1) := by decide +kernel
theorem dL_law_1033 : decode code 1033 = .ok (.aload_n 0, 1) := by decide +kernel
theorem dL_law_1034 : decode code 1034 = .ok (.iload_n 3, 1) := by decide +kernel
theorem dL_law_1035 : decode code 1035 = .ok (.iconst 4, 1) := by decide +kernel
theorem dL_law_1036 : decode code 1036 = .ok (.iadd, 1) := by decide +kernel
theorem dL_law_1037 : decode code 1037 = .ok (.iaload, 1) := by decide +kernel
theorem dL_law_1038 : decode code 1038 = .ok (.invokevirtual 126, 3) := by decide +kernel
theorem dL_law_1041 : decode code 1041 = .ok (.aload_n 2, 1) := by decide +kernel
theorem dL_law_1042 : decode code 1042 = .ok (.aload_n 0, 1) := by decide +kernel
theorem dL_law_1043 : decode code 1043 = .ok (.iload_n 3, 1) := by decide +kernel
theorem dL_law_1044 : decode code 1044 = .ok (.iconst 1, 1) := by decide +kernel
theorem dL_law_1045 : decode code 1045 = .ok (.iadd, 1) := by decide +kernel
theorem dL_law_1046 : decode code 1046 = .ok (.iaload, 1) := by decide +kernel
theorem dL_law_1047 : decode code 1047 = .ok (.aload_n 0, 1) := by decide +kernel
theorem dL_law_1048 : decode code 1048 = .ok (.iload_n 3, 1) := by decide +kernel
theorem dL_law_1049 : decode code 1049 = .ok (.iconst 2, 1) := by decide +kernel
theorem dL_law_1050 : decode code 1050 = .ok (.iadd, 1) := by decide +kernel
theorem dL_law_1051 : decode code 1051 = .ok (.iaload, 1) := by decide +kernel
theorem dL_law_1052 : decode code 1052 = .ok (.aload_n 0, 1) := by decide +kernel
theorem dL_law_1053 : decode code 1053 = .ok (.iload_n 3, 1) := by decide +kernel
theorem dL_law_1054 : decode code 1054 = .ok (.iconst 3, 1) := by decide +kernel
theorem dL_law_1055 : decode code 1055 = .ok (.iadd, 1) := by decide +kernel
theorem dL_law_1056 : decode code 1056 = .ok (.iaload, 1) := by decide +kernel
theorem dL_law_1057 : decode code 1057 = .ok (.aload_n 0, 1) := by decide +kernel
theorem dL_law_1058 : decode code 1058 = .ok (.iload_n 3, 1) := by decide +kernel
theorem dL_law_1059 : decode code 1059 = .ok (.iconst 4, 1) := by decide +kernel
theorem dL_law_1060 : decode code 1060 = .ok (.iadd, 1) := by decide +kernel
theorem dL_law_1061 : decode code 1061 = .ok (.iaload, 1) := by decide +kernel
theorem dL_law_1062 : decode code 1062 = .ok (.invokevirtual 130, 3) := by decide +kernel
theorem dL_law_1065 : decode code 1065 = .ok (.if_icmp .eq 365, 3) := by decide +kernel
theorem dL_law_1068 : decode code 1068 = .ok (.iconst 0, 1) := by decide +kernel
theorem dL_law_1069 : decode code 1069 = .ok (.ireturn, 1) := by decide +kernel
theorem dL_law_1070 : decode code 1070 = .ok (.aload_n 1, 1) := by decide +kernel
theorem dL_law_1071 : decode code 1071 = .ok (.aload_n 0, 1) := by decide +kernel
theorem dL_law_1072 : decode code 1072 = .ok (.iload_n 3, 1) := by decide +kernel
theorem dL_law_1073 : decode code 1073 = .ok (.iconst 1, 1) := by decide +kernel
theorem dL_law_1074 : decode code 1074 = .ok (.iadd, 1) := by decide +kernel
theorem dL_law_1075 : decode code 1075 = .ok (.iaload, 1) := by decide +kernel
theorem dL_law_1076 : decode code 1076 = .ok (.aload_n 0, 1) := by decide +kernel
theorem dL_law_1077 : decode code 1077 = .ok (.iload_n 3, 1) := by decide +kernel
theorem dL_law_1078 : decode code 1078 = .ok (.iconst 2, 1) := by decide +kernel
theorem dL_law_1079 : decode code 1079 = .ok (.iadd, 1) := by decide +kernel
theorem dL_law_1080 : decode code 1080 = .ok (.iaload, 1) := by decide +kernel
theorem dL_law_1081 : decode code 1081 = .ok (.invokevirtual 131, 3) := by decide +kernel
theorem dL_law_1084 : decode code 1084 = .ok (.aload_n 2, 1) := by decide +kernel
theorem dL_law_1085 : decode code 1085 = .ok (.aload_n 0, 1) := by decide +kernel
theorem dL_law_1086 : decode code 1086 = .ok (.iload_n 3, 1) := by decide +kernel
theorem dL_law_1087 : decode code 1087 = .ok (.iconst 1, 1) := by decide +kernel
theorem dL_law_1088 : decode code 1088 = .ok (.iadd, 1) := by decide +kernel
theorem dL_law_1089 : decode code 1089 = .ok (.iaload, 1) := by decide +kernel
theorem dL_law_1090 : decode code 1090 = .ok (.aload_n 0, 1) := by decide +kernel
theorem dL_law_1091 : decode code 1091 = .ok (.iload_n 3, 1) := by decide +kernel
theorem dL_law_1092 : decode code 1092 = .ok (.iconst 2, 1) := by decide +kernel
theorem dL_law_1093 : decode code 1093 = .ok (.iadd, 1) := by decide +kernel
theorem dL_law_1094 : decode code 1094 = .ok (.iaload, 1) := by decide +kernel
theorem dL_law_1095 : decode code 1095 = .ok (.invokevirtual 134, 3) := by decide +kernel
theorem dL_law_1098 : decode code 1098 = .ok (.if_icmp .eq 332, 3) := by decide +kernel
theorem dL_law_1101 : decode code 1101 = .ok (.iconst 0, 1) := by decide +kernel
theorem dL_law_1102 : decode code 1102 = .ok (.ireturn, 1) := by decide +kernel
theorem dL_law_1103 : decode code 1103 = .ok (.aload_n 1, 1) := by decide +kernel
theorem dL_law_1104 : decode code 1104 = .ok (.aload_n 0, 1) := by decide +kernel
theorem dL_law_1105 : decode code 1105 = .ok (.iload_n 3, 1) := by decide +kernel
theorem dL_law_1106 : decode code 1106 = .ok (.iconst 1, 1) := by decide +kernel
theorem dL_law_1107 : decode code 1107 = .ok (.iadd, 1) := by decide +kernel
theorem dL_law_1108 : decode code 1108 = .ok (.iaload, 1) := by decide +kernel
theorem dL_law_1109 : decode code 1109 = .ok (.aload_n 0, 1) := by decide +kernel
theorem dL_law_1110 : decode code 1110 = .ok (.iload_n 3, 1) := by decide +kernel
theorem dL_law_1111 : decode code 1111 = .ok (.iconst 2, 1) := by decide +kernel
theorem dL_law_1112 : decode code 1112 = .ok (.iadd, 1) := by decide +kernel
theorem dL_law_1113 : decode code 1113 = .ok (.iaload, 1) := by decide +kernel
theorem dL_law_1114 : decode code 1114 = .ok (.invokevirtual 135, 3) := by decide +kernel
theorem dL_law_1117 : decode code 1117 = .ok (.aload_n 2, 1) := by decide +kernel
theorem dL_law_1118 : decode code 1118 = .ok (.aload_n 0, 1) := by decide +kernel
theorem dL_law_1119 : decode code 1119 = .ok (.iload_n 3, 1) := by decide +kernel
theorem dL_law_1120 : decode code 1120 = .ok (.iconst 1, 1) := by decide +kernel
theorem dL_law_1121 : decode code 1121 = .ok (.iadd, 1) := by decide +kernel
theorem dL_law_1122 : decode code 1122 = .ok (.iaload, 1) := by decide +kernel
theorem dL_law_1123 : decode code 1123 = .ok (.aload_n 0, 1) := by decide +kernel
theorem dL_law_1124 : decode code 1124 = .ok (.iload_n 3, 1) := by decide +kernel
theorem dL_law_1125 : decode code 1125 = .ok (.iconst 2, 1) := by decide +kernel
theorem dL_law_1126 : decode code 1126 = .ok (.iadd, 1) := by decide +kernel
theorem dL_law_1127 : decode code 1127 = .ok (.iaload, 1) := by decide +kernel
theorem dL_law_1128 : decode code 1128 = .ok (.invokevirtual 138, 3) := by decide +kernel
theorem dL_law_1131 : decode code 1131 = .ok (.if_icmp .eq 299, 3) := by decide +kernel
theorem dL_law_1134 : decode code 1134 = .ok (.iconst 0, 1) := by decide +kernel
theorem dL_law_1135 : decode code 1135 = .ok (.ireturn, 1) := by decide +kernel
theorem dL_law_1136 : decode code 1136 = .ok (.aload_n 1, 1) := by decide +kernel
theorem dL_law_1137 : decode code 1137 = .ok (.aload_n 0, 1) := by decide +kernel
theorem dL_law_1138 : decode code 1138 = .ok (.iload_n 3, 1) := by decide +kernel
theorem dL_law_1139 : decode code 1139 = .ok (.iconst 1, 1) := by decide +kernel
theorem dL_law_1140 : decode code 1140 = .ok (.iadd, 1) := by decide +kernel
theorem dL_law_1141 : decode code 1141 = .ok (.iaload, 1) := by decide +kernel
theorem dL_law_1142 : decode code 1142 = .ok (.aload_n 0, 1) := by decide +kernel
theorem dL_law_1143 : decode code 1143 = .ok (.iload_n 3, 1) := by decide +kernel
theorem dL_law_1144 : decode code 1144 = .ok (.iconst 2, 1) := by decide +kernel
theorem dL_law_1145 : decode code 1145 = .ok (.iadd, 1) := by decide +kernel
theorem dL_law_1146 : decode code 1146 = .ok (.iaload, 1) := by decide +kernel
theorem dL_law_1147 : decode code 1147 = .ok (.invokevirtual 139, 3) := by decide +kernel
theorem dL_law_1150 : decode code 1150 = .ok (.aload_n 2, 1) := by decide +kernel
theorem dL_law_1151 : decode code 1151 = .ok (.aload_n 0, 1) := by decide +kernel
theorem dL_law_1152 : decode code 1152 = .ok (.iload_n 3, 1) := by decide +kernel
theorem dL_law_1153 : decode code 1153 = .ok (.iconst 1, 1) := by decide +kernel
theorem dL_law_1154 : decode code 1154 = .ok (.iadd, 1) := by decide +kernel
theorem dL_law_1155 : decode code 1155 = .ok (.iaload, 1) := by decide +kernel
theorem dL_law_1156 : decode code 1156 = .ok (.aload_n 0, 1) := by decide +kernel
theorem dL_law_1157 : decode code 1157 = .ok (.iload_n 3, 1) := by decide +kernel
theorem dL_law_1158 : decode code 1158 = .ok (.iconst 2, 1) := by decide +kernel
theorem dL_law_1159 : decode code 1159 = .ok (.iadd, 1) := by decide +kernel
theorem dL_law_1160 : decode code 1160 = .ok (.iaload, 1) := by decide +kernel
theorem dL_law_1161 : decode code 1161 = .ok (.invokevirtual 142, 3) := by decide +kernel
theorem dL_law_1164 : decode code 1164 = .ok (.if_icmp .eq 266, 3) := by decide +kernel
theorem dL_law_1167 : decode code 1167 = .ok (.iconst 0, 1) := by decide +kernel
theorem dL_law_1168 : decode code 1168 = .ok (.ireturn, 1) := by decide +kernel
theorem dL_law_1169 : decode code 1169 = .ok (.aload_n 1, 1) := by decide +kernel
theorem dL_law_1170 : decode code 1170 = .ok (.aload_n 0, 1) := by decide +kernel
theorem dL_law_1171 : decode code 1171 = .ok (.iload_n 3, 1) := by decide +kernel
theorem dL_law_1172 : decode code 1172 = .ok (.iconst 1, 1) := by decide +kernel
theorem dL_law_1173 : decode code 1173 = .ok (.iadd, 1) := by decide +kernel
theorem dL_law_1174 : decode code 1174 = .ok (.iaload, 1) := by decide +kernel
theorem dL_law_1175 : decode code 1175 = .ok (.aload_n 0, 1) := by decide +kernel
theorem dL_law_1176 : decode code 1176 = .ok (.iload_n 3, 1) := by decide +kernel
theorem dL_law_1177 : decode code 1177 = .ok (.iconst 2, 1) := by decide +kernel
theorem dL_law_1178 : decode code 1178 = .ok (.iadd, 1) := by decide +kernel
theorem dL_law_1179 : decode code 1179 = .ok (.iaload, 1) := by decide +kernel
theorem dL_law_1180 : decode code 1180 = .ok (.invokevirtual 143, 3) := by decide +kernel
theorem dL_law_1183 : decode code 1183 = .ok (.aload_n 2, 1) := by decide +kernel
theorem dL_law_1184 : decode code 1184 = .ok (.aload_n 0, 1) := by decide +kernel
theorem dL_law_1185 : decode code 1185 = .ok (.iload_n 3, 1) := by decide +kernel
theorem dL_law_1186 : decode code 1186 = .ok (.iconst 1, 1) := by decide +kernel
theorem dL_law_1187 : decode code 1187 = .ok (.iadd, 1) := by decide +kernel
theorem dL_law_1188 : decode code 1188 = .ok (.iaload, 1) := by decide +kernel
theorem dL_law_1189 : decode code 1189 = .ok (.aload_n 0, 1) := by decide +kernel
theorem dL_law_1190 : decode code 1190 = .ok (.iload_n 3, 1) := by decide +kernel
theorem dL_law_1191 : decode code 1191 = .ok (.iconst 2, 1) := by decide +kernel
theorem dL_law_1192 : decode code 1192 = .ok (.iadd, 1) := by decide +kernel
theorem dL_law_1193 : decode code 1193 = .ok (.iaload, 1) := by decide +kernel
theorem dL_law_1194 : decode code 1194 = .ok (.invokevirtual 146, 3) := by decide +kernel
theorem dL_law_1197 : decode code 1197 = .ok (.if_icmp .eq 233, 3) := by decide +kernel
theorem dL_law_1200 : decode code 1200 = .ok (.iconst 0, 1) := by decide +kernel
theorem dL_law_1201 : decode code 1201 = .ok (.ireturn, 1) := by decide +kernel
theorem dL_law_1202 : decode code 1202 = .ok (.aload_n 1, 1) := by decide +kernel
theorem dL_law_1203 : decode code 1203 = .ok (.aload_n 0, 1) := by decide +kernel
theorem dL_law_1204 : decode code 1204 = .ok (.iload_n 3, 1) := by decide +kernel
theorem dL_law_1205 : decode code 1205 = .ok (.iconst 1, 1) := by decide +kernel
theorem dL_law_1206 : decode code 1206 = .ok (.iadd, 1) := by decide +kernel
theorem dL_law_1207 : decode code 1207 = .ok (.iaload, 1) := by decide +kernel
theorem dL_law_1208 : decode code 1208 = .ok (.invokevirtual 147, 3) := by decide +kernel
theorem dL_law_1211 : decode code 1211 = .ok (.aload_n 2, 1) := by decide +kernel
theorem dL_law_1212 : decode code 1212 = .ok (.aload_n 0, 1) := by decide +kernel
theorem dL_law_1213 : decode code 1213 = .ok (.iload_n 3, 1) := by decide +kernel
theorem dL_law_1214 : decode code 1214 = .ok (.iconst 1, 1) := by decide +kernel
theorem dL_law_1215 : decode code 1215 = .ok (.iadd, 1) := by decide +kernel
theorem dL_law_1216 : decode code 1216 = .ok (.iaload, 1) := by decide +kernel
theorem dL_law_1217 : decode code 1217 = .ok (.invokevirtual 150, 3) := by decide +kernel
theorem dL_law_1220 : decode code 1220 = .ok (.if_icmp .eq 210, 3) := by decide +kernel
theorem dL_law_1223 : decode code 1223 = .ok (.iconst 0, 1) := by decide +kernel
theorem dL_law_1224 : decode code 1224 = .ok (.ireturn, 1) := by decide +kernel
theorem dL_law_1225 : decode code 1225 = .ok (.aload_n 1, 1) := by decide +kernel
theorem dL_law_1226 : decode code 1226 = .ok (.aload_n 0, 1) := by decide +kernel
theorem dL_law_1227 : decode code 1227 = .ok (.iload_n 3, 1) := by decide +kernel
theorem dL_law_1228 : decode code 1228 = .ok (.iconst 1, 1) := by decide +kernel
theorem dL_law_1229 : decode code 1229 = .ok (.iadd, 1) := by decide +kernel
theorem dL_law_1230 : decode code 1230 = .ok (.iaload, 1) := by decide +kernel
theorem dL_law_1231 : decode code 1231 = .ok (.aload_n 0, 1) := by decide +kernel
theorem dL_law_1232 : decode code 1232 = .ok (.iload_n 3, 1) := by decide +kernel
theorem dL_law_1233 : decode code 1233 = .ok (.iconst 2, 1) := by decide +kernel
theorem dL_law_1234 : decode code 1234 = .ok (.iadd, 1) := by decide +kernel
theorem dL_law_1235 : decode code 1235 = .ok (.iaload, 1) := by decide +kernel
theorem dL_law_1236 : decode code 1236 = .ok (.aload_n 0, 1) := by decide +kernel
theorem dL_law_1237 : decode code 1237 = .ok (.iload_n 3, 1) := by decide +kernel
theorem dL_law_1238 : decode code 1238 = .ok (.iconst 3, 1) := by decide +kernel
theorem dL_law_1239 : decode code 1239 = .ok (.iadd, 1) := by decide +kernel
theorem dL_law_1240 : decode code 1240 = .ok (.iaload, 1) := by decide +kernel
theorem dL_law_1241 : decode code 1241 = .ok (.invokevirtual 151, 3) := by decide +kernel
theorem dL_law_1244 : decode code 1244 = .ok (.aload_n 2, 1) := by decide +kernel
theorem dL_law_1245 : decode code 1245 = .ok (.aload_n 0, 1) := by decide +kernel
theorem dL_law_1246 : decode code 1246 = .ok (.iload_n 3, 1) := by decide +kernel
theorem dL_law_1247 : decode code 1247 = .ok (.iconst 1, 1) := by decide +kernel
theorem dL_law_1248 : decode code 1248 = .ok (.iadd, 1) := by decide +kernel
theorem dL_law_1249 : decode code 1249 = .ok (.iaload, 1) := by decide +kernel
theorem dL_law_1250 : decode code 1250 = .ok (.aload_n 0, 1) := by decide +kernel
theorem dL_law_1251 : decode code 1251 = .ok (.iload_n 3, 1) := by decide +kernel
theorem dL_law_1252 : decode code 1252 = .ok (.iconst 2, 1) := by decide +kernel
theorem dL_law_1253 : decode code 1253 = .ok (.iadd, 1) := by decide +kernel
theorem dL_law_1254 : decode code 1254 = .ok (.iaload, 1) := by decide +kernel
theorem dL_law_1255 : decode code 1255 = .ok (.aload_n 0, 1) := by decide +kernel
theorem dL_law_1256 : decode code 1256 = .ok (.iload_n 3, 1) := by decide +kernel
theorem dL_law_1257 : decode code 1257 = .ok (.iconst 3, 1) := by decide +kernel
theorem dL_law_1258 : decode code 1258 = .ok (.iadd, 1) := by decide +kernel
theorem dL_law_1259 : decode code 1259 = .ok (.iaload, 1) := by decide +kernel
theorem dL_law_1260 : decode code 1260 = .ok (.invokevirtual 154, 3) := by decide +kernel
theorem dL_law_1263 : decode code 1263 = .ok (.if_icmp .eq 167, 3) := by decide +kernel
theorem dL_law_1266 : decode code 1266 = .ok (.iconst 0, 1) := by decide +kernel
theorem dL_law_1267 : decode code 1267 = .ok (.ireturn, 1) := by decide +kernel
theorem dL_law_1268 : decode code 1268 = .ok (.aload_n 1, 1) := by decide +kernel
theorem dL_law_1269 : decode code 1269 = .ok (.aload_n 0, 1) := by decide +kernel
theorem dL_law_1270 : decode code 1270 = .ok (.iload_n 3, 1) := by decide +kernel
theorem dL_law_1271 : decode code 1271 = .ok (.iconst 1, 1) := by decide +kernel
theorem dL_law_1272 : decode code 1272 = .ok (.iadd, 1) := by decide +kernel
theorem dL_law_1273 : decode code 1273 = .ok (.iaload, 1) := by decide +kernel
theorem dL_law_1274 : decode code 1274 = .ok (.aload_n 0, 1) := by decide +kernel
theorem dL_law_1275 : decode code 1275 = .ok (.iload_n 3, 1) := by decide +kernel
theorem dL_law_1276 : decode code 1276 = .ok (.iconst 2, 1) := by decide +kernel
theorem dL_law_1277 : decode code 1277 = .ok (.iadd, 1) := by decide +kernel
theorem dL_law_1278 : decode code 1278 = .ok (.iaload, 1) := by decide +kernel
theorem dL_law_1279 : decode code 1279 = .ok (.invokevirtual 155, 3) := by decide +kernel
theorem dL_law_1282 : decode code 1282 = .ok (.aload_n 2, 1) := by decide +kernel
theorem dL_law_1283 : decode code 1283 = .ok (.aload_n 0, 1) := by decide +kernel
theorem dL_law_1284 : decode code 1284 = .ok (.iload_n 3, 1) := by decide +kernel
theorem dL_law_1285 : decode code 1285 = .ok (.iconst 1, 1) := by decide +kernel
theorem dL_law_1286 : decode code 1286 = .ok (.iadd, 1) := by decide +kernel
theorem dL_law_1287 : decode code 1287 = .ok (.iaload, 1) := by decide +kernel
theorem dL_law_1288 : decode code 1288 = .ok (.aload_n 0, 1) := by decide +kernel
theorem dL_law_1289 : decode code 1289 = .ok (.iload_n 3, 1) := by decide +kernel
theorem dL_law_1290 : decode code 1290 = .ok (.iconst 2, 1) := by decide +kernel
theorem dL_law_1291 : decode code 1291 = .ok (.iadd, 1) := by decide +kernel
theorem dL_law_1292 : decode code 1292 = .ok (.iaload, 1) := by decide +kernel
theorem dL_law_1293 : decode code 1293 = .ok (.invokevirtual 158, 3) := by decide +kernel
theorem dL_law_1296 : decode code 1296 = .ok (.if_icmp .eq 134, 3) := by decide +kernel
theorem dL_law_1299 : decode code 1299 = .ok (.iconst 0, 1) := by decide +kernel
theorem dL_law_1300 : decode code 1300 = .ok (.ireturn, 1) := by decide +kernel
theorem dL_law_1301 : decode code 1301 = .ok (.aload_n 1, 1) := by decide +kernel
theorem dL_law_1302 : decode code 1302 = .ok (.aload_n 0, 1) := by decide +kernel
theorem dL_law_1303 : decode code 1303 = .ok (.iload_n 3, 1) := by decide +kernel
theorem dL_law_1304 : decode code 1304 = .ok (.iconst 1, 1) := by decide +kernel
theorem dL_law_1305 : decode code 1305 = .ok (.iadd, 1) := by decide +kernel
theorem dL_law_1306 : decode code 1306 = .ok (.iaload, 1) := by decide +kernel
theorem dL_law_1307 : decode code 1307 = .ok (.invokevirtual 159, 3) := by decide +kernel
theorem dL_law_1310 : decode code 1310 = .ok (.aload_n 2, 1) := by decide +kernel
theorem dL_law_1311 : decode code 1311 = .ok (.aload_n 0, 1) := by decide +kernel
theorem dL_law_1312 : decode code 1312 = .ok (.iload_n 3, 1) := by decide +kernel
theorem dL_law_1313 : decode code 1313 = .ok (.iconst 1, 1) := by decide +kernel
theorem dL_law_1314 : decode code 1314 = .ok (.iadd, 1) := by decide +kernel
theorem dL_law_1315 : decode code 1315 = .ok (.iaload, 1) := by decide +kernel
theorem dL_law_1316 : decode code 1316 = .ok (.invokevirtual 162, 3) := by decide +kernel
theorem dL_law_1319 : decode code 1319 = .ok (.if_icmp .eq 111, 3) := by decide +kernel
theorem dL_law_1322 : decode code 1322 = .ok (.iconst 0, 1) := by decide +kernel
theorem dL_law_1323 : decode code 1323 = .ok (.ireturn, 1) := by decide +kernel
theorem dL_law_1324 : decode code 1324 = .ok (.aload_n 1, 1) := by decide +kernel
theorem dL_law_1325 : decode code 1325 = .ok (.aload_n 0, 1) := by decide +kernel
theorem dL_law_1326 : decode code 1326 = .ok (.iload_n 3, 1) := by decide +kernel
theorem dL_law_1327 : decode code 1327 = .ok (.iconst 1, 1) := by decide +kernel
theorem dL_law_1328 : decode code 1328 = .ok (.iadd, 1) := by decide +kernel
theorem dL_law_1329 : decode code 1329 = .ok (.iaload, 1) := by decide +kernel
theorem dL_law_1330 : decode code 1330 = .ok (.invokevirtual 163, 3) := by decide +kernel
theorem dL_law_1333 : decode code 1333 = .ok (.aload_n 2, 1) := by decide +kernel
theorem dL_law_1334 : decode code 1334 = .ok (.aload_n 0, 1) := by decide +kernel
theorem dL_law_1335 : decode code 1335 = .ok (.iload_n 3, 1) := by decide +kernel
theorem dL_law_1336 : decode code 1336 = .ok (.iconst 1, 1) := by decide +kernel
theorem dL_law_1337 : decode code 1337 = .ok (.iadd, 1) := by decide +kernel
theorem dL_law_1338 : decode code 1338 = .ok (.iaload, 1) := by decide +kernel
theorem dL_law_1339 : decode code 1339 = .ok (.invokevirtual 166, 3) := by decide +kernel
theorem dL_law_1342 : decode code 1342 = .ok (.if_icmp .eq 88, 3) := by decide +kernel
theorem dL_law_1345 : decode code 1345 = .ok (.iconst 0, 1) := by decide +kernel
theorem dL_law_1346 : decode code 1346 = .ok (.ireturn, 1) := by decide +kernel
theorem dL_law_1347 : decode code 1347 = .ok (.aload_n 1, 1) := by decide +kernel
theorem dL_law_1348 : decode code 1348 = .ok (.invokevirtual 167, 3) := by decide +kernel
theorem dL_law_1351 : decode code 1351 = .ok (.aload_n 2, 1) := by decide +kernel
theorem dL_law_1352 : decode code 1352 = .ok (.invokevirtual 170, 3) := by decide +kernel
theorem dL_law_1355 : decode code 1355 = .ok (.if_icmp .eq 75, 3) := by decide +kernel
theorem dL_law_1358 : decode code 1358 = .ok (.iconst 0, 1) := by decide +kernel
theorem dL_law_1359 : decode code 1359 = .ok (.ireturn, 1) := by decide +kernel
theorem dL_law_1360 : decode code 1360 = .ok (.aload_n 1, 1) := by decide +kernel
theorem dL_law_1361 : decode code 1361 = .ok (.aload_n 0, 1) := by decide +kernel
theorem dL_law_1362 : decode code 1362 = .ok (.iload_n 3, 1) := by decide +kernel
theorem dL_law_1363 : decode code 1363 = .ok (.iconst 1, 1) := by decide +kernel
theorem dL_law_1364 : decode code 1364 = .ok (.iadd, 1) := by decide +kernel
theorem dL_law_1365 : decode code 1365 = .ok (.iaload, 1) := by decide +kernel
theorem dL_law_1366 : decode code 1366 = .ok (.aload_n 0, 1) := by decide +kernel
theorem dL_law_1367 : decode code 1367 = .ok (.iload_n 3, 1) := by decide +kernel
theorem dL_law_1368 : decode code 1368 = .ok (.iconst 2, 1) := by decide +kernel
theorem dL_law_1369 : decode code 1369 = .ok (.iadd, 1) := by decide +kernel
theorem dL_law_1370 : decode code 1370 = .ok (.iaload, 1) := by decide +kernel
theorem dL_law_1371 : decode code 1371 = .ok (.invokevirtual 171, 3) := by decide +kernel
theorem dL_law_1374 : decode code 1374 = .ok (.aload_n 2, 1) := by decide +kernel
theorem dL_law_1375 : decode code 1375 = .ok (.aload_n 0, 1) := by decide +kernel
theorem dL_law_1376 : decode code 1376 = .ok (.iload_n 3, 1) := by decide +kernel
theorem dL_law_1377 : decode code 1377 = .ok (.iconst 1, 1) := by decide +kernel
theorem dL_law_1378 : decode code 1378 = .ok (.iadd, 1) := by decide +kernel
theorem dL_law_1379 : decode code 1379 = .ok (.iaload, 1) := by decide +kernel
theorem dL_law_1380 : decode code 1380 = .ok (.aload_n 0, 1) := by decide +kernel
theorem dL_law_1381 : decode code 1381 = .ok (.iload_n 3, 1) := by decide +kernel
theorem dL_law_1382 : decode code 1382 = .ok (.iconst 2, 1) := by decide +kernel
theorem dL_law_1383 : decode code 1383 = .ok (.iadd, 1) := by decide +kernel
theorem dL_law_1384 : decode code 1384 = .ok (.iaload, 1) := by decide +kernel
theorem dL_law_1385 : decode code 1385 = .ok (.invokevirtual 174, 3) := by decide +kernel
theorem dL_law_1388 : decode code 1388 = .ok (.if_icmp .eq 42, 3) := by decide +kernel
theorem dL_law_1391 : decode code 1391 = .ok (.iconst 0, 1) := by decide +kernel
theorem dL_law_1392 : decode code 1392 = .ok (.ireturn, 1) := by decide +kernel
theorem dL_law_1393 : decode code 1393 = .ok (.aload_n 1, 1) := by decide +kernel
theorem dL_law_1394 : decode code 1394 = .ok (.aload_n 0, 1) := by decide +kernel
theorem dL_law_1395 : decode code 1395 = .ok (.iload_n 3, 1) := by decide +kernel
theorem dL_law_1396 : decode code 1396 = .ok (.iconst 1, 1) := by decide +kernel
theorem dL_law_1397 : decode code 1397 = .ok (.iadd, 1) := by decide +kernel
theorem dL_law_1398 : decode code 1398 = .ok (.iaload, 1) := by decide +kernel
theorem dL_law_1399 : decode code 1399 = .ok (.invokevirtual 175, 3) := by decide +kernel
theorem dL_law_1402 : decode code 1402 = .ok (.aload_n 2, 1) := by decide +kernel
theorem dL_law_1403 : decode code 1403 = .ok (.aload_n 0, 1) := by decide +kernel
theorem dL_law_1404 : decode code 1404 = .ok (.iload_n 3, 1) := by decide +kernel
theorem dL_law_1405 : decode code 1405 = .ok (.iconst 1, 1) := by decide +kernel
theorem dL_law_1406 : decode code 1406 = .ok (.iadd, 1) := by decide +kernel
theorem dL_law_1407 : decode code 1407 = .ok (.iaload, 1) := by decide +kernel
theorem dL_law_1408 : decode code 1408 = .ok (.invokevirtual 178, 3) := by decide +kernel
theorem dL_law_1411 : decode code 1411 = .ok (.if_icmp .eq 19, 3) := by decide +kernel
theorem dL_law_1414 : decode code 1414 = .ok (.iconst 0, 1) := by decide +kernel
theorem dL_law_1415 : decode code 1415 = .ok (.ireturn, 1) := by decide +kernel
theorem dL_law_1416 : decode code 1416 = .ok (.aload_n 1, 1) := by decide +kernel
theorem dL_law_1417 : decode code 1417 = .ok (.invokevirtual 179, 3) := by decide +kernel
theorem dL_law_1420 : decode code 1420 = .ok (.aload_n 2, 1) := by decide +kernel
theorem dL_law_1421 : decode code 1421 = .ok (.invokevirtual 183, 3) := by decide +kernel
theorem dL_law_1424 : decode code 1424 = .ok (.lcmp, 1) := by decide +kernel
theorem dL_law_1425 : decode code 1425 = .ok (.ifCond .eq 5, 3) := by decide +kernel
theorem dL_law_1428 : decode code 1428 = .ok (.iconst 0, 1) := by decide +kernel
theorem dL_law_1429 : decode code 1429 = .ok (.ireturn, 1) := by decide +kernel
theorem dL_law_1430 : decode code 1430 = .ok (.iinc 3 6, 3) := by decide +kernel
theorem dL_law_1433 : decode code 1433 = .ok (.goto (-1415), 3) := by decide +kernel
theorem dL_law_1436 : decode code 1436 = .ok (.iconst 1, 1) := by decide +kernel
theorem dL_law_1437 : decode code 1437 = .ok (.ireturn, 1) := by decide +kernel
/-! LAYER C: the law's forty calls, by program (genL.py) -/
def lettersArg (x y : Int32) : Int64 := (x.toInt64 <<< ((32 : Int32).toInt64 &&& 63)) ||| (y.toInt64 &&& (4294967295 : Int64))
section LA
variable {G : va_G × (Nat → ClassId)} {p : Program} {l : Launch} {e : Env} {s : State} {m : MethodId} {below : List Frame} {meth : Method} {c : Code} {b L : Nat} {xs : Nat → Int32} {pc i : Nat} {μ ν : ZM} {st : List Value}
theorem l_letA {x : Int32} (C : lC G p s m meth c b L xs) (d0 : decode code pc = .ok (.i2l, 1)) (d1 : decode code (pc + 1) = .ok (.bipush 32, 2)) (d3 : decode code (pc + 3) = .ok (.lshl, 1)) (k : lW G p l e s m below meth c b (pc + 4) μ ν i (.long (x.toInt64 <<< ((32 : Int32).toInt64 &&& 63)) :: st)) : lW G p l e s m below meth c b pc μ ν i (.int x :: st) := by
  intro H locs ls hP hO hS hl
  refine lv_i2l C.1.1 C.1.2.1 d0 rfl ?_
  refine lv_bipush (v := 32) C.1.1 C.1.2.1 d1 (by decide) ?_
  exact lv_lshl C.1.1 C.1.2.1 d3 rfl (k H locs ls hP hO hS hl)
theorem l_letB {x : Int64} {y : Int32} (C : lC G p s m meth c b L xs) (d0 : decode code pc = .ok (.i2l, 1)) (d1 : decode code (pc + 1) = .ok (.ldc2_w 40, 3)) (d4 : decode code (pc + 4) = .ok (.land, 1)) (d5 : decode code (pc + 5) = .ok (.lor, 1)) (k : lW G p l e s m below meth c b (pc + 6) μ ν i (.long (x ||| (y.toInt64 &&& (4294967295 : Int64))) :: st)) : lW G p l e s m below meth c b pc μ ν i (.int y :: .long x :: st) := by
  intro H locs ls hP hO hS hl
  refine lv_i2l C.1.1 C.1.2.1 d0 rfl ?_
  refine lv_ldc2 (own := R_law) (v := (4294967295 : Int64)) C.1.1 C.1.2.1 C.1.2.2.2.2.1 (C.1.2.2.2.2.2.1 _ (z_tw 1544 (by decide +kernel))) d1 ?_
  refine lv_land C.1.1 C.1.2.1 d4 ?_
  exact lv_lor C.1.1 C.1.2.1 d5 (k H locs ls hP hO hS hl)
theorem cvL_13 : zCV R_law 13 11 (yX11_part, cX11_part, 4, some .int) 3 := ⟨⟨(z_tw 446 (by decide +kernel)), (z_tw 1 (by decide +kernel)), ⟨by decide, by decide⟩, by decide +kernel, by decide, (.inl (z_tw 443 (by decide +kernel)))⟩, (z_tw 444 (by decide +kernel)), (z_tw 445 (by decide +kernel)), TX11, 11, rfl⟩
theorem cvL_17 : zCV R_law 17 12 (yX12_part, cX12_part, 5, some .int) 3 := ⟨⟨(z_tw 1222 (by decide +kernel)), (z_tw 14 (by decide +kernel)), ⟨by decide, by decide⟩, by decide +kernel, by decide, (.inl (z_tw 1219 (by decide +kernel)))⟩, (z_tw 1220 (by decide +kernel)), (z_tw 1221 (by decide +kernel)), TX12, 55, rfl⟩
theorem cvL_18 : zCV R_law 18 11 (yX11_as, cX11_as, 3, some .int) 2 := ⟨⟨(z_tw 471 (by decide +kernel)), (z_tw 1 (by decide +kernel)), ⟨by decide, by decide⟩, by decide +kernel, by decide, (.inl (z_tw 468 (by decide +kernel)))⟩, (z_tw 469 (by decide +kernel)), (z_tw 470 (by decide +kernel)), TX11, 11, rfl⟩
theorem cvL_22 : zCV R_law 22 12 (yX12_as, cX12_as, 3, some .int) 2 := ⟨⟨(z_tw 1236 (by decide +kernel)), (z_tw 14 (by decide +kernel)), ⟨by decide, by decide⟩, by decide +kernel, by decide, (.inl (z_tw 1233 (by decide +kernel)))⟩, (z_tw 1234 (by decide +kernel)), (z_tw 1235 (by decide +kernel)), TX12, 55, rfl⟩
theorem cvL_23 : zCV R_law 23 11 (yX11_size, cX11_size, 2, some .int) 1 := ⟨⟨(z_tw 479 (by decide +kernel)), (z_tw 1 (by decide +kernel)), ⟨by decide, by decide⟩, by decide +kernel, by decide, (.inl (z_tw 476 (by decide +kernel)))⟩, (z_tw 477 (by decide +kernel)), (z_tw 478 (by decide +kernel)), TX11, 11, rfl⟩
theorem cvL_27 : zCV R_law 27 12 (yX12_size, cX12_size, 2, some .int) 1 := ⟨⟨(z_tw 1240 (by decide +kernel)), (z_tw 14 (by decide +kernel)), ⟨by decide, by decide⟩, by decide +kernel, by decide, (.inl (z_tw 1237 (by decide +kernel)))⟩, (z_tw 1238 (by decide +kernel)), (z_tw 1239 (by decide +kernel)), TX12, 55, rfl⟩
theorem cvL_28 : zCV R_law 28 11 (yX11_grade, cX11_grade, 4, some .int) 3 := ⟨⟨(z_tw 490 (by decide +kernel)), (z_tw 1 (by decide +kernel)), ⟨by decide, by decide⟩, by decide +kernel, by decide, (.inl (z_tw 487 (by decide +kernel)))⟩, (z_tw 488 (by decide +kernel)), (z_tw 489 (by decide +kernel)), TX11, 11, rfl⟩
theorem cvL_31 : zCV R_law 31 12 (yX12_grade, cX12_grade, 5, some .int) 3 := ⟨⟨(z_tw 1248 (by decide +kernel)), (z_tw 14 (by decide +kernel)), ⟨by decide, by decide⟩, by decide +kernel, by decide, (.inl (z_tw 1245 (by decide +kernel)))⟩, (z_tw 1246 (by decide +kernel)), (z_tw 1247 (by decide +kernel)), TX12, 55, rfl⟩
theorem cvL_32 : zCV R_law 32 11 (yX11_price, cX11_price, 3, some .int) 2 := ⟨⟨(z_tw 494 (by decide +kernel)), (z_tw 1 (by decide +kernel)), ⟨by decide, by decide⟩, by decide +kernel, by decide, (.inl (z_tw 491 (by decide +kernel)))⟩, (z_tw 492 (by decide +kernel)), (z_tw 493 (by decide +kernel)), TX11, 11, rfl⟩
theorem cvL_35 : zCV R_law 35 12 (yX12_price, cX12_price, 3, some .int) 2 := ⟨⟨(z_tw 1255 (by decide +kernel)), (z_tw 14 (by decide +kernel)), ⟨by decide, by decide⟩, by decide +kernel, by decide, (.inl (z_tw 1252 (by decide +kernel)))⟩, (z_tw 1253 (by decide +kernel)), (z_tw 1254 (by decide +kernel)), TX12, 55, rfl⟩
theorem cvL_36 : zCV R_law 36 11 (yX11_counted, cX11_counted, 4, some .int) 3 := ⟨⟨(z_tw 505 (by decide +kernel)), (z_tw 1 (by decide +kernel)), ⟨by decide, by decide⟩, by decide +kernel, by decide, (.inl (z_tw 502 (by decide +kernel)))⟩, (z_tw 503 (by decide +kernel)), (z_tw 504 (by decide +kernel)), TX11, 11, rfl⟩
theorem cvL_39 : zCV R_law 39 12 (yX12_counted, cX12_counted, 5, some .int) 3 := ⟨⟨(z_tw 1263 (by decide +kernel)), (z_tw 14 (by decide +kernel)), ⟨by decide, by decide⟩, by decide +kernel, by decide, (.inl (z_tw 1260 (by decide +kernel)))⟩, (z_tw 1261 (by decide +kernel)), (z_tw 1262 (by decide +kernel)), TX12, 55, rfl⟩
theorem cvL_42 : zCV R_law 42 11 (yX11_letters, cX11_letters, 5, some .int) 1 := ⟨⟨(z_tw 509 (by decide +kernel)), (z_tw 1 (by decide +kernel)), ⟨by decide, by decide⟩, by decide +kernel, by decide, (.inl (z_tw 506 (by decide +kernel)))⟩, (z_tw 507 (by decide +kernel)), (z_tw 508 (by decide +kernel)), TX11, 11, rfl⟩
theorem cvL_46 : zCV R_law 46 12 (yX12_letters, cX12_letters, 7, some .int) 1 := ⟨⟨(z_tw 1267 (by decide +kernel)), (z_tw 14 (by decide +kernel)), ⟨by decide, by decide⟩, by decide +kernel, by decide, (.inl (z_tw 1264 (by decide +kernel)))⟩, (z_tw 1265 (by decide +kernel)), (z_tw 1266 (by decide +kernel)), TX12, 55, rfl⟩
theorem cvL_47 : zCV R_law 47 11 (yX11_blank, cX11_blank, 2, some .int) 0 := ⟨⟨(z_tw 521 (by decide +kernel)), (z_tw 1 (by decide +kernel)), ⟨by decide, by decide⟩, by decide +kernel, by decide, (.inl (z_tw 518 (by decide +kernel)))⟩, (z_tw 519 (by decide +kernel)), (z_tw 520 (by decide +kernel)), TX11, 11, rfl⟩
theorem cvL_51 : zCV R_law 51 12 (yX12_blank, cX12_blank, 2, some .int) 0 := ⟨⟨(z_tw 1272 (by decide +kernel)), (z_tw 14 (by decide +kernel)), ⟨by decide, by decide⟩, by decide +kernel, by decide, (.inl (z_tw 1269 (by decide +kernel)))⟩, (z_tw 1270 (by decide +kernel)), (z_tw 1271 (by decide +kernel)), TX12, 55, rfl⟩
theorem cvL_52 : zCV R_law 52 11 (yX11_fault, cX11_fault, 1, some .int) 0 := ⟨⟨(z_tw 525 (by decide +kernel)), (z_tw 1 (by decide +kernel)), ⟨by decide, by decide⟩, by decide +kernel, by decide, (.inl (z_tw 522 (by decide +kernel)))⟩, (z_tw 523 (by decide +kernel)), (z_tw 524 (by decide +kernel)), TX11, 11, rfl⟩
theorem cvL_55 : zCV R_law 55 12 (yX12_fault, cX12_fault, 1, some .int) 0 := ⟨⟨(z_tw 1276 (by decide +kernel)), (z_tw 14 (by decide +kernel)), ⟨by decide, by decide⟩, by decide +kernel, by decide, (.inl (z_tw 1273 (by decide +kernel)))⟩, (z_tw 1274 (by decide +kernel)), (z_tw 1275 (by decide +kernel)), TX12, 55, rfl⟩
theorem cvL_56 : zCV R_law 56 11 (yX11_chain, cX11_chain, 1, some .int) 0 := ⟨⟨(z_tw 554 (by decide +kernel)), (z_tw 1 (by decide +kernel)), ⟨by decide, by decide⟩, by decide +kernel, by decide, (.inl (z_tw 551 (by decide +kernel)))⟩, (z_tw 552 (by decide +kernel)), (z_tw 553 (by decide +kernel)), TX11, 11, rfl⟩
theorem cvL_59 : zCV R_law 59 12 (yX12_chain, cX12_chain, 2, some .int) 0 := ⟨⟨(z_tw 1284 (by decide +kernel)), (z_tw 14 (by decide +kernel)), ⟨by decide, by decide⟩, by decide +kernel, by decide, (.inl (z_tw 1281 (by decide +kernel)))⟩, (z_tw 1282 (by decide +kernel)), (z_tw 1283 (by decide +kernel)), TX12, 55, rfl⟩
theorem cvL_60 : zCV R_law 60 11 (yX11_of, cX11_of, 3, some .int) 2 := ⟨⟨(z_tw 565 (by decide +kernel)), (z_tw 1 (by decide +kernel)), ⟨by decide, by decide⟩, by decide +kernel, by decide, (.inl (z_tw 562 (by decide +kernel)))⟩, (z_tw 563 (by decide +kernel)), (z_tw 564 (by decide +kernel)), TX11, 11, rfl⟩
theorem cvL_63 : zCV R_law 63 12 (yX12_of, cX12_of, 3, some .int) 2 := ⟨⟨(z_tw 1288 (by decide +kernel)), (z_tw 14 (by decide +kernel)), ⟨by decide, by decide⟩, by decide +kernel, by decide, (.inl (z_tw 1285 (by decide +kernel)))⟩, (z_tw 1286 (by decide +kernel)), (z_tw 1287 (by decide +kernel)), TX12, 55, rfl⟩
theorem cvL_64 : zCV R_law 64 11 (yX11_odds, cX11_odds, 3, some .long) 2 := ⟨⟨(z_tw 591 (by decide +kernel)), (z_tw 1 (by decide +kernel)), ⟨by decide, by decide⟩, by decide +kernel, by decide, (.inl (z_tw 588 (by decide +kernel)))⟩, (z_tw 589 (by decide +kernel)), (z_tw 590 (by decide +kernel)), TX11, 11, rfl⟩
theorem cvL_68 : zCV R_law 68 12 (yX12_odds, cX12_odds, 13, some .long) 2 := ⟨⟨(z_tw 1314 (by decide +kernel)), (z_tw 14 (by decide +kernel)), ⟨by decide, by decide⟩, by decide +kernel, by decide, (.inl (z_tw 1311 (by decide +kernel)))⟩, (z_tw 1312 (by decide +kernel)), (z_tw 1313 (by decide +kernel)), TX12, 55, rfl⟩
theorem cvL_69 : zCV R_law 69 11 (yX11_giveOut, cX11_giveOut, 3, some .int) 2 := ⟨⟨(z_tw 627 (by decide +kernel)), (z_tw 1 (by decide +kernel)), ⟨by decide, by decide⟩, by decide +kernel, by decide, (.inl (z_tw 624 (by decide +kernel)))⟩, (z_tw 625 (by decide +kernel)), (z_tw 626 (by decide +kernel)), TX11, 11, rfl⟩
theorem cvL_72 : zCV R_law 72 12 (yX12_giveOut, cX12_giveOut, 8, some .int) 2 := ⟨⟨(z_tw 1319 (by decide +kernel)), (z_tw 14 (by decide +kernel)), ⟨by decide, by decide⟩, by decide +kernel, by decide, (.inl (z_tw 1316 (by decide +kernel)))⟩, (z_tw 1317 (by decide +kernel)), (z_tw 1318 (by decide +kernel)), TX12, 55, rfl⟩
theorem cvL_73 : zCV R_law 73 11 (yX11_thing, cX11_thing, 3, some .int) 2 := ⟨⟨(z_tw 660 (by decide +kernel)), (z_tw 1 (by decide +kernel)), ⟨by decide, by decide⟩, by decide +kernel, by decide, (.inl (z_tw 657 (by decide +kernel)))⟩, (z_tw 658 (by decide +kernel)), (z_tw 659 (by decide +kernel)), TX11, 11, rfl⟩
theorem cvL_76 : zCV R_law 76 12 (yX12_thing, cX12_thing, 3, some .int) 2 := ⟨⟨(z_tw 1327 (by decide +kernel)), (z_tw 14 (by decide +kernel)), ⟨by decide, by decide⟩, by decide +kernel, by decide, (.inl (z_tw 1324 (by decide +kernel)))⟩, (z_tw 1325 (by decide +kernel)), (z_tw 1326 (by decide +kernel)), TX12, 55, rfl⟩
theorem cvL_77 : zCV R_law 77 11 (yX11_measure, cX11_measure, 4, some .int) 3 := ⟨⟨(z_tw 668 (by decide +kernel)), (z_tw 1 (by decide +kernel)), ⟨by decide, by decide⟩, by decide +kernel, by decide, (.inl (z_tw 665 (by decide +kernel)))⟩, (z_tw 666 (by decide +kernel)), (z_tw 667 (by decide +kernel)), TX11, 11, rfl⟩
theorem cvL_80 : zCV R_law 80 12 (yX12_measure, cX12_measure, 4, some .int) 3 := ⟨⟨(z_tw 1331 (by decide +kernel)), (z_tw 14 (by decide +kernel)), ⟨by decide, by decide⟩, by decide +kernel, by decide, (.inl (z_tw 1328 (by decide +kernel)))⟩, (z_tw 1329 (by decide +kernel)), (z_tw 1330 (by decide +kernel)), TX12, 55, rfl⟩
theorem cvL_81 : zCV R_law 81 11 (yX11_known, cX11_known, 3, some .int) 2 := ⟨⟨(z_tw 698 (by decide +kernel)), (z_tw 1 (by decide +kernel)), ⟨by decide, by decide⟩, by decide +kernel, by decide, (.inl (z_tw 695 (by decide +kernel)))⟩, (z_tw 696 (by decide +kernel)), (z_tw 697 (by decide +kernel)), TX11, 11, rfl⟩
theorem cvL_84 : zCV R_law 84 12 (yX12_known, cX12_known, 3, some .int) 2 := ⟨⟨(z_tw 1339 (by decide +kernel)), (z_tw 14 (by decide +kernel)), ⟨by decide, by decide⟩, by decide +kernel, by decide, (.inl (z_tw 1336 (by decide +kernel)))⟩, (z_tw 1337 (by decide +kernel)), (z_tw 1338 (by decide +kernel)), TX12, 55, rfl⟩
theorem cvL_85 : zCV R_law 85 11 (yX11_pairs, cX11_pairs, 6, some .int) 5 := ⟨⟨(z_tw 702 (by decide +kernel)), (z_tw 1 (by decide +kernel)), ⟨by decide, by decide⟩, by decide +kernel, by decide, (.inl (z_tw 699 (by decide +kernel)))⟩, (z_tw 700 (by decide +kernel)), (z_tw 701 (by decide +kernel)), TX11, 11, rfl⟩
theorem cvL_89 : zCV R_law 89 12 (yX12_pairs, cX12_pairs, 7, some .int) 5 := ⟨⟨(z_tw 1355 (by decide +kernel)), (z_tw 14 (by decide +kernel)), ⟨by decide, by decide⟩, by decide +kernel, by decide, (.inl (z_tw 1352 (by decide +kernel)))⟩, (z_tw 1353 (by decide +kernel)), (z_tw 1354 (by decide +kernel)), TX12, 55, rfl⟩
theorem cvL_90 : zCV R_law 90 11 (yX11_put, cX11_put, 3, some .int) 2 := ⟨⟨(z_tw 750 (by decide +kernel)), (z_tw 1 (by decide +kernel)), ⟨by decide, by decide⟩, by decide +kernel, by decide, (.inl (z_tw 747 (by decide +kernel)))⟩, (z_tw 748 (by decide +kernel)), (z_tw 749 (by decide +kernel)), TX11, 11, rfl⟩
theorem cvL_93 : zCV R_law 93 12 (yX12_put, cX12_put, 5, some .int) 2 := ⟨⟨(z_tw 1379 (by decide +kernel)), (z_tw 14 (by decide +kernel)), ⟨by decide, by decide⟩, by decide +kernel, by decide, (.inl (z_tw 1376 (by decide +kernel)))⟩, (z_tw 1377 (by decide +kernel)), (z_tw 1378 (by decide +kernel)), TX12, 55, rfl⟩
theorem cvL_94 : zCV R_law 94 11 (yX11_in, cX11_in, 3, some .int) 2 := ⟨⟨(z_tw 760 (by decide +kernel)), (z_tw 1 (by decide +kernel)), ⟨by decide, by decide⟩, by decide +kernel, by decide, (.inl (z_tw 757 (by decide +kernel)))⟩, (z_tw 758 (by decide +kernel)), (z_tw 759 (by decide +kernel)), TX11, 11, rfl⟩
theorem cvL_97 : zCV R_law 97 12 (yX12_in, cX12_in, 3, some .int) 2 := ⟨⟨(z_tw 1390 (by decide +kernel)), (z_tw 14 (by decide +kernel)), ⟨by decide, by decide⟩, by decide +kernel, by decide, (.inl (z_tw 1387 (by decide +kernel)))⟩, (z_tw 1388 (by decide +kernel)), (z_tw 1389 (by decide +kernel)), TX12, 55, rfl⟩
theorem cvL_98 : zCV R_law 98 11 (yX11_right, cX11_right, 3, some .int) 2 := ⟨⟨(z_tw 764 (by decide +kernel)), (z_tw 1 (by decide +kernel)), ⟨by decide, by decide⟩, by decide +kernel, by decide, (.inl (z_tw 761 (by decide +kernel)))⟩, (z_tw 762 (by decide +kernel)), (z_tw 763 (by decide +kernel)), TX11, 11, rfl⟩
theorem cvL_101 : zCV R_law 101 12 (yX12_right, cX12_right, 3, some .int) 2 := ⟨⟨(z_tw 1394 (by decide +kernel)), (z_tw 14 (by decide +kernel)), ⟨by decide, by decide⟩, by decide +kernel, by decide, (.inl (z_tw 1391 (by decide +kernel)))⟩, (z_tw 1392 (by decide +kernel)), (z_tw 1393 (by decide +kernel)), TX12, 55, rfl⟩
theorem cvL_102 : zCV R_law 102 11 (yX11_all, cX11_all, 1, some .int) 0 := ⟨⟨(z_tw 773 (by decide +kernel)), (z_tw 1 (by decide +kernel)), ⟨by decide, by decide⟩, by decide +kernel, by decide, (.inl (z_tw 770 (by decide +kernel)))⟩, (z_tw 771 (by decide +kernel)), (z_tw 772 (by decide +kernel)), TX11, 11, rfl⟩
theorem cvL_105 : zCV R_law 105 12 (yX12_all, cX12_all, 3, some .int) 0 := ⟨⟨(z_tw 1402 (by decide +kernel)), (z_tw 14 (by decide +kernel)), ⟨by decide, by decide⟩, by decide +kernel, by decide, (.inl (z_tw 1399 (by decide +kernel)))⟩, (z_tw 1400 (by decide +kernel)), (z_tw 1401 (by decide +kernel)), TX12, 55, rfl⟩
theorem cvL_106 : zCV R_law 106 11 (yX11_swap, cX11_swap, 2, some .int) 1 := ⟨⟨(z_tw 786 (by decide +kernel)), (z_tw 1 (by decide +kernel)), ⟨by decide, by decide⟩, by decide +kernel, by decide, (.inl (z_tw 783 (by decide +kernel)))⟩, (z_tw 784 (by decide +kernel)), (z_tw 785 (by decide +kernel)), TX11, 11, rfl⟩
theorem cvL_109 : zCV R_law 109 12 (yX12_swap, cX12_swap, 5, some .int) 1 := ⟨⟨(z_tw 1410 (by decide +kernel)), (z_tw 14 (by decide +kernel)), ⟨by decide, by decide⟩, by decide +kernel, by decide, (.inl (z_tw 1407 (by decide +kernel)))⟩, (z_tw 1408 (by decide +kernel)), (z_tw 1409 (by decide +kernel)), TX12, 55, rfl⟩
theorem cvL_110 : zCV R_law 110 11 (yX11_told, cX11_told, 3, some .int) 2 := ⟨⟨(z_tw 803 (by decide +kernel)), (z_tw 1 (by decide +kernel)), ⟨by decide, by decide⟩, by decide +kernel, by decide, (.inl (z_tw 800 (by decide +kernel)))⟩, (z_tw 801 (by decide +kernel)), (z_tw 802 (by decide +kernel)), TX11, 11, rfl⟩
theorem cvL_113 : zCV R_law 113 12 (yX12_told, cX12_told, 4, some .int) 2 := ⟨⟨(z_tw 1422 (by decide +kernel)), (z_tw 14 (by decide +kernel)), ⟨by decide, by decide⟩, by decide +kernel, by decide, (.inl (z_tw 1419 (by decide +kernel)))⟩, (z_tw 1420 (by decide +kernel)), (z_tw 1421 (by decide +kernel)), TX12, 55, rfl⟩
theorem cvL_114 : zCV R_law 114 11 (yX11_blamed, cX11_blamed, 1, some .int) 0 := ⟨⟨(z_tw 807 (by decide +kernel)), (z_tw 1 (by decide +kernel)), ⟨by decide, by decide⟩, by decide +kernel, by decide, (.inl (z_tw 804 (by decide +kernel)))⟩, (z_tw 805 (by decide +kernel)), (z_tw 806 (by decide +kernel)), TX11, 11, rfl⟩
theorem cvL_117 : zCV R_law 117 12 (yX12_blamed, cX12_blamed, 1, some .int) 0 := ⟨⟨(z_tw 1426 (by decide +kernel)), (z_tw 14 (by decide +kernel)), ⟨by decide, by decide⟩, by decide +kernel, by decide, (.inl (z_tw 1423 (by decide +kernel)))⟩, (z_tw 1424 (by decide +kernel)), (z_tw 1425 (by decide +kernel)), TX12, 55, rfl⟩
theorem cvL_118 : zCV R_law 118 11 (yX11_called, cX11_called, 2, some .int) 0 := ⟨⟨(z_tw 829 (by decide +kernel)), (z_tw 1 (by decide +kernel)), ⟨by decide, by decide⟩, by decide +kernel, by decide, (.inl (z_tw 826 (by decide +kernel)))⟩, (z_tw 827 (by decide +kernel)), (z_tw 828 (by decide +kernel)), TX11, 11, rfl⟩
theorem cvL_121 : zCV R_law 121 12 (yX12_called, cX12_called, 4, some .int) 0 := ⟨⟨(z_tw 1441 (by decide +kernel)), (z_tw 14 (by decide +kernel)), ⟨by decide, by decide⟩, by decide +kernel, by decide, (.inl (z_tw 1438 (by decide +kernel)))⟩, (z_tw 1439 (by decide +kernel)), (z_tw 1440 (by decide +kernel)), TX12, 55, rfl⟩
theorem cvL_122 : zCV R_law 122 11 (yX11_hours, cX11_hours, 3, some .int) 2 := ⟨⟨(z_tw 837 (by decide +kernel)), (z_tw 1 (by decide +kernel)), ⟨by decide, by decide⟩, by decide +kernel, by decide, (.inl (z_tw 834 (by decide +kernel)))⟩, (z_tw 835 (by decide +kernel)), (z_tw 836 (by decide +kernel)), TX11, 11, rfl⟩
theorem cvL_125 : zCV R_law 125 12 (yX12_hours, cX12_hours, 4, some .int) 2 := ⟨⟨(z_tw 1445 (by decide +kernel)), (z_tw 14 (by decide +kernel)), ⟨by decide, by decide⟩, by decide +kernel, by decide, (.inl (z_tw 1442 (by decide +kernel)))⟩, (z_tw 1443 (by decide +kernel)), (z_tw 1444 (by decide +kernel)), TX12, 55, rfl⟩
theorem cvL_126 : zCV R_law 126 11 (yX11_offer, cX11_offer, 5, some .int) 4 := ⟨⟨(z_tw 841 (by decide +kernel)), (z_tw 1 (by decide +kernel)), ⟨by decide, by decide⟩, by decide +kernel, by decide, (.inl (z_tw 838 (by decide +kernel)))⟩, (z_tw 839 (by decide +kernel)), (z_tw 840 (by decide +kernel)), TX11, 11, rfl⟩
theorem cvL_130 : zCV R_law 130 12 (yX12_offer, cX12_offer, 6, some .int) 4 := ⟨⟨(z_tw 1452 (by decide +kernel)), (z_tw 14 (by decide +kernel)), ⟨by decide, by decide⟩, by decide +kernel, by decide, (.inl (z_tw 1449 (by decide +kernel)))⟩, (z_tw 1450 (by decide +kernel)), (z_tw 1451 (by decide +kernel)), TX12, 55, rfl⟩
theorem cvL_131 : zCV R_law 131 11 (yX11_order, cX11_order, 3, some .int) 2 := ⟨⟨(z_tw 845 (by decide +kernel)), (z_tw 1 (by decide +kernel)), ⟨by decide, by decide⟩, by decide +kernel, by decide, (.inl (z_tw 842 (by decide +kernel)))⟩, (z_tw 843 (by decide +kernel)), (z_tw 844 (by decide +kernel)), TX11, 11, rfl⟩
theorem cvL_134 : zCV R_law 134 12 (yX12_order, cX12_order, 3, some .int) 2 := ⟨⟨(z_tw 1456 (by decide +kernel)), (z_tw 14 (by decide +kernel)), ⟨by decide, by decide⟩, by decide +kernel, by decide, (.inl (z_tw 1453 (by decide +kernel)))⟩, (z_tw 1454 (by decide +kernel)), (z_tw 1455 (by decide +kernel)), TX12, 55, rfl⟩
theorem cvL_135 : zCV R_law 135 11 (yX11_given, cX11_given, 5, some .int) 2 := ⟨⟨(z_tw 853 (by decide +kernel)), (z_tw 1 (by decide +kernel)), ⟨by decide, by decide⟩, by decide +kernel, by decide, (.inl (z_tw 850 (by decide +kernel)))⟩, (z_tw 851 (by decide +kernel)), (z_tw 852 (by decide +kernel)), TX11, 11, rfl⟩
theorem cvL_138 : zCV R_law 138 12 (yX12_given, cX12_given, 7, some .int) 2 := ⟨⟨(z_tw 1460 (by decide +kernel)), (z_tw 14 (by decide +kernel)), ⟨by decide, by decide⟩, by decide +kernel, by decide, (.inl (z_tw 1457 (by decide +kernel)))⟩, (z_tw 1458 (by decide +kernel)), (z_tw 1459 (by decide +kernel)), TX12, 55, rfl⟩
theorem cvL_139 : zCV R_law 139 11 (yX11_late, cX11_late, 3, some .int) 2 := ⟨⟨(z_tw 883 (by decide +kernel)), (z_tw 1 (by decide +kernel)), ⟨by decide, by decide⟩, by decide +kernel, by decide, (.inl (z_tw 880 (by decide +kernel)))⟩, (z_tw 881 (by decide +kernel)), (z_tw 882 (by decide +kernel)), TX11, 11, rfl⟩
theorem cvL_142 : zCV R_law 142 12 (yX12_late, cX12_late, 3, some .int) 2 := ⟨⟨(z_tw 1476 (by decide +kernel)), (z_tw 14 (by decide +kernel)), ⟨by decide, by decide⟩, by decide +kernel, by decide, (.inl (z_tw 1473 (by decide +kernel)))⟩, (z_tw 1474 (by decide +kernel)), (z_tw 1475 (by decide +kernel)), TX12, 55, rfl⟩
theorem cvL_143 : zCV R_law 143 11 (yX11_foretold, cX11_foretold, 3, some .int) 2 := ⟨⟨(z_tw 891 (by decide +kernel)), (z_tw 1 (by decide +kernel)), ⟨by decide, by decide⟩, by decide +kernel, by decide, (.inl (z_tw 888 (by decide +kernel)))⟩, (z_tw 889 (by decide +kernel)), (z_tw 890 (by decide +kernel)), TX11, 11, rfl⟩
theorem cvL_146 : zCV R_law 146 12 (yX12_foretold, cX12_foretold, 6, some .int) 2 := ⟨⟨(z_tw 1480 (by decide +kernel)), (z_tw 14 (by decide +kernel)), ⟨by decide, by decide⟩, by decide +kernel, by decide, (.inl (z_tw 1477 (by decide +kernel)))⟩, (z_tw 1478 (by decide +kernel)), (z_tw 1479 (by decide +kernel)), TX12, 55, rfl⟩
theorem cvL_147 : zCV R_law 147 11 (yX11_look, cX11_look, 2, some .int) 1 := ⟨⟨(z_tw 903 (by decide +kernel)), (z_tw 1 (by decide +kernel)), ⟨by decide, by decide⟩, by decide +kernel, by decide, (.inl (z_tw 900 (by decide +kernel)))⟩, (z_tw 901 (by decide +kernel)), (z_tw 902 (by decide +kernel)), TX11, 11, rfl⟩
theorem cvL_150 : zCV R_law 150 12 (yX12_look, cX12_look, 2, some .int) 1 := ⟨⟨(z_tw 1484 (by decide +kernel)), (z_tw 14 (by decide +kernel)), ⟨by decide, by decide⟩, by decide +kernel, by decide, (.inl (z_tw 1481 (by decide +kernel)))⟩, (z_tw 1482 (by decide +kernel)), (z_tw 1483 (by decide +kernel)), TX12, 55, rfl⟩
theorem cvL_151 : zCV R_law 151 11 (yX11_finds, cX11_finds, 4, some .int) 3 := ⟨⟨(z_tw 911 (by decide +kernel)), (z_tw 1 (by decide +kernel)), ⟨by decide, by decide⟩, by decide +kernel, by decide, (.inl (z_tw 908 (by decide +kernel)))⟩, (z_tw 909 (by decide +kernel)), (z_tw 910 (by decide +kernel)), TX11, 11, rfl⟩
theorem cvL_154 : zCV R_law 154 12 (yX12_finds, cX12_finds, 5, some .int) 3 := ⟨⟨(z_tw 1488 (by decide +kernel)), (z_tw 14 (by decide +kernel)), ⟨by decide, by decide⟩, by decide +kernel, by decide, (.inl (z_tw 1485 (by decide +kernel)))⟩, (z_tw 1486 (by decide +kernel)), (z_tw 1487 (by decide +kernel)), TX12, 55, rfl⟩
theorem cvL_155 : zCV R_law 155 11 (yX11_asked, cX11_asked, 3, some .int) 2 := ⟨⟨(z_tw 915 (by decide +kernel)), (z_tw 1 (by decide +kernel)), ⟨by decide, by decide⟩, by decide +kernel, by decide, (.inl (z_tw 912 (by decide +kernel)))⟩, (z_tw 913 (by decide +kernel)), (z_tw 914 (by decide +kernel)), TX11, 11, rfl⟩
theorem cvL_158 : zCV R_law 158 12 (yX12_asked, cX12_asked, 4, some .int) 2 := ⟨⟨(z_tw 1492 (by decide +kernel)), (z_tw 14 (by decide +kernel)), ⟨by decide, by decide⟩, by decide +kernel, by decide, (.inl (z_tw 1489 (by decide +kernel)))⟩, (z_tw 1490 (by decide +kernel)), (z_tw 1491 (by decide +kernel)), TX12, 55, rfl⟩
theorem cvL_159 : zCV R_law 159 11 (yX11_enough, cX11_enough, 3, some .int) 1 := ⟨⟨(z_tw 919 (by decide +kernel)), (z_tw 1 (by decide +kernel)), ⟨by decide, by decide⟩, by decide +kernel, by decide, (.inl (z_tw 916 (by decide +kernel)))⟩, (z_tw 917 (by decide +kernel)), (z_tw 918 (by decide +kernel)), TX11, 11, rfl⟩
theorem cvL_162 : zCV R_law 162 12 (yX12_enough, cX12_enough, 5, some .int) 1 := ⟨⟨(z_tw 1496 (by decide +kernel)), (z_tw 14 (by decide +kernel)), ⟨by decide, by decide⟩, by decide +kernel, by decide, (.inl (z_tw 1493 (by decide +kernel)))⟩, (z_tw 1494 (by decide +kernel)), (z_tw 1495 (by decide +kernel)), TX12, 55, rfl⟩
theorem cvL_163 : zCV R_law 163 11 (yX11_made, cX11_made, 2, some .int) 1 := ⟨⟨(z_tw 949 (by decide +kernel)), (z_tw 1 (by decide +kernel)), ⟨by decide, by decide⟩, by decide +kernel, by decide, (.inl (z_tw 946 (by decide +kernel)))⟩, (z_tw 947 (by decide +kernel)), (z_tw 948 (by decide +kernel)), TX11, 11, rfl⟩
theorem cvL_166 : zCV R_law 166 12 (yX12_made, cX12_made, 2, some .int) 1 := ⟨⟨(z_tw 1509 (by decide +kernel)), (z_tw 14 (by decide +kernel)), ⟨by decide, by decide⟩, by decide +kernel, by decide, (.inl (z_tw 1506 (by decide +kernel)))⟩, (z_tw 1507 (by decide +kernel)), (z_tw 1508 (by decide +kernel)), TX12, 55, rfl⟩
theorem cvL_167 : zCV R_law 167 11 (yX11_unmade, cX11_unmade, 2, some .int) 0 := ⟨⟨(z_tw 957 (by decide +kernel)), (z_tw 1 (by decide +kernel)), ⟨by decide, by decide⟩, by decide +kernel, by decide, (.inl (z_tw 954 (by decide +kernel)))⟩, (z_tw 955 (by decide +kernel)), (z_tw 956 (by decide +kernel)), TX11, 11, rfl⟩
theorem cvL_170 : zCV R_law 170 12 (yX12_unmade, cX12_unmade, 2, some .int) 0 := ⟨⟨(z_tw 1513 (by decide +kernel)), (z_tw 14 (by decide +kernel)), ⟨by decide, by decide⟩, by decide +kernel, by decide, (.inl (z_tw 1510 (by decide +kernel)))⟩, (z_tw 1511 (by decide +kernel)), (z_tw 1512 (by decide +kernel)), TX12, 55, rfl⟩
theorem cvL_171 : zCV R_law 171 11 (yX11_drift, cX11_drift, 3, some .int) 2 := ⟨⟨(z_tw 961 (by decide +kernel)), (z_tw 1 (by decide +kernel)), ⟨by decide, by decide⟩, by decide +kernel, by decide, (.inl (z_tw 958 (by decide +kernel)))⟩, (z_tw 959 (by decide +kernel)), (z_tw 960 (by decide +kernel)), TX11, 11, rfl⟩
theorem cvL_174 : zCV R_law 174 12 (yX12_drift, cX12_drift, 7, some .int) 2 := ⟨⟨(z_tw 1517 (by decide +kernel)), (z_tw 14 (by decide +kernel)), ⟨by decide, by decide⟩, by decide +kernel, by decide, (.inl (z_tw 1514 (by decide +kernel)))⟩, (z_tw 1515 (by decide +kernel)), (z_tw 1516 (by decide +kernel)), TX12, 55, rfl⟩
theorem cvL_175 : zCV R_law 175 11 (yX11_count, cX11_count, 2, some .int) 1 := ⟨⟨(z_tw 977 (by decide +kernel)), (z_tw 1 (by decide +kernel)), ⟨by decide, by decide⟩, by decide +kernel, by decide, (.inl (z_tw 974 (by decide +kernel)))⟩, (z_tw 975 (by decide +kernel)), (z_tw 976 (by decide +kernel)), TX11, 11, rfl⟩
theorem cvL_178 : zCV R_law 178 12 (yX12_count, cX12_count, 2, some .int) 1 := ⟨⟨(z_tw 1525 (by decide +kernel)), (z_tw 14 (by decide +kernel)), ⟨by decide, by decide⟩, by decide +kernel, by decide, (.inl (z_tw 1522 (by decide +kernel)))⟩, (z_tw 1523 (by decide +kernel)), (z_tw 1524 (by decide +kernel)), TX12, 55, rfl⟩
theorem cvL_179 : zCV R_law 179 11 (yX11_digest, cX11_digest, 4, some .long) 0 := ⟨⟨(z_tw 985 (by decide +kernel)), (z_tw 1 (by decide +kernel)), ⟨by decide, by decide⟩, by decide +kernel, by decide, (.inl (z_tw 982 (by decide +kernel)))⟩, (z_tw 983 (by decide +kernel)), (z_tw 984 (by decide +kernel)), TX11, 11, rfl⟩
theorem cvL_183 : zCV R_law 183 12 (yX12_digest, cX12_digest, 3, some .long) 0 := ⟨⟨(z_tw 1533 (by decide +kernel)), (z_tw 14 (by decide +kernel)), ⟨by decide, by decide⟩, by decide +kernel, by decide, (.inl (z_tw 1530 (by decide +kernel)))⟩, (z_tw 1531 (by decide +kernel)), (z_tw 1532 (by decide +kernel)), TX12, 55, rfl⟩
theorem la_0 (C : lC G p s m meth c b L xs) (hi : i + 6 ≤ L) (h : Rel μ ν) (hn : ∀ μ ν, Rel μ ν → lW G p l e s m below meth c b 1430 μ ν i []) : lW G p l e s m below meth c b 208 μ ν i [] := by
  obtain ⟨r, A, B, h1, h2, h3⟩ : StG FO 12 89 139 [.int (xs (i + 1)), .int (xs (i + 2)), .int (xs (i + 3))] μ ν := (st_part (d := 0) FO_Fdr h (xs (i + 1)) (xs (i + 2)) (xs (i + 3))).g
  obtain ⟨x, rfl⟩ : ∃ x, r = .int x := by
    obtain ⟨v, μ1, t, rfl⟩ := KK_tok (h1 (fun v _ => v = some r) (fun _ _ => rfl))
    rw [zi_89] at t
    obtain ⟨x, hx⟩ := t
    exact ⟨x, Option.some.inj hx⟩
  refine l_r1 C dL_law_208 ?_
  refine l_arg (j := 1) C (by omega) (by decide) dL_law_209 dL_law_210 dL_law_211 dL_law_212 dL_law_213 ?_
  refine l_arg (j := 2) C (by omega) (by decide) dL_law_214 dL_law_215 dL_law_216 dL_law_217 dL_law_218 ?_
  refine l_arg (j := 3) C (by omega) (by decide) dL_law_219 dL_law_220 dL_law_221 dL_law_222 dL_law_223 ?_
  refine l_cx (as := [.int (xs (i + 1)), .int (xs (i + 2)), .int (xs (i + 3))]) (n := 3) (d := 12) C zi_89 cvL_13 (h1 (fun v μ' => v = some (.int x) ∧ A μ') (fun μ' h => ⟨rfl, h⟩)) rfl (fun _ => rfl) (by decide) (Nat.le_of_ble_eq_true rfl) dL_law_224 (fun v μ' hv => ?_)
  obtain ⟨rfl, hA⟩ := hv
  refine l_r2 C dL_law_227 ?_
  refine l_arg (j := 1) C (by omega) (by decide) dL_law_228 dL_law_229 dL_law_230 dL_law_231 dL_law_232 ?_
  refine l_arg (j := 2) C (by omega) (by decide) dL_law_233 dL_law_234 dL_law_235 dL_law_236 dL_law_237 ?_
  refine l_arg (j := 3) C (by omega) (by decide) dL_law_238 dL_law_239 dL_law_240 dL_law_241 dL_law_242 ?_
  refine l_cm (as := [.int (xs (i + 1)), .int (xs (i + 2)), .int (xs (i + 3))]) (n := 3) (d := 12) C zi_139 cvL_17 (h2 (fun v ν' => v = some (.int x) ∧ B ν') (fun ν' h => ⟨rfl, h⟩)) rfl (fun _ => rfl) (by decide) (Nat.le_of_ble_eq_true rfl) dL_law_243 (fun v ν' hv => ?_)
  obtain ⟨rfl, hB⟩ := hv
  exact l_eq (tgt := 1430) C dL_law_246 (by decide) (hn _ _ (h3 _ _ hA hB))
theorem la_1 (C : lC G p s m meth c b L xs) (hi : i + 6 ≤ L) (h : Rel μ ν) (hn : ∀ μ ν, Rel μ ν → lW G p l e s m below meth c b 1430 μ ν i []) : lW G p l e s m below meth c b 251 μ ν i [] := by
  obtain ⟨r, A, B, h1, h2, h3⟩ : StG FO 12 90 140 [.int (xs (i + 1)), .int (xs (i + 2))] μ ν := (st_as (d := 0) FO_Fdr h (xs (i + 1)) (xs (i + 2))).g
  obtain ⟨x, rfl⟩ : ∃ x, r = .int x := by
    obtain ⟨v, μ1, t, rfl⟩ := KK_tok (h1 (fun v _ => v = some r) (fun _ _ => rfl))
    rw [zi_90] at t
    obtain ⟨x, hx⟩ := t
    exact ⟨x, Option.some.inj hx⟩
  refine l_r1 C dL_law_251 ?_
  refine l_arg (j := 1) C (by omega) (by decide) dL_law_252 dL_law_253 dL_law_254 dL_law_255 dL_law_256 ?_
  refine l_arg (j := 2) C (by omega) (by decide) dL_law_257 dL_law_258 dL_law_259 dL_law_260 dL_law_261 ?_
  refine l_cx (as := [.int (xs (i + 1)), .int (xs (i + 2))]) (n := 2) (d := 12) C zi_90 cvL_18 (h1 (fun v μ' => v = some (.int x) ∧ A μ') (fun μ' h => ⟨rfl, h⟩)) rfl (fun _ => rfl) (by decide) (Nat.le_of_ble_eq_true rfl) dL_law_262 (fun v μ' hv => ?_)
  obtain ⟨rfl, hA⟩ := hv
  refine l_r2 C dL_law_265 ?_
  refine l_arg (j := 1) C (by omega) (by decide) dL_law_266 dL_law_267 dL_law_268 dL_law_269 dL_law_270 ?_
  refine l_arg (j := 2) C (by omega) (by decide) dL_law_271 dL_law_272 dL_law_273 dL_law_274 dL_law_275 ?_
  refine l_cm (as := [.int (xs (i + 1)), .int (xs (i + 2))]) (n := 2) (d := 12) C zi_140 cvL_22 (h2 (fun v ν' => v = some (.int x) ∧ B ν') (fun ν' h => ⟨rfl, h⟩)) rfl (fun _ => rfl) (by decide) (Nat.le_of_ble_eq_true rfl) dL_law_276 (fun v ν' hv => ?_)
  obtain ⟨rfl, hB⟩ := hv
  exact l_eq (tgt := 1430) C dL_law_279 (by decide) (hn _ _ (h3 _ _ hA hB))
theorem la_2 (C : lC G p s m meth c b L xs) (hi : i + 6 ≤ L) (h : Rel μ ν) (hn : ∀ μ ν, Rel μ ν → lW G p l e s m below meth c b 1430 μ ν i []) : lW G p l e s m below meth c b 284 μ ν i [] := by
  obtain ⟨r, A, B, h1, h2, h3⟩ : StG FO 12 91 142 [.int (xs (i + 1))] μ ν := (st_size (d := 0) FO_Fdr h (xs (i + 1))).g
  obtain ⟨x, rfl⟩ : ∃ x, r = .int x := by
    obtain ⟨v, μ1, t, rfl⟩ := KK_tok (h1 (fun v _ => v = some r) (fun _ _ => rfl))
    rw [zi_91] at t
    obtain ⟨x, hx⟩ := t
    exact ⟨x, Option.some.inj hx⟩
  refine l_r1 C dL_law_284 ?_
  refine l_arg (j := 1) C (by omega) (by decide) dL_law_285 dL_law_286 dL_law_287 dL_law_288 dL_law_289 ?_
  refine l_cx (as := [.int (xs (i + 1))]) (n := 1) (d := 12) C zi_91 cvL_23 (h1 (fun v μ' => v = some (.int x) ∧ A μ') (fun μ' h => ⟨rfl, h⟩)) rfl (fun _ => rfl) (by decide) (Nat.le_of_ble_eq_true rfl) dL_law_290 (fun v μ' hv => ?_)
  obtain ⟨rfl, hA⟩ := hv
  refine l_r2 C dL_law_293 ?_
  refine l_arg (j := 1) C (by omega) (by decide) dL_law_294 dL_law_295 dL_law_296 dL_law_297 dL_law_298 ?_
  refine l_cm (as := [.int (xs (i + 1))]) (n := 1) (d := 12) C zi_142 cvL_27 (h2 (fun v ν' => v = some (.int x) ∧ B ν') (fun ν' h => ⟨rfl, h⟩)) rfl (fun _ => rfl) (by decide) (Nat.le_of_ble_eq_true rfl) dL_law_299 (fun v ν' hv => ?_)
  obtain ⟨rfl, hB⟩ := hv
  exact l_eq (tgt := 1430) C dL_law_302 (by decide) (hn _ _ (h3 _ _ hA hB))
theorem la_3 (C : lC G p s m meth c b L xs) (hi : i + 6 ≤ L) (h : Rel μ ν) (hn : ∀ μ ν, Rel μ ν → lW G p l e s m below meth c b 1430 μ ν i []) : lW G p l e s m below meth c b 307 μ ν i [] := by
  obtain ⟨r, A, B, h1, h2, h3⟩ : StG FO 12 92 144 [.int (xs (i + 1)), .int (xs (i + 2)), .int (xs (i + 3))] μ ν := (st_grade (d := 0) FO_Fdr h (xs (i + 1)) (xs (i + 2)) (xs (i + 3))).g
  obtain ⟨x, rfl⟩ : ∃ x, r = .int x := by
    obtain ⟨v, μ1, t, rfl⟩ := KK_tok (h1 (fun v _ => v = some r) (fun _ _ => rfl))
    rw [zi_92] at t
    obtain ⟨x, hx⟩ := t
    exact ⟨x, Option.some.inj hx⟩
  refine l_r1 C dL_law_307 ?_
  refine l_arg (j := 1) C (by omega) (by decide) dL_law_308 dL_law_309 dL_law_310 dL_law_311 dL_law_312 ?_
  refine l_arg (j := 2) C (by omega) (by decide) dL_law_313 dL_law_314 dL_law_315 dL_law_316 dL_law_317 ?_
  refine l_arg (j := 3) C (by omega) (by decide) dL_law_318 dL_law_319 dL_law_320 dL_law_321 dL_law_322 ?_
  refine l_cx (as := [.int (xs (i + 1)), .int (xs (i + 2)), .int (xs (i + 3))]) (n := 3) (d := 12) C zi_92 cvL_28 (h1 (fun v μ' => v = some (.int x) ∧ A μ') (fun μ' h => ⟨rfl, h⟩)) rfl (fun _ => rfl) (by decide) (Nat.le_of_ble_eq_true rfl) dL_law_323 (fun v μ' hv => ?_)
  obtain ⟨rfl, hA⟩ := hv
  refine l_r2 C dL_law_326 ?_
  refine l_arg (j := 1) C (by omega) (by decide) dL_law_327 dL_law_328 dL_law_329 dL_law_330 dL_law_331 ?_
  refine l_arg (j := 2) C (by omega) (by decide) dL_law_332 dL_law_333 dL_law_334 dL_law_335 dL_law_336 ?_
  refine l_arg (j := 3) C (by omega) (by decide) dL_law_337 dL_law_338 dL_law_339 dL_law_340 dL_law_341 ?_
  refine l_cm (as := [.int (xs (i + 1)), .int (xs (i + 2)), .int (xs (i + 3))]) (n := 3) (d := 12) C zi_144 cvL_31 (h2 (fun v ν' => v = some (.int x) ∧ B ν') (fun ν' h => ⟨rfl, h⟩)) rfl (fun _ => rfl) (by decide) (Nat.le_of_ble_eq_true rfl) dL_law_342 (fun v ν' hv => ?_)
  obtain ⟨rfl, hB⟩ := hv
  exact l_eq (tgt := 1430) C dL_law_345 (by decide) (hn _ _ (h3 _ _ hA hB))
theorem la_4 (C : lC G p s m meth c b L xs) (hi : i + 6 ≤ L) (h : Rel μ ν) (hn : ∀ μ ν, Rel μ ν → lW G p l e s m below meth c b 1430 μ ν i []) : lW G p l e s m below meth c b 350 μ ν i [] := by
  obtain ⟨r, A, B, h1, h2, h3⟩ : StG FO 12 93 146 [.int (xs (i + 1)), .int (xs (i + 2))] μ ν := (st_price (d := 0) FO_Fdr h (xs (i + 1)) (xs (i + 2))).g
  obtain ⟨x, rfl⟩ : ∃ x, r = .int x := by
    obtain ⟨v, μ1, t, rfl⟩ := KK_tok (h1 (fun v _ => v = some r) (fun _ _ => rfl))
    rw [zi_93] at t
    obtain ⟨x, hx⟩ := t
    exact ⟨x, Option.some.inj hx⟩
  refine l_r1 C dL_law_350 ?_
  refine l_arg (j := 1) C (by omega) (by decide) dL_law_351 dL_law_352 dL_law_353 dL_law_354 dL_law_355 ?_
  refine l_arg (j := 2) C (by omega) (by decide) dL_law_356 dL_law_357 dL_law_358 dL_law_359 dL_law_360 ?_
  refine l_cx (as := [.int (xs (i + 1)), .int (xs (i + 2))]) (n := 2) (d := 12) C zi_93 cvL_32 (h1 (fun v μ' => v = some (.int x) ∧ A μ') (fun μ' h => ⟨rfl, h⟩)) rfl (fun _ => rfl) (by decide) (Nat.le_of_ble_eq_true rfl) dL_law_361 (fun v μ' hv => ?_)
  obtain ⟨rfl, hA⟩ := hv
  refine l_r2 C dL_law_364 ?_
  refine l_arg (j := 1) C (by omega) (by decide) dL_law_365 dL_law_366 dL_law_367 dL_law_368 dL_law_369 ?_
  refine l_arg (j := 2) C (by omega) (by decide) dL_law_370 dL_law_371 dL_law_372 dL_law_373 dL_law_374 ?_
  refine l_cm (as := [.int (xs (i + 1)), .int (xs (i + 2))]) (n := 2) (d := 12) C zi_146 cvL_35 (h2 (fun v ν' => v = some (.int x) ∧ B ν') (fun ν' h => ⟨rfl, h⟩)) rfl (fun _ => rfl) (by decide) (Nat.le_of_ble_eq_true rfl) dL_law_375 (fun v ν' hv => ?_)
  obtain ⟨rfl, hB⟩ := hv
  exact l_eq (tgt := 1430) C dL_law_378 (by decide) (hn _ _ (h3 _ _ hA hB))
theorem la_5 (C : lC G p s m meth c b L xs) (hi : i + 6 ≤ L) (h : Rel μ ν) (hn : ∀ μ ν, Rel μ ν → lW G p l e s m below meth c b 1430 μ ν i []) : lW G p l e s m below meth c b 383 μ ν i [] := by
  obtain ⟨r, A, B, h1, h2, h3⟩ : StG FO 12 94 147 [.int (xs (i + 1)), .int (xs (i + 2)), .int (xs (i + 3))] μ ν := (st_counted (d := 0) FO_Fdr h (xs (i + 1)) (xs (i + 2)) (xs (i + 3))).g
  obtain ⟨x, rfl⟩ : ∃ x, r = .int x := by
    obtain ⟨v, μ1, t, rfl⟩ := KK_tok (h1 (fun v _ => v = some r) (fun _ _ => rfl))
    rw [zi_94] at t
    obtain ⟨x, hx⟩ := t
    exact ⟨x, Option.some.inj hx⟩
  refine l_r1 C dL_law_383 ?_
  refine l_arg (j := 1) C (by omega) (by decide) dL_law_384 dL_law_385 dL_law_386 dL_law_387 dL_law_388 ?_
  refine l_arg (j := 2) C (by omega) (by decide) dL_law_389 dL_law_390 dL_law_391 dL_law_392 dL_law_393 ?_
  refine l_arg (j := 3) C (by omega) (by decide) dL_law_394 dL_law_395 dL_law_396 dL_law_397 dL_law_398 ?_
  refine l_cx (as := [.int (xs (i + 1)), .int (xs (i + 2)), .int (xs (i + 3))]) (n := 3) (d := 12) C zi_94 cvL_36 (h1 (fun v μ' => v = some (.int x) ∧ A μ') (fun μ' h => ⟨rfl, h⟩)) rfl (fun _ => rfl) (by decide) (Nat.le_of_ble_eq_true rfl) dL_law_399 (fun v μ' hv => ?_)
  obtain ⟨rfl, hA⟩ := hv
  refine l_r2 C dL_law_402 ?_
  refine l_arg (j := 1) C (by omega) (by decide) dL_law_403 dL_law_404 dL_law_405 dL_law_406 dL_law_407 ?_
  refine l_arg (j := 2) C (by omega) (by decide) dL_law_408 dL_law_409 dL_law_410 dL_law_411 dL_law_412 ?_
  refine l_arg (j := 3) C (by omega) (by decide) dL_law_413 dL_law_414 dL_law_415 dL_law_416 dL_law_417 ?_
  refine l_cm (as := [.int (xs (i + 1)), .int (xs (i + 2)), .int (xs (i + 3))]) (n := 3) (d := 12) C zi_147 cvL_39 (h2 (fun v ν' => v = some (.int x) ∧ B ν') (fun ν' h => ⟨rfl, h⟩)) rfl (fun _ => rfl) (by decide) (Nat.le_of_ble_eq_true rfl) dL_law_418 (fun v ν' hv => ?_)
  obtain ⟨rfl, hB⟩ := hv
  exact l_eq (tgt := 1430) C dL_law_421 (by decide) (hn _ _ (h3 _ _ hA hB))
theorem la_6 (C : lC G p s m meth c b L xs) (hi : i + 6 ≤ L) (h : Rel μ ν) (hn : ∀ μ ν, Rel μ ν → lW G p l e s m below meth c b 1430 μ ν i []) : lW G p l e s m below meth c b 426 μ ν i [] := by
  obtain ⟨r, A, B, h1, h2, h3⟩ : StG FO 12 95 148 [.long (lettersArg (xs (i + 1)) (xs (i + 2)))] μ ν := st_letters (d := 0) FO_Fle h (lettersArg (xs (i + 1)) (xs (i + 2)))
  obtain ⟨x, rfl⟩ : ∃ x, r = .int x := by
    obtain ⟨v, μ1, t, rfl⟩ := KK_tok (h1 (fun v _ => v = some r) (fun _ _ => rfl))
    rw [zi_95] at t
    obtain ⟨x, hx⟩ := t
    exact ⟨x, Option.some.inj hx⟩
  refine l_r1 C dL_law_426 ?_
  refine l_arg (j := 1) C (by omega) (by decide) dL_law_427 dL_law_428 dL_law_429 dL_law_430 dL_law_431 ?_
  refine l_letA C dL_law_432 dL_law_433 dL_law_435 ?_
  refine l_arg (j := 2) C (by omega) (by decide) dL_law_436 dL_law_437 dL_law_438 dL_law_439 dL_law_440 ?_
  refine l_letB C dL_law_441 dL_law_442 dL_law_445 dL_law_446 ?_
  refine l_cx (as := [.long (lettersArg (xs (i + 1)) (xs (i + 2)))]) (n := 1) (d := 12) C zi_95 cvL_42 (h1 (fun v μ' => v = some (.int x) ∧ A μ') (fun μ' h => ⟨rfl, h⟩)) rfl (fun _ => rfl) (by decide) (Nat.le_of_ble_eq_true rfl) dL_law_447 (fun v μ' hv => ?_)
  obtain ⟨rfl, hA⟩ := hv
  refine l_r2 C dL_law_450 ?_
  refine l_arg (j := 1) C (by omega) (by decide) dL_law_451 dL_law_452 dL_law_453 dL_law_454 dL_law_455 ?_
  refine l_letA C dL_law_456 dL_law_457 dL_law_459 ?_
  refine l_arg (j := 2) C (by omega) (by decide) dL_law_460 dL_law_461 dL_law_462 dL_law_463 dL_law_464 ?_
  refine l_letB C dL_law_465 dL_law_466 dL_law_469 dL_law_470 ?_
  refine l_cm (as := [.long (lettersArg (xs (i + 1)) (xs (i + 2)))]) (n := 1) (d := 12) C zi_148 cvL_46 (h2 (fun v ν' => v = some (.int x) ∧ B ν') (fun ν' h => ⟨rfl, h⟩)) rfl (fun _ => rfl) (by decide) (Nat.le_of_ble_eq_true rfl) dL_law_471 (fun v ν' hv => ?_)
  obtain ⟨rfl, hB⟩ := hv
  exact l_eq (tgt := 1430) C dL_law_474 (by decide) (hn _ _ (h3 _ _ hA hB))
theorem la_7 (C : lC G p s m meth c b L xs) (hi : i + 6 ≤ L) (h : Rel μ ν) (hn : ∀ μ ν, Rel μ ν → lW G p l e s m below meth c b 1430 μ ν i []) : lW G p l e s m below meth c b 479 μ ν i [] := by
  obtain ⟨r, A, B, h1, h2, h3⟩ : StG FO 12 96 149 [] μ ν := (st_blank (d := 0) FO_Fdr h ).g
  obtain ⟨x, rfl⟩ : ∃ x, r = .int x := by
    obtain ⟨v, μ1, t, rfl⟩ := KK_tok (h1 (fun v _ => v = some r) (fun _ _ => rfl))
    rw [zi_96] at t
    obtain ⟨x, hx⟩ := t
    exact ⟨x, Option.some.inj hx⟩
  refine l_r1 C dL_law_479 ?_
  refine l_cx (as := []) (n := 0) (d := 12) C zi_96 cvL_47 (h1 (fun v μ' => v = some (.int x) ∧ A μ') (fun μ' h => ⟨rfl, h⟩)) rfl (fun _ => rfl) (by decide) (Nat.le_of_ble_eq_true rfl) dL_law_480 (fun v μ' hv => ?_)
  obtain ⟨rfl, hA⟩ := hv
  refine l_r2 C dL_law_483 ?_
  refine l_cm (as := []) (n := 0) (d := 12) C zi_149 cvL_51 (h2 (fun v ν' => v = some (.int x) ∧ B ν') (fun ν' h => ⟨rfl, h⟩)) rfl (fun _ => rfl) (by decide) (Nat.le_of_ble_eq_true rfl) dL_law_484 (fun v ν' hv => ?_)
  obtain ⟨rfl, hB⟩ := hv
  exact l_eq (tgt := 1430) C dL_law_487 (by decide) (hn _ _ (h3 _ _ hA hB))
theorem la_8 (C : lC G p s m meth c b L xs) (hi : i + 6 ≤ L) (h : Rel μ ν) (hn : ∀ μ ν, Rel μ ν → lW G p l e s m below meth c b 1430 μ ν i []) : lW G p l e s m below meth c b 492 μ ν i [] := by
  obtain ⟨r, A, B, h1, h2, h3⟩ : StG FO 12 97 151 [] μ ν := st_fault (d := 0) FO_Fpg h 
  obtain ⟨x, rfl⟩ : ∃ x, r = .int x := by
    obtain ⟨v, μ1, t, rfl⟩ := KK_tok (h1 (fun v _ => v = some r) (fun _ _ => rfl))
    rw [zi_97] at t
    obtain ⟨x, hx⟩ := t
    exact ⟨x, Option.some.inj hx⟩
  refine l_r1 C dL_law_492 ?_
  refine l_cx (as := []) (n := 0) (d := 12) C zi_97 cvL_52 (h1 (fun v μ' => v = some (.int x) ∧ A μ') (fun μ' h => ⟨rfl, h⟩)) rfl (fun _ => rfl) (by decide) (Nat.le_of_ble_eq_true rfl) dL_law_493 (fun v μ' hv => ?_)
  obtain ⟨rfl, hA⟩ := hv
  refine l_r2 C dL_law_496 ?_
  refine l_cm (as := []) (n := 0) (d := 12) C zi_151 cvL_55 (h2 (fun v ν' => v = some (.int x) ∧ B ν') (fun ν' h => ⟨rfl, h⟩)) rfl (fun _ => rfl) (by decide) (Nat.le_of_ble_eq_true rfl) dL_law_497 (fun v ν' hv => ?_)
  obtain ⟨rfl, hB⟩ := hv
  exact l_eq (tgt := 1430) C dL_law_500 (by decide) (hn _ _ (h3 _ _ hA hB))
theorem la_9 (C : lC G p s m meth c b L xs) (hi : i + 6 ≤ L) (h : Rel μ ν) (hn : ∀ μ ν, Rel μ ν → lW G p l e s m below meth c b 1430 μ ν i []) : lW G p l e s m below meth c b 505 μ ν i [] := by
  obtain ⟨r, A, B, h1, h2, h3⟩ : StG FO 12 98 152 [] μ ν := st_chain (d := 0) FO_Fpg h 
  obtain ⟨x, rfl⟩ : ∃ x, r = .int x := by
    obtain ⟨v, μ1, t, rfl⟩ := KK_tok (h1 (fun v _ => v = some r) (fun _ _ => rfl))
    rw [zi_98] at t
    obtain ⟨x, hx⟩ := t
    exact ⟨x, Option.some.inj hx⟩
  refine l_r1 C dL_law_505 ?_
  refine l_cx (as := []) (n := 0) (d := 12) C zi_98 cvL_56 (h1 (fun v μ' => v = some (.int x) ∧ A μ') (fun μ' h => ⟨rfl, h⟩)) rfl (fun _ => rfl) (by decide) (Nat.le_of_ble_eq_true rfl) dL_law_506 (fun v μ' hv => ?_)
  obtain ⟨rfl, hA⟩ := hv
  refine l_r2 C dL_law_509 ?_
  refine l_cm (as := []) (n := 0) (d := 12) C zi_152 cvL_59 (h2 (fun v ν' => v = some (.int x) ∧ B ν') (fun ν' h => ⟨rfl, h⟩)) rfl (fun _ => rfl) (by decide) (Nat.le_of_ble_eq_true rfl) dL_law_510 (fun v ν' hv => ?_)
  obtain ⟨rfl, hB⟩ := hv
  exact l_eq (tgt := 1430) C dL_law_513 (by decide) (hn _ _ (h3 _ _ hA hB))
theorem la_10 (C : lC G p s m meth c b L xs) (hi : i + 6 ≤ L) (h : Rel μ ν) (hn : ∀ μ ν, Rel μ ν → lW G p l e s m below meth c b 1430 μ ν i []) : lW G p l e s m below meth c b 518 μ ν i [] := by
  obtain ⟨r, A, B, h1, h2, h3⟩ : StG FO 12 99 158 [.int (xs (i + 1)), .int (xs (i + 2))] μ ν := (st_of (d := 0) FO_Fch h (xs (i + 1)) (xs (i + 2))).g
  obtain ⟨x, rfl⟩ : ∃ x, r = .int x := by
    obtain ⟨v, μ1, t, rfl⟩ := KK_tok (h1 (fun v _ => v = some r) (fun _ _ => rfl))
    rw [zi_99] at t
    obtain ⟨x, hx⟩ := t
    exact ⟨x, Option.some.inj hx⟩
  refine l_r1 C dL_law_518 ?_
  refine l_arg (j := 1) C (by omega) (by decide) dL_law_519 dL_law_520 dL_law_521 dL_law_522 dL_law_523 ?_
  refine l_arg (j := 2) C (by omega) (by decide) dL_law_524 dL_law_525 dL_law_526 dL_law_527 dL_law_528 ?_
  refine l_cx (as := [.int (xs (i + 1)), .int (xs (i + 2))]) (n := 2) (d := 12) C zi_99 cvL_60 (h1 (fun v μ' => v = some (.int x) ∧ A μ') (fun μ' h => ⟨rfl, h⟩)) rfl (fun _ => rfl) (by decide) (Nat.le_of_ble_eq_true rfl) dL_law_529 (fun v μ' hv => ?_)
  obtain ⟨rfl, hA⟩ := hv
  refine l_r2 C dL_law_532 ?_
  refine l_arg (j := 1) C (by omega) (by decide) dL_law_533 dL_law_534 dL_law_535 dL_law_536 dL_law_537 ?_
  refine l_arg (j := 2) C (by omega) (by decide) dL_law_538 dL_law_539 dL_law_540 dL_law_541 dL_law_542 ?_
  refine l_cm (as := [.int (xs (i + 1)), .int (xs (i + 2))]) (n := 2) (d := 12) C zi_158 cvL_63 (h2 (fun v ν' => v = some (.int x) ∧ B ν') (fun ν' h => ⟨rfl, h⟩)) rfl (fun _ => rfl) (by decide) (Nat.le_of_ble_eq_true rfl) dL_law_543 (fun v ν' hv => ?_)
  obtain ⟨rfl, hB⟩ := hv
  exact l_eq (tgt := 1430) C dL_law_546 (by decide) (hn _ _ (h3 _ _ hA hB))
theorem la_11 (C : lC G p s m meth c b L xs) (hi : i + 6 ≤ L) (h : Rel μ ν) (hn : ∀ μ ν, Rel μ ν → lW G p l e s m below meth c b 1430 μ ν i []) : lW G p l e s m below meth c b 551 μ ν i [] := by
  obtain ⟨r, A, B, h1, h2, h3⟩ : StG FO 12 100 159 [.int (xs (i + 1)), .int (xs (i + 2))] μ ν := st_odds (d := 0) FO_Fgc h (xs (i + 1)) (xs (i + 2))
  obtain ⟨x, rfl⟩ : ∃ x, r = .long x := by
    obtain ⟨v, μ1, t, rfl⟩ := KK_tok (h1 (fun v _ => v = some r) (fun _ _ => rfl))
    rw [zi_100] at t
    obtain ⟨x, hx⟩ := t
    exact ⟨x, Option.some.inj hx⟩
  refine l_r1 C dL_law_551 ?_
  refine l_arg (j := 1) C (by omega) (by decide) dL_law_552 dL_law_553 dL_law_554 dL_law_555 dL_law_556 ?_
  refine l_arg (j := 2) C (by omega) (by decide) dL_law_557 dL_law_558 dL_law_559 dL_law_560 dL_law_561 ?_
  refine l_cx (as := [.int (xs (i + 1)), .int (xs (i + 2))]) (n := 2) (d := 12) C zi_100 cvL_64 (h1 (fun v μ' => v = some (.long x) ∧ A μ') (fun μ' h => ⟨rfl, h⟩)) rfl (fun _ => rfl) (by decide) (Nat.le_of_ble_eq_true rfl) dL_law_562 (fun v μ' hv => ?_)
  obtain ⟨rfl, hA⟩ := hv
  refine l_r2 C dL_law_565 ?_
  refine l_arg (j := 1) C (by omega) (by decide) dL_law_566 dL_law_567 dL_law_568 dL_law_569 dL_law_570 ?_
  refine l_arg (j := 2) C (by omega) (by decide) dL_law_571 dL_law_572 dL_law_573 dL_law_574 dL_law_575 ?_
  refine l_cm (as := [.int (xs (i + 1)), .int (xs (i + 2))]) (n := 2) (d := 12) C zi_159 cvL_68 (h2 (fun v ν' => v = some (.long x) ∧ B ν') (fun ν' h => ⟨rfl, h⟩)) rfl (fun _ => rfl) (by decide) (Nat.le_of_ble_eq_true rfl) dL_law_576 (fun v ν' hv => ?_)
  obtain ⟨rfl, hB⟩ := hv
  exact l_eqL (tgt := 1430) C dL_law_579 dL_law_580 (by decide) (hn _ _ (h3 _ _ hA hB))
theorem la_12 (C : lC G p s m meth c b L xs) (hi : i + 6 ≤ L) (h : Rel μ ν) (hn : ∀ μ ν, Rel μ ν → lW G p l e s m below meth c b 1430 μ ν i []) : lW G p l e s m below meth c b 585 μ ν i [] := by
  obtain ⟨r, A, B, h1, h2, h3⟩ : StG FO 13 101 161 [.int (xs (i + 1)), .int (xs (i + 2))] μ ν := st_giveOut (d := 0) FO_Fgm h (xs (i + 1)) (xs (i + 2))
  obtain ⟨x, rfl⟩ : ∃ x, r = .int x := by
    obtain ⟨v, μ1, t, rfl⟩ := KK_tok (h1 (fun v _ => v = some r) (fun _ _ => rfl))
    rw [zi_101] at t
    obtain ⟨x, hx⟩ := t
    exact ⟨x, Option.some.inj hx⟩
  refine l_r1 C dL_law_585 ?_
  refine l_arg (j := 1) C (by omega) (by decide) dL_law_586 dL_law_587 dL_law_588 dL_law_589 dL_law_590 ?_
  refine l_arg (j := 2) C (by omega) (by decide) dL_law_591 dL_law_592 dL_law_593 dL_law_594 dL_law_595 ?_
  refine l_cx (as := [.int (xs (i + 1)), .int (xs (i + 2))]) (n := 2) (d := 13) C zi_101 cvL_69 (h1 (fun v μ' => v = some (.int x) ∧ A μ') (fun μ' h => ⟨rfl, h⟩)) rfl (fun _ => rfl) (by decide) (Nat.le_of_ble_eq_true rfl) dL_law_596 (fun v μ' hv => ?_)
  obtain ⟨rfl, hA⟩ := hv
  refine l_r2 C dL_law_599 ?_
  refine l_arg (j := 1) C (by omega) (by decide) dL_law_600 dL_law_601 dL_law_602 dL_law_603 dL_law_604 ?_
  refine l_arg (j := 2) C (by omega) (by decide) dL_law_605 dL_law_606 dL_law_607 dL_law_608 dL_law_609 ?_
  refine l_cm (as := [.int (xs (i + 1)), .int (xs (i + 2))]) (n := 2) (d := 13) C zi_161 cvL_72 (h2 (fun v ν' => v = some (.int x) ∧ B ν') (fun ν' h => ⟨rfl, h⟩)) rfl (fun _ => rfl) (by decide) (Nat.le_of_ble_eq_true rfl) dL_law_610 (fun v ν' hv => ?_)
  obtain ⟨rfl, hB⟩ := hv
  exact l_eq (tgt := 1430) C dL_law_613 (by decide) (hn _ _ (h3 _ _ hA hB))
theorem la_13 (C : lC G p s m meth c b L xs) (hi : i + 6 ≤ L) (h : Rel μ ν) (hn : ∀ μ ν, Rel μ ν → lW G p l e s m below meth c b 1430 μ ν i []) : lW G p l e s m below meth c b 618 μ ν i [] := by
  obtain ⟨r, A, B, h1, h2, h3⟩ : StG FO 12 102 162 [.int (xs (i + 1)), .int (xs (i + 2))] μ ν := (st_thing (d := 0) FO_Fdr h (xs (i + 1)) (xs (i + 2))).g
  obtain ⟨x, rfl⟩ : ∃ x, r = .int x := by
    obtain ⟨v, μ1, t, rfl⟩ := KK_tok (h1 (fun v _ => v = some r) (fun _ _ => rfl))
    rw [zi_102] at t
    obtain ⟨x, hx⟩ := t
    exact ⟨x, Option.some.inj hx⟩
  refine l_r1 C dL_law_618 ?_
  refine l_arg (j := 1) C (by omega) (by decide) dL_law_619 dL_law_620 dL_law_621 dL_law_622 dL_law_623 ?_
  refine l_arg (j := 2) C (by omega) (by decide) dL_law_624 dL_law_625 dL_law_626 dL_law_627 dL_law_628 ?_
  refine l_cx (as := [.int (xs (i + 1)), .int (xs (i + 2))]) (n := 2) (d := 12) C zi_102 cvL_73 (h1 (fun v μ' => v = some (.int x) ∧ A μ') (fun μ' h => ⟨rfl, h⟩)) rfl (fun _ => rfl) (by decide) (Nat.le_of_ble_eq_true rfl) dL_law_629 (fun v μ' hv => ?_)
  obtain ⟨rfl, hA⟩ := hv
  refine l_r2 C dL_law_632 ?_
  refine l_arg (j := 1) C (by omega) (by decide) dL_law_633 dL_law_634 dL_law_635 dL_law_636 dL_law_637 ?_
  refine l_arg (j := 2) C (by omega) (by decide) dL_law_638 dL_law_639 dL_law_640 dL_law_641 dL_law_642 ?_
  refine l_cm (as := [.int (xs (i + 1)), .int (xs (i + 2))]) (n := 2) (d := 12) C zi_162 cvL_76 (h2 (fun v ν' => v = some (.int x) ∧ B ν') (fun ν' h => ⟨rfl, h⟩)) rfl (fun _ => rfl) (by decide) (Nat.le_of_ble_eq_true rfl) dL_law_643 (fun v ν' hv => ?_)
  obtain ⟨rfl, hB⟩ := hv
  exact l_eq (tgt := 1430) C dL_law_646 (by decide) (hn _ _ (h3 _ _ hA hB))
theorem la_14 (C : lC G p s m meth c b L xs) (hi : i + 6 ≤ L) (h : Rel μ ν) (hn : ∀ μ ν, Rel μ ν → lW G p l e s m below meth c b 1430 μ ν i []) : lW G p l e s m below meth c b 651 μ ν i [] := by
  obtain ⟨r, A, B, h1, h2, h3⟩ : StG FO 12 103 163 [.int (xs (i + 1)), .int (xs (i + 2)), .int (xs (i + 3))] μ ν := (st_measure (d := 0) FO_Fkn h (xs (i + 1)) (xs (i + 2)) (xs (i + 3))).g
  obtain ⟨x, rfl⟩ : ∃ x, r = .int x := by
    obtain ⟨v, μ1, t, rfl⟩ := KK_tok (h1 (fun v _ => v = some r) (fun _ _ => rfl))
    rw [zi_103] at t
    obtain ⟨x, hx⟩ := t
    exact ⟨x, Option.some.inj hx⟩
  refine l_r1 C dL_law_651 ?_
  refine l_arg (j := 1) C (by omega) (by decide) dL_law_652 dL_law_653 dL_law_654 dL_law_655 dL_law_656 ?_
  refine l_arg (j := 2) C (by omega) (by decide) dL_law_657 dL_law_658 dL_law_659 dL_law_660 dL_law_661 ?_
  refine l_arg (j := 3) C (by omega) (by decide) dL_law_662 dL_law_663 dL_law_664 dL_law_665 dL_law_666 ?_
  refine l_cx (as := [.int (xs (i + 1)), .int (xs (i + 2)), .int (xs (i + 3))]) (n := 3) (d := 12) C zi_103 cvL_77 (h1 (fun v μ' => v = some (.int x) ∧ A μ') (fun μ' h => ⟨rfl, h⟩)) rfl (fun _ => rfl) (by decide) (Nat.le_of_ble_eq_true rfl) dL_law_667 (fun v μ' hv => ?_)
  obtain ⟨rfl, hA⟩ := hv
  refine l_r2 C dL_law_670 ?_
  refine l_arg (j := 1) C (by omega) (by decide) dL_law_671 dL_law_672 dL_law_673 dL_law_674 dL_law_675 ?_
  refine l_arg (j := 2) C (by omega) (by decide) dL_law_676 dL_law_677 dL_law_678 dL_law_679 dL_law_680 ?_
  refine l_arg (j := 3) C (by omega) (by decide) dL_law_681 dL_law_682 dL_law_683 dL_law_684 dL_law_685 ?_
  refine l_cm (as := [.int (xs (i + 1)), .int (xs (i + 2)), .int (xs (i + 3))]) (n := 3) (d := 12) C zi_163 cvL_80 (h2 (fun v ν' => v = some (.int x) ∧ B ν') (fun ν' h => ⟨rfl, h⟩)) rfl (fun _ => rfl) (by decide) (Nat.le_of_ble_eq_true rfl) dL_law_686 (fun v ν' hv => ?_)
  obtain ⟨rfl, hB⟩ := hv
  exact l_eq (tgt := 1430) C dL_law_689 (by decide) (hn _ _ (h3 _ _ hA hB))
theorem la_15 (C : lC G p s m meth c b L xs) (hi : i + 6 ≤ L) (h : Rel μ ν) (hn : ∀ μ ν, Rel μ ν → lW G p l e s m below meth c b 1430 μ ν i []) : lW G p l e s m below meth c b 694 μ ν i [] := by
  obtain ⟨r, A, B, h1, h2, h3⟩ : StG FO 12 104 167 [.int (xs (i + 1)), .int (xs (i + 2))] μ ν := (st_known (d := 0) FO_Fkn h (xs (i + 1)) (xs (i + 2))).g
  obtain ⟨x, rfl⟩ : ∃ x, r = .int x := by
    obtain ⟨v, μ1, t, rfl⟩ := KK_tok (h1 (fun v _ => v = some r) (fun _ _ => rfl))
    rw [zi_104] at t
    obtain ⟨x, hx⟩ := t
    exact ⟨x, Option.some.inj hx⟩
  refine l_r1 C dL_law_694 ?_
  refine l_arg (j := 1) C (by omega) (by decide) dL_law_695 dL_law_696 dL_law_697 dL_law_698 dL_law_699 ?_
  refine l_arg (j := 2) C (by omega) (by decide) dL_law_700 dL_law_701 dL_law_702 dL_law_703 dL_law_704 ?_
  refine l_cx (as := [.int (xs (i + 1)), .int (xs (i + 2))]) (n := 2) (d := 12) C zi_104 cvL_81 (h1 (fun v μ' => v = some (.int x) ∧ A μ') (fun μ' h => ⟨rfl, h⟩)) rfl (fun _ => rfl) (by decide) (Nat.le_of_ble_eq_true rfl) dL_law_705 (fun v μ' hv => ?_)
  obtain ⟨rfl, hA⟩ := hv
  refine l_r2 C dL_law_708 ?_
  refine l_arg (j := 1) C (by omega) (by decide) dL_law_709 dL_law_710 dL_law_711 dL_law_712 dL_law_713 ?_
  refine l_arg (j := 2) C (by omega) (by decide) dL_law_714 dL_law_715 dL_law_716 dL_law_717 dL_law_718 ?_
  refine l_cm (as := [.int (xs (i + 1)), .int (xs (i + 2))]) (n := 2) (d := 12) C zi_167 cvL_84 (h2 (fun v ν' => v = some (.int x) ∧ B ν') (fun ν' h => ⟨rfl, h⟩)) rfl (fun _ => rfl) (by decide) (Nat.le_of_ble_eq_true rfl) dL_law_719 (fun v ν' hv => ?_)
  obtain ⟨rfl, hB⟩ := hv
  exact l_eq (tgt := 1430) C dL_law_722 (by decide) (hn _ _ (h3 _ _ hA hB))
theorem la_16 (C : lC G p s m meth c b L xs) (hi : i + 6 ≤ L) (h : Rel μ ν) (hn : ∀ μ ν, Rel μ ν → lW G p l e s m below meth c b 1430 μ ν i []) : lW G p l e s m below meth c b 727 μ ν i [] := by
  obtain ⟨r, A, B, h1, h2, h3⟩ : StG FO 12 105 173 [.int (xs (i + 1)), .int (xs (i + 2)), .int (xs (i + 3)), .int (xs (i + 4)), .int (xs (i + 5))] μ ν := st_pairs (d := 0) FO_Fpa h (xs (i + 1)) (xs (i + 2)) (xs (i + 3)) (xs (i + 4)) (xs (i + 5))
  obtain ⟨x, rfl⟩ : ∃ x, r = .int x := by
    obtain ⟨v, μ1, t, rfl⟩ := KK_tok (h1 (fun v _ => v = some r) (fun _ _ => rfl))
    rw [zi_105] at t
    obtain ⟨x, hx⟩ := t
    exact ⟨x, Option.some.inj hx⟩
  refine l_r1 C dL_law_727 ?_
  refine l_arg (j := 1) C (by omega) (by decide) dL_law_728 dL_law_729 dL_law_730 dL_law_731 dL_law_732 ?_
  refine l_arg (j := 2) C (by omega) (by decide) dL_law_733 dL_law_734 dL_law_735 dL_law_736 dL_law_737 ?_
  refine l_arg (j := 3) C (by omega) (by decide) dL_law_738 dL_law_739 dL_law_740 dL_law_741 dL_law_742 ?_
  refine l_arg (j := 4) C (by omega) (by decide) dL_law_743 dL_law_744 dL_law_745 dL_law_746 dL_law_747 ?_
  refine l_arg (j := 5) C (by omega) (by decide) dL_law_748 dL_law_749 dL_law_750 dL_law_751 dL_law_752 ?_
  refine l_cx (as := [.int (xs (i + 1)), .int (xs (i + 2)), .int (xs (i + 3)), .int (xs (i + 4)), .int (xs (i + 5))]) (n := 5) (d := 12) C zi_105 cvL_85 (h1 (fun v μ' => v = some (.int x) ∧ A μ') (fun μ' h => ⟨rfl, h⟩)) rfl (fun _ => rfl) (by decide) (Nat.le_of_ble_eq_true rfl) dL_law_753 (fun v μ' hv => ?_)
  obtain ⟨rfl, hA⟩ := hv
  refine l_r2 C dL_law_756 ?_
  refine l_arg (j := 1) C (by omega) (by decide) dL_law_757 dL_law_758 dL_law_759 dL_law_760 dL_law_761 ?_
  refine l_arg (j := 2) C (by omega) (by decide) dL_law_762 dL_law_763 dL_law_764 dL_law_765 dL_law_766 ?_
  refine l_arg (j := 3) C (by omega) (by decide) dL_law_767 dL_law_768 dL_law_769 dL_law_770 dL_law_771 ?_
  refine l_arg (j := 4) C (by omega) (by decide) dL_law_772 dL_law_773 dL_law_774 dL_law_775 dL_law_776 ?_
  refine l_arg (j := 5) C (by omega) (by decide) dL_law_777 dL_law_778 dL_law_779 dL_law_780 dL_law_781 ?_
  refine l_cm (as := [.int (xs (i + 1)), .int (xs (i + 2)), .int (xs (i + 3)), .int (xs (i + 4)), .int (xs (i + 5))]) (n := 5) (d := 12) C zi_173 cvL_89 (h2 (fun v ν' => v = some (.int x) ∧ B ν') (fun ν' h => ⟨rfl, h⟩)) rfl (fun _ => rfl) (by decide) (Nat.le_of_ble_eq_true rfl) dL_law_782 (fun v ν' hv => ?_)
  obtain ⟨rfl, hB⟩ := hv
  exact l_eq (tgt := 1430) C dL_law_785 (by decide) (hn _ _ (h3 _ _ hA hB))
theorem la_17 (C : lC G p s m meth c b L xs) (hi : i + 6 ≤ L) (h : Rel μ ν) (hn : ∀ μ ν, Rel μ ν → lW G p l e s m below meth c b 1430 μ ν i []) : lW G p l e s m below meth c b 790 μ ν i [] := by
  obtain ⟨r, A, B, h1, h2, h3⟩ : StG FO 12 106 176 [.int (xs (i + 1)), .int (xs (i + 2))] μ ν := (st_put (d := 0) FO_Fma h (xs (i + 1)) (xs (i + 2))).g
  obtain ⟨x, rfl⟩ : ∃ x, r = .int x := by
    obtain ⟨v, μ1, t, rfl⟩ := KK_tok (h1 (fun v _ => v = some r) (fun _ _ => rfl))
    rw [zi_106] at t
    obtain ⟨x, hx⟩ := t
    exact ⟨x, Option.some.inj hx⟩
  refine l_r1 C dL_law_790 ?_
  refine l_arg (j := 1) C (by omega) (by decide) dL_law_791 dL_law_792 dL_law_793 dL_law_794 dL_law_795 ?_
  refine l_arg (j := 2) C (by omega) (by decide) dL_law_796 dL_law_797 dL_law_798 dL_law_799 dL_law_800 ?_
  refine l_cx (as := [.int (xs (i + 1)), .int (xs (i + 2))]) (n := 2) (d := 12) C zi_106 cvL_90 (h1 (fun v μ' => v = some (.int x) ∧ A μ') (fun μ' h => ⟨rfl, h⟩)) rfl (fun _ => rfl) (by decide) (Nat.le_of_ble_eq_true rfl) dL_law_801 (fun v μ' hv => ?_)
  obtain ⟨rfl, hA⟩ := hv
  refine l_r2 C dL_law_804 ?_
  refine l_arg (j := 1) C (by omega) (by decide) dL_law_805 dL_law_806 dL_law_807 dL_law_808 dL_law_809 ?_
  refine l_arg (j := 2) C (by omega) (by decide) dL_law_810 dL_law_811 dL_law_812 dL_law_813 dL_law_814 ?_
  refine l_cm (as := [.int (xs (i + 1)), .int (xs (i + 2))]) (n := 2) (d := 12) C zi_176 cvL_93 (h2 (fun v ν' => v = some (.int x) ∧ B ν') (fun ν' h => ⟨rfl, h⟩)) rfl (fun _ => rfl) (by decide) (Nat.le_of_ble_eq_true rfl) dL_law_815 (fun v ν' hv => ?_)
  obtain ⟨rfl, hB⟩ := hv
  exact l_eq (tgt := 1430) C dL_law_818 (by decide) (hn _ _ (h3 _ _ hA hB))
theorem la_18 (C : lC G p s m meth c b L xs) (hi : i + 6 ≤ L) (h : Rel μ ν) (hn : ∀ μ ν, Rel μ ν → lW G p l e s m below meth c b 1430 μ ν i []) : lW G p l e s m below meth c b 823 μ ν i [] := by
  obtain ⟨r, A, B, h1, h2, h3⟩ : StG FO 12 107 177 [.int (xs (i + 1)), .int (xs (i + 2))] μ ν := (st_in (d := 0) FO_Fsm h (xs (i + 1)) (xs (i + 2))).g
  obtain ⟨x, rfl⟩ : ∃ x, r = .int x := by
    obtain ⟨v, μ1, t, rfl⟩ := KK_tok (h1 (fun v _ => v = some r) (fun _ _ => rfl))
    rw [zi_107] at t
    obtain ⟨x, hx⟩ := t
    exact ⟨x, Option.some.inj hx⟩
  refine l_r1 C dL_law_823 ?_
  refine l_arg (j := 1) C (by omega) (by decide) dL_law_824 dL_law_825 dL_law_826 dL_law_827 dL_law_828 ?_
  refine l_arg (j := 2) C (by omega) (by decide) dL_law_829 dL_law_830 dL_law_831 dL_law_832 dL_law_833 ?_
  refine l_cx (as := [.int (xs (i + 1)), .int (xs (i + 2))]) (n := 2) (d := 12) C zi_107 cvL_94 (h1 (fun v μ' => v = some (.int x) ∧ A μ') (fun μ' h => ⟨rfl, h⟩)) rfl (fun _ => rfl) (by decide) (Nat.le_of_ble_eq_true rfl) dL_law_834 (fun v μ' hv => ?_)
  obtain ⟨rfl, hA⟩ := hv
  refine l_r2 C dL_law_837 ?_
  refine l_arg (j := 1) C (by omega) (by decide) dL_law_838 dL_law_839 dL_law_840 dL_law_841 dL_law_842 ?_
  refine l_arg (j := 2) C (by omega) (by decide) dL_law_843 dL_law_844 dL_law_845 dL_law_846 dL_law_847 ?_
  refine l_cm (as := [.int (xs (i + 1)), .int (xs (i + 2))]) (n := 2) (d := 12) C zi_177 cvL_97 (h2 (fun v ν' => v = some (.int x) ∧ B ν') (fun ν' h => ⟨rfl, h⟩)) rfl (fun _ => rfl) (by decide) (Nat.le_of_ble_eq_true rfl) dL_law_848 (fun v ν' hv => ?_)
  obtain ⟨rfl, hB⟩ := hv
  exact l_eq (tgt := 1430) C dL_law_851 (by decide) (hn _ _ (h3 _ _ hA hB))
theorem la_19 (C : lC G p s m meth c b L xs) (hi : i + 6 ≤ L) (h : Rel μ ν) (hn : ∀ μ ν, Rel μ ν → lW G p l e s m below meth c b 1430 μ ν i []) : lW G p l e s m below meth c b 856 μ ν i [] := by
  obtain ⟨r, A, B, h1, h2, h3⟩ : StG FO 12 108 179 [.int (xs (i + 1)), .int (xs (i + 2))] μ ν := (st_right (d := 0) FO_Fri h (xs (i + 1)) (xs (i + 2))).g
  obtain ⟨x, rfl⟩ : ∃ x, r = .int x := by
    obtain ⟨v, μ1, t, rfl⟩ := KK_tok (h1 (fun v _ => v = some r) (fun _ _ => rfl))
    rw [zi_108] at t
    obtain ⟨x, hx⟩ := t
    exact ⟨x, Option.some.inj hx⟩
  refine l_r1 C dL_law_856 ?_
  refine l_arg (j := 1) C (by omega) (by decide) dL_law_857 dL_law_858 dL_law_859 dL_law_860 dL_law_861 ?_
  refine l_arg (j := 2) C (by omega) (by decide) dL_law_862 dL_law_863 dL_law_864 dL_law_865 dL_law_866 ?_
  refine l_cx (as := [.int (xs (i + 1)), .int (xs (i + 2))]) (n := 2) (d := 12) C zi_108 cvL_98 (h1 (fun v μ' => v = some (.int x) ∧ A μ') (fun μ' h => ⟨rfl, h⟩)) rfl (fun _ => rfl) (by decide) (Nat.le_of_ble_eq_true rfl) dL_law_867 (fun v μ' hv => ?_)
  obtain ⟨rfl, hA⟩ := hv
  refine l_r2 C dL_law_870 ?_
  refine l_arg (j := 1) C (by omega) (by decide) dL_law_871 dL_law_872 dL_law_873 dL_law_874 dL_law_875 ?_
  refine l_arg (j := 2) C (by omega) (by decide) dL_law_876 dL_law_877 dL_law_878 dL_law_879 dL_law_880 ?_
  refine l_cm (as := [.int (xs (i + 1)), .int (xs (i + 2))]) (n := 2) (d := 12) C zi_179 cvL_101 (h2 (fun v ν' => v = some (.int x) ∧ B ν') (fun ν' h => ⟨rfl, h⟩)) rfl (fun _ => rfl) (by decide) (Nat.le_of_ble_eq_true rfl) dL_law_881 (fun v ν' hv => ?_)
  obtain ⟨rfl, hB⟩ := hv
  exact l_eq (tgt := 1430) C dL_law_884 (by decide) (hn _ _ (h3 _ _ hA hB))
theorem la_20 (C : lC G p s m meth c b L xs) (hi : i + 6 ≤ L) (h : Rel μ ν) (hn : ∀ μ ν, Rel μ ν → lW G p l e s m below meth c b 1430 μ ν i []) : lW G p l e s m below meth c b 889 μ ν i [] := by
  obtain ⟨r, A, B, h1, h2, h3⟩ : StG FO 12 109 181 [] μ ν := (st_all (d := 0) FO_Fri h ).g
  obtain ⟨x, rfl⟩ : ∃ x, r = .int x := by
    obtain ⟨v, μ1, t, rfl⟩ := KK_tok (h1 (fun v _ => v = some r) (fun _ _ => rfl))
    rw [zi_109] at t
    obtain ⟨x, hx⟩ := t
    exact ⟨x, Option.some.inj hx⟩
  refine l_r1 C dL_law_889 ?_
  refine l_cx (as := []) (n := 0) (d := 12) C zi_109 cvL_102 (h1 (fun v μ' => v = some (.int x) ∧ A μ') (fun μ' h => ⟨rfl, h⟩)) rfl (fun _ => rfl) (by decide) (Nat.le_of_ble_eq_true rfl) dL_law_890 (fun v μ' hv => ?_)
  obtain ⟨rfl, hA⟩ := hv
  refine l_r2 C dL_law_893 ?_
  refine l_cm (as := []) (n := 0) (d := 12) C zi_181 cvL_105 (h2 (fun v ν' => v = some (.int x) ∧ B ν') (fun ν' h => ⟨rfl, h⟩)) rfl (fun _ => rfl) (by decide) (Nat.le_of_ble_eq_true rfl) dL_law_894 (fun v ν' hv => ?_)
  obtain ⟨rfl, hB⟩ := hv
  exact l_eq (tgt := 1430) C dL_law_897 (by decide) (hn _ _ (h3 _ _ hA hB))
theorem la_21 (C : lC G p s m meth c b L xs) (hi : i + 6 ≤ L) (h : Rel μ ν) (hn : ∀ μ ν, Rel μ ν → lW G p l e s m below meth c b 1430 μ ν i []) : lW G p l e s m below meth c b 902 μ ν i [] := by
  obtain ⟨r, A, B, h1, h2, h3⟩ : StG FO 12 110 184 [.int (xs (i + 1))] μ ν := (st_swap (d := 0) FO_Fri h (xs (i + 1))).g
  obtain ⟨x, rfl⟩ : ∃ x, r = .int x := by
    obtain ⟨v, μ1, t, rfl⟩ := KK_tok (h1 (fun v _ => v = some r) (fun _ _ => rfl))
    rw [zi_110] at t
    obtain ⟨x, hx⟩ := t
    exact ⟨x, Option.some.inj hx⟩
  refine l_r1 C dL_law_902 ?_
  refine l_arg (j := 1) C (by omega) (by decide) dL_law_903 dL_law_904 dL_law_905 dL_law_906 dL_law_907 ?_
  refine l_cx (as := [.int (xs (i + 1))]) (n := 1) (d := 12) C zi_110 cvL_106 (h1 (fun v μ' => v = some (.int x) ∧ A μ') (fun μ' h => ⟨rfl, h⟩)) rfl (fun _ => rfl) (by decide) (Nat.le_of_ble_eq_true rfl) dL_law_908 (fun v μ' hv => ?_)
  obtain ⟨rfl, hA⟩ := hv
  refine l_r2 C dL_law_911 ?_
  refine l_arg (j := 1) C (by omega) (by decide) dL_law_912 dL_law_913 dL_law_914 dL_law_915 dL_law_916 ?_
  refine l_cm (as := [.int (xs (i + 1))]) (n := 1) (d := 12) C zi_184 cvL_109 (h2 (fun v ν' => v = some (.int x) ∧ B ν') (fun ν' h => ⟨rfl, h⟩)) rfl (fun _ => rfl) (by decide) (Nat.le_of_ble_eq_true rfl) dL_law_917 (fun v ν' hv => ?_)
  obtain ⟨rfl, hB⟩ := hv
  exact l_eq (tgt := 1430) C dL_law_920 (by decide) (hn _ _ (h3 _ _ hA hB))
theorem la_22 (C : lC G p s m meth c b L xs) (hi : i + 6 ≤ L) (h : Rel μ ν) (hn : ∀ μ ν, Rel μ ν → lW G p l e s m below meth c b 1430 μ ν i []) : lW G p l e s m below meth c b 925 μ ν i [] := by
  obtain ⟨r, A, B, h1, h2, h3⟩ : StG FO 12 111 185 [.int (xs (i + 1)), .int (xs (i + 2))] μ ν := (st_told (d := 0) FO_Fsm h (xs (i + 1)) (xs (i + 2))).g
  obtain ⟨x, rfl⟩ : ∃ x, r = .int x := by
    obtain ⟨v, μ1, t, rfl⟩ := KK_tok (h1 (fun v _ => v = some r) (fun _ _ => rfl))
    rw [zi_111] at t
    obtain ⟨x, hx⟩ := t
    exact ⟨x, Option.some.inj hx⟩
  refine l_r1 C dL_law_925 ?_
  refine l_arg (j := 1) C (by omega) (by decide) dL_law_926 dL_law_927 dL_law_928 dL_law_929 dL_law_930 ?_
  refine l_arg (j := 2) C (by omega) (by decide) dL_law_931 dL_law_932 dL_law_933 dL_law_934 dL_law_935 ?_
  refine l_cx (as := [.int (xs (i + 1)), .int (xs (i + 2))]) (n := 2) (d := 12) C zi_111 cvL_110 (h1 (fun v μ' => v = some (.int x) ∧ A μ') (fun μ' h => ⟨rfl, h⟩)) rfl (fun _ => rfl) (by decide) (Nat.le_of_ble_eq_true rfl) dL_law_936 (fun v μ' hv => ?_)
  obtain ⟨rfl, hA⟩ := hv
  refine l_r2 C dL_law_939 ?_
  refine l_arg (j := 1) C (by omega) (by decide) dL_law_940 dL_law_941 dL_law_942 dL_law_943 dL_law_944 ?_
  refine l_arg (j := 2) C (by omega) (by decide) dL_law_945 dL_law_946 dL_law_947 dL_law_948 dL_law_949 ?_
  refine l_cm (as := [.int (xs (i + 1)), .int (xs (i + 2))]) (n := 2) (d := 12) C zi_185 cvL_113 (h2 (fun v ν' => v = some (.int x) ∧ B ν') (fun ν' h => ⟨rfl, h⟩)) rfl (fun _ => rfl) (by decide) (Nat.le_of_ble_eq_true rfl) dL_law_950 (fun v ν' hv => ?_)
  obtain ⟨rfl, hB⟩ := hv
  exact l_eq (tgt := 1430) C dL_law_953 (by decide) (hn _ _ (h3 _ _ hA hB))
theorem la_23 (C : lC G p s m meth c b L xs) (hi : i + 6 ≤ L) (h : Rel μ ν) (hn : ∀ μ ν, Rel μ ν → lW G p l e s m below meth c b 1430 μ ν i []) : lW G p l e s m below meth c b 958 μ ν i [] := by
  obtain ⟨r, A, B, h1, h2, h3⟩ : StG FO 12 112 189 [] μ ν := (st_blamed (d := 0) FO_Fbl h ).g
  obtain ⟨x, rfl⟩ : ∃ x, r = .int x := by
    obtain ⟨v, μ1, t, rfl⟩ := KK_tok (h1 (fun v _ => v = some r) (fun _ _ => rfl))
    rw [zi_112] at t
    obtain ⟨x, hx⟩ := t
    exact ⟨x, Option.some.inj hx⟩
  refine l_r1 C dL_law_958 ?_
  refine l_cx (as := []) (n := 0) (d := 12) C zi_112 cvL_114 (h1 (fun v μ' => v = some (.int x) ∧ A μ') (fun μ' h => ⟨rfl, h⟩)) rfl (fun _ => rfl) (by decide) (Nat.le_of_ble_eq_true rfl) dL_law_959 (fun v μ' hv => ?_)
  obtain ⟨rfl, hA⟩ := hv
  refine l_r2 C dL_law_962 ?_
  refine l_cm (as := []) (n := 0) (d := 12) C zi_189 cvL_117 (h2 (fun v ν' => v = some (.int x) ∧ B ν') (fun ν' h => ⟨rfl, h⟩)) rfl (fun _ => rfl) (by decide) (Nat.le_of_ble_eq_true rfl) dL_law_963 (fun v ν' hv => ?_)
  obtain ⟨rfl, hB⟩ := hv
  exact l_eq (tgt := 1430) C dL_law_966 (by decide) (hn _ _ (h3 _ _ hA hB))
theorem la_24 (C : lC G p s m meth c b L xs) (hi : i + 6 ≤ L) (h : Rel μ ν) (hn : ∀ μ ν, Rel μ ν → lW G p l e s m below meth c b 1430 μ ν i []) : lW G p l e s m below meth c b 971 μ ν i [] := by
  obtain ⟨r, A, B, h1, h2, h3⟩ : StG FO 12 113 190 [] μ ν := (st_called (d := 0) FO_Fbl h ).g
  obtain ⟨x, rfl⟩ : ∃ x, r = .int x := by
    obtain ⟨v, μ1, t, rfl⟩ := KK_tok (h1 (fun v _ => v = some r) (fun _ _ => rfl))
    rw [zi_113] at t
    obtain ⟨x, hx⟩ := t
    exact ⟨x, Option.some.inj hx⟩
  refine l_r1 C dL_law_971 ?_
  refine l_cx (as := []) (n := 0) (d := 12) C zi_113 cvL_118 (h1 (fun v μ' => v = some (.int x) ∧ A μ') (fun μ' h => ⟨rfl, h⟩)) rfl (fun _ => rfl) (by decide) (Nat.le_of_ble_eq_true rfl) dL_law_972 (fun v μ' hv => ?_)
  obtain ⟨rfl, hA⟩ := hv
  refine l_r2 C dL_law_975 ?_
  refine l_cm (as := []) (n := 0) (d := 12) C zi_190 cvL_121 (h2 (fun v ν' => v = some (.int x) ∧ B ν') (fun ν' h => ⟨rfl, h⟩)) rfl (fun _ => rfl) (by decide) (Nat.le_of_ble_eq_true rfl) dL_law_976 (fun v ν' hv => ?_)
  obtain ⟨rfl, hB⟩ := hv
  exact l_eq (tgt := 1430) C dL_law_979 (by decide) (hn _ _ (h3 _ _ hA hB))
theorem la_25 (C : lC G p s m meth c b L xs) (hi : i + 6 ≤ L) (h : Rel μ ν) (hn : ∀ μ ν, Rel μ ν → lW G p l e s m below meth c b 1430 μ ν i []) : lW G p l e s m below meth c b 984 μ ν i [] := by
  obtain ⟨r, A, B, h1, h2, h3⟩ : StG FO 12 114 192 [.int (xs (i + 1)), .int (xs (i + 2))] μ ν := (st_hours (d := 0) FO_Fsm h (xs (i + 1)) (xs (i + 2))).g
  obtain ⟨x, rfl⟩ : ∃ x, r = .int x := by
    obtain ⟨v, μ1, t, rfl⟩ := KK_tok (h1 (fun v _ => v = some r) (fun _ _ => rfl))
    rw [zi_114] at t
    obtain ⟨x, hx⟩ := t
    exact ⟨x, Option.some.inj hx⟩
  refine l_r1 C dL_law_984 ?_
  refine l_arg (j := 1) C (by omega) (by decide) dL_law_985 dL_law_986 dL_law_987 dL_law_988 dL_law_989 ?_
  refine l_arg (j := 2) C (by omega) (by decide) dL_law_990 dL_law_991 dL_law_992 dL_law_993 dL_law_994 ?_
  refine l_cx (as := [.int (xs (i + 1)), .int (xs (i + 2))]) (n := 2) (d := 12) C zi_114 cvL_122 (h1 (fun v μ' => v = some (.int x) ∧ A μ') (fun μ' h => ⟨rfl, h⟩)) rfl (fun _ => rfl) (by decide) (Nat.le_of_ble_eq_true rfl) dL_law_995 (fun v μ' hv => ?_)
  obtain ⟨rfl, hA⟩ := hv
  refine l_r2 C dL_law_998 ?_
  refine l_arg (j := 1) C (by omega) (by decide) dL_law_999 dL_law_1000 dL_law_1001 dL_law_1002 dL_law_1003 ?_
  refine l_arg (j := 2) C (by omega) (by decide) dL_law_1004 dL_law_1005 dL_law_1006 dL_law_1007 dL_law_1008 ?_
  refine l_cm (as := [.int (xs (i + 1)), .int (xs (i + 2))]) (n := 2) (d := 12) C zi_192 cvL_125 (h2 (fun v ν' => v = some (.int x) ∧ B ν') (fun ν' h => ⟨rfl, h⟩)) rfl (fun _ => rfl) (by decide) (Nat.le_of_ble_eq_true rfl) dL_law_1009 (fun v ν' hv => ?_)
  obtain ⟨rfl, hB⟩ := hv
  exact l_eq (tgt := 1430) C dL_law_1012 (by decide) (hn _ _ (h3 _ _ hA hB))
theorem la_26 (C : lC G p s m meth c b L xs) (hi : i + 6 ≤ L) (h : Rel μ ν) (hn : ∀ μ ν, Rel μ ν → lW G p l e s m below meth c b 1430 μ ν i []) : lW G p l e s m below meth c b 1017 μ ν i [] := by
  obtain ⟨r, A, B, h1, h2, h3⟩ : StG FO 12 115 193 [.int (xs (i + 1)), .int (xs (i + 2)), .int (xs (i + 3)), .int (xs (i + 4))] μ ν := (st_offer (d := 0) FO_Fsm h (xs (i + 1)) (xs (i + 2)) (xs (i + 3)) (xs (i + 4))).g
  obtain ⟨x, rfl⟩ : ∃ x, r = .int x := by
    obtain ⟨v, μ1, t, rfl⟩ := KK_tok (h1 (fun v _ => v = some r) (fun _ _ => rfl))
    rw [zi_115] at t
    obtain ⟨x, hx⟩ := t
    exact ⟨x, Option.some.inj hx⟩
  refine l_r1 C dL_law_1017 ?_
  refine l_arg (j := 1) C (by omega) (by decide) dL_law_1018 dL_law_1019 dL_law_1020 dL_law_1021 dL_law_1022 ?_
  refine l_arg (j := 2) C (by omega) (by decide) dL_law_1023 dL_law_1024 dL_law_1025 dL_law_1026 dL_law_1027 ?_
  refine l_arg (j := 3) C (by omega) (by decide) dL_law_1028 dL_law_1029 dL_law_1030 dL_law_1031 dL_law_1032 ?_
  refine l_arg (j := 4) C (by omega) (by decide) dL_law_1033 dL_law_1034 dL_law_1035 dL_law_1036 dL_law_1037 ?_
  refine l_cx (as := [.int (xs (i + 1)), .int (xs (i + 2)), .int (xs (i + 3)), .int (xs (i + 4))]) (n := 4) (d := 12) C zi_115 cvL_126 (h1 (fun v μ' => v = some (.int x) ∧ A μ') (fun μ' h => ⟨rfl, h⟩)) rfl (fun _ => rfl) (by decide) (Nat.le_of_ble_eq_true rfl) dL_law_1038 (fun v μ' hv => ?_)
  obtain ⟨rfl, hA⟩ := hv
  refine l_r2 C dL_law_1041 ?_
  refine l_arg (j := 1) C (by omega) (by decide) dL_law_1042 dL_law_1043 dL_law_1044 dL_law_1045 dL_law_1046 ?_
  refine l_arg (j := 2) C (by omega) (by decide) dL_law_1047 dL_law_1048 dL_law_1049 dL_law_1050 dL_law_1051 ?_
  refine l_arg (j := 3) C (by omega) (by decide) dL_law_1052 dL_law_1053 dL_law_1054 dL_law_1055 dL_law_1056 ?_
  refine l_arg (j := 4) C (by omega) (by decide) dL_law_1057 dL_law_1058 dL_law_1059 dL_law_1060 dL_law_1061 ?_
  refine l_cm (as := [.int (xs (i + 1)), .int (xs (i + 2)), .int (xs (i + 3)), .int (xs (i + 4))]) (n := 4) (d := 12) C zi_193 cvL_130 (h2 (fun v ν' => v = some (.int x) ∧ B ν') (fun ν' h => ⟨rfl, h⟩)) rfl (fun _ => rfl) (by decide) (Nat.le_of_ble_eq_true rfl) dL_law_1062 (fun v ν' hv => ?_)
  obtain ⟨rfl, hB⟩ := hv
  exact l_eq (tgt := 1430) C dL_law_1065 (by decide) (hn _ _ (h3 _ _ hA hB))
theorem la_27 (C : lC G p s m meth c b L xs) (hi : i + 6 ≤ L) (h : Rel μ ν) (hn : ∀ μ ν, Rel μ ν → lW G p l e s m below meth c b 1430 μ ν i []) : lW G p l e s m below meth c b 1070 μ ν i [] := by
  obtain ⟨r, A, B, h1, h2, h3⟩ : StG FO 12 116 194 [.int (xs (i + 1)), .int (xs (i + 2))] μ ν := (st_order (d := 0) FO_Ffo h (xs (i + 1)) (xs (i + 2))).g
  obtain ⟨x, rfl⟩ : ∃ x, r = .int x := by
    obtain ⟨v, μ1, t, rfl⟩ := KK_tok (h1 (fun v _ => v = some r) (fun _ _ => rfl))
    rw [zi_116] at t
    obtain ⟨x, hx⟩ := t
    exact ⟨x, Option.some.inj hx⟩
  refine l_r1 C dL_law_1070 ?_
  refine l_arg (j := 1) C (by omega) (by decide) dL_law_1071 dL_law_1072 dL_law_1073 dL_law_1074 dL_law_1075 ?_
  refine l_arg (j := 2) C (by omega) (by decide) dL_law_1076 dL_law_1077 dL_law_1078 dL_law_1079 dL_law_1080 ?_
  refine l_cx (as := [.int (xs (i + 1)), .int (xs (i + 2))]) (n := 2) (d := 12) C zi_116 cvL_131 (h1 (fun v μ' => v = some (.int x) ∧ A μ') (fun μ' h => ⟨rfl, h⟩)) rfl (fun _ => rfl) (by decide) (Nat.le_of_ble_eq_true rfl) dL_law_1081 (fun v μ' hv => ?_)
  obtain ⟨rfl, hA⟩ := hv
  refine l_r2 C dL_law_1084 ?_
  refine l_arg (j := 1) C (by omega) (by decide) dL_law_1085 dL_law_1086 dL_law_1087 dL_law_1088 dL_law_1089 ?_
  refine l_arg (j := 2) C (by omega) (by decide) dL_law_1090 dL_law_1091 dL_law_1092 dL_law_1093 dL_law_1094 ?_
  refine l_cm (as := [.int (xs (i + 1)), .int (xs (i + 2))]) (n := 2) (d := 12) C zi_194 cvL_134 (h2 (fun v ν' => v = some (.int x) ∧ B ν') (fun ν' h => ⟨rfl, h⟩)) rfl (fun _ => rfl) (by decide) (Nat.le_of_ble_eq_true rfl) dL_law_1095 (fun v ν' hv => ?_)
  obtain ⟨rfl, hB⟩ := hv
  exact l_eq (tgt := 1430) C dL_law_1098 (by decide) (hn _ _ (h3 _ _ hA hB))
theorem la_28 (C : lC G p s m meth c b L xs) (hi : i + 6 ≤ L) (h : Rel μ ν) (hn : ∀ μ ν, Rel μ ν → lW G p l e s m below meth c b 1430 μ ν i []) : lW G p l e s m below meth c b 1103 μ ν i [] := by
  obtain ⟨r, A, B, h1, h2, h3⟩ : StG FO 12 117 198 [.int (xs (i + 1)), .int (xs (i + 2))] μ ν := st_given (d := 0) FO_Fgo h (xs (i + 1)) (xs (i + 2))
  obtain ⟨x, rfl⟩ : ∃ x, r = .int x := by
    obtain ⟨v, μ1, t, rfl⟩ := KK_tok (h1 (fun v _ => v = some r) (fun _ _ => rfl))
    rw [zi_117] at t
    obtain ⟨x, hx⟩ := t
    exact ⟨x, Option.some.inj hx⟩
  refine l_r1 C dL_law_1103 ?_
  refine l_arg (j := 1) C (by omega) (by decide) dL_law_1104 dL_law_1105 dL_law_1106 dL_law_1107 dL_law_1108 ?_
  refine l_arg (j := 2) C (by omega) (by decide) dL_law_1109 dL_law_1110 dL_law_1111 dL_law_1112 dL_law_1113 ?_
  refine l_cx (as := [.int (xs (i + 1)), .int (xs (i + 2))]) (n := 2) (d := 12) C zi_117 cvL_135 (h1 (fun v μ' => v = some (.int x) ∧ A μ') (fun μ' h => ⟨rfl, h⟩)) rfl (fun _ => rfl) (by decide) (Nat.le_of_ble_eq_true rfl) dL_law_1114 (fun v μ' hv => ?_)
  obtain ⟨rfl, hA⟩ := hv
  refine l_r2 C dL_law_1117 ?_
  refine l_arg (j := 1) C (by omega) (by decide) dL_law_1118 dL_law_1119 dL_law_1120 dL_law_1121 dL_law_1122 ?_
  refine l_arg (j := 2) C (by omega) (by decide) dL_law_1123 dL_law_1124 dL_law_1125 dL_law_1126 dL_law_1127 ?_
  refine l_cm (as := [.int (xs (i + 1)), .int (xs (i + 2))]) (n := 2) (d := 12) C zi_198 cvL_138 (h2 (fun v ν' => v = some (.int x) ∧ B ν') (fun ν' h => ⟨rfl, h⟩)) rfl (fun _ => rfl) (by decide) (Nat.le_of_ble_eq_true rfl) dL_law_1128 (fun v ν' hv => ?_)
  obtain ⟨rfl, hB⟩ := hv
  exact l_eq (tgt := 1430) C dL_law_1131 (by decide) (hn _ _ (h3 _ _ hA hB))
theorem la_29 (C : lC G p s m meth c b L xs) (hi : i + 6 ≤ L) (h : Rel μ ν) (hn : ∀ μ ν, Rel μ ν → lW G p l e s m below meth c b 1430 μ ν i []) : lW G p l e s m below meth c b 1136 μ ν i [] := by
  obtain ⟨r, A, B, h1, h2, h3⟩ : StG FO 12 118 199 [.int (xs (i + 1)), .int (xs (i + 2))] μ ν := (st_late (d := 0) FO_Fsm h (xs (i + 1)) (xs (i + 2))).g
  obtain ⟨x, rfl⟩ : ∃ x, r = .int x := by
    obtain ⟨v, μ1, t, rfl⟩ := KK_tok (h1 (fun v _ => v = some r) (fun _ _ => rfl))
    rw [zi_118] at t
    obtain ⟨x, hx⟩ := t
    exact ⟨x, Option.some.inj hx⟩
  refine l_r1 C dL_law_1136 ?_
  refine l_arg (j := 1) C (by omega) (by decide) dL_law_1137 dL_law_1138 dL_law_1139 dL_law_1140 dL_law_1141 ?_
  refine l_arg (j := 2) C (by omega) (by decide) dL_law_1142 dL_law_1143 dL_law_1144 dL_law_1145 dL_law_1146 ?_
  refine l_cx (as := [.int (xs (i + 1)), .int (xs (i + 2))]) (n := 2) (d := 12) C zi_118 cvL_139 (h1 (fun v μ' => v = some (.int x) ∧ A μ') (fun μ' h => ⟨rfl, h⟩)) rfl (fun _ => rfl) (by decide) (Nat.le_of_ble_eq_true rfl) dL_law_1147 (fun v μ' hv => ?_)
  obtain ⟨rfl, hA⟩ := hv
  refine l_r2 C dL_law_1150 ?_
  refine l_arg (j := 1) C (by omega) (by decide) dL_law_1151 dL_law_1152 dL_law_1153 dL_law_1154 dL_law_1155 ?_
  refine l_arg (j := 2) C (by omega) (by decide) dL_law_1156 dL_law_1157 dL_law_1158 dL_law_1159 dL_law_1160 ?_
  refine l_cm (as := [.int (xs (i + 1)), .int (xs (i + 2))]) (n := 2) (d := 12) C zi_199 cvL_142 (h2 (fun v ν' => v = some (.int x) ∧ B ν') (fun ν' h => ⟨rfl, h⟩)) rfl (fun _ => rfl) (by decide) (Nat.le_of_ble_eq_true rfl) dL_law_1161 (fun v ν' hv => ?_)
  obtain ⟨rfl, hB⟩ := hv
  exact l_eq (tgt := 1430) C dL_law_1164 (by decide) (hn _ _ (h3 _ _ hA hB))
theorem la_30 (C : lC G p s m meth c b L xs) (hi : i + 6 ≤ L) (h : Rel μ ν) (hn : ∀ μ ν, Rel μ ν → lW G p l e s m below meth c b 1430 μ ν i []) : lW G p l e s m below meth c b 1169 μ ν i [] := by
  obtain ⟨r, A, B, h1, h2, h3⟩ : StG FO 12 119 200 [.int (xs (i + 1)), .int (xs (i + 2))] μ ν := (st_foretold (d := 0) FO_Ffo h (xs (i + 1)) (xs (i + 2))).g
  obtain ⟨x, rfl⟩ : ∃ x, r = .int x := by
    obtain ⟨v, μ1, t, rfl⟩ := KK_tok (h1 (fun v _ => v = some r) (fun _ _ => rfl))
    rw [zi_119] at t
    obtain ⟨x, hx⟩ := t
    exact ⟨x, Option.some.inj hx⟩
  refine l_r1 C dL_law_1169 ?_
  refine l_arg (j := 1) C (by omega) (by decide) dL_law_1170 dL_law_1171 dL_law_1172 dL_law_1173 dL_law_1174 ?_
  refine l_arg (j := 2) C (by omega) (by decide) dL_law_1175 dL_law_1176 dL_law_1177 dL_law_1178 dL_law_1179 ?_
  refine l_cx (as := [.int (xs (i + 1)), .int (xs (i + 2))]) (n := 2) (d := 12) C zi_119 cvL_143 (h1 (fun v μ' => v = some (.int x) ∧ A μ') (fun μ' h => ⟨rfl, h⟩)) rfl (fun _ => rfl) (by decide) (Nat.le_of_ble_eq_true rfl) dL_law_1180 (fun v μ' hv => ?_)
  obtain ⟨rfl, hA⟩ := hv
  refine l_r2 C dL_law_1183 ?_
  refine l_arg (j := 1) C (by omega) (by decide) dL_law_1184 dL_law_1185 dL_law_1186 dL_law_1187 dL_law_1188 ?_
  refine l_arg (j := 2) C (by omega) (by decide) dL_law_1189 dL_law_1190 dL_law_1191 dL_law_1192 dL_law_1193 ?_
  refine l_cm (as := [.int (xs (i + 1)), .int (xs (i + 2))]) (n := 2) (d := 12) C zi_200 cvL_146 (h2 (fun v ν' => v = some (.int x) ∧ B ν') (fun ν' h => ⟨rfl, h⟩)) rfl (fun _ => rfl) (by decide) (Nat.le_of_ble_eq_true rfl) dL_law_1194 (fun v ν' hv => ?_)
  obtain ⟨rfl, hB⟩ := hv
  exact l_eq (tgt := 1430) C dL_law_1197 (by decide) (hn _ _ (h3 _ _ hA hB))
theorem la_31 (C : lC G p s m meth c b L xs) (hi : i + 6 ≤ L) (h : Rel μ ν) (hn : ∀ μ ν, Rel μ ν → lW G p l e s m below meth c b 1430 μ ν i []) : lW G p l e s m below meth c b 1202 μ ν i [] := by
  obtain ⟨r, A, B, h1, h2, h3⟩ : StG FO 12 120 201 [.int (xs (i + 1))] μ ν := (st_look (d := 0) FO_Fdr h (xs (i + 1))).g
  obtain ⟨x, rfl⟩ : ∃ x, r = .int x := by
    obtain ⟨v, μ1, t, rfl⟩ := KK_tok (h1 (fun v _ => v = some r) (fun _ _ => rfl))
    rw [zi_120] at t
    obtain ⟨x, hx⟩ := t
    exact ⟨x, Option.some.inj hx⟩
  refine l_r1 C dL_law_1202 ?_
  refine l_arg (j := 1) C (by omega) (by decide) dL_law_1203 dL_law_1204 dL_law_1205 dL_law_1206 dL_law_1207 ?_
  refine l_cx (as := [.int (xs (i + 1))]) (n := 1) (d := 12) C zi_120 cvL_147 (h1 (fun v μ' => v = some (.int x) ∧ A μ') (fun μ' h => ⟨rfl, h⟩)) rfl (fun _ => rfl) (by decide) (Nat.le_of_ble_eq_true rfl) dL_law_1208 (fun v μ' hv => ?_)
  obtain ⟨rfl, hA⟩ := hv
  refine l_r2 C dL_law_1211 ?_
  refine l_arg (j := 1) C (by omega) (by decide) dL_law_1212 dL_law_1213 dL_law_1214 dL_law_1215 dL_law_1216 ?_
  refine l_cm (as := [.int (xs (i + 1))]) (n := 1) (d := 12) C zi_201 cvL_150 (h2 (fun v ν' => v = some (.int x) ∧ B ν') (fun ν' h => ⟨rfl, h⟩)) rfl (fun _ => rfl) (by decide) (Nat.le_of_ble_eq_true rfl) dL_law_1217 (fun v ν' hv => ?_)
  obtain ⟨rfl, hB⟩ := hv
  exact l_eq (tgt := 1430) C dL_law_1220 (by decide) (hn _ _ (h3 _ _ hA hB))
theorem la_32 (C : lC G p s m meth c b L xs) (hi : i + 6 ≤ L) (h : Rel μ ν) (hn : ∀ μ ν, Rel μ ν → lW G p l e s m below meth c b 1430 μ ν i []) : lW G p l e s m below meth c b 1225 μ ν i [] := by
  obtain ⟨r, A, B, h1, h2, h3⟩ : StG FO 12 121 202 [.int (xs (i + 1)), .int (xs (i + 2)), .int (xs (i + 3))] μ ν := (st_finds (d := 0) FO_Fdr h (xs (i + 1)) (xs (i + 2)) (xs (i + 3))).g
  obtain ⟨x, rfl⟩ : ∃ x, r = .int x := by
    obtain ⟨v, μ1, t, rfl⟩ := KK_tok (h1 (fun v _ => v = some r) (fun _ _ => rfl))
    rw [zi_121] at t
    obtain ⟨x, hx⟩ := t
    exact ⟨x, Option.some.inj hx⟩
  refine l_r1 C dL_law_1225 ?_
  refine l_arg (j := 1) C (by omega) (by decide) dL_law_1226 dL_law_1227 dL_law_1228 dL_law_1229 dL_law_1230 ?_
  refine l_arg (j := 2) C (by omega) (by decide) dL_law_1231 dL_law_1232 dL_law_1233 dL_law_1234 dL_law_1235 ?_
  refine l_arg (j := 3) C (by omega) (by decide) dL_law_1236 dL_law_1237 dL_law_1238 dL_law_1239 dL_law_1240 ?_
  refine l_cx (as := [.int (xs (i + 1)), .int (xs (i + 2)), .int (xs (i + 3))]) (n := 3) (d := 12) C zi_121 cvL_151 (h1 (fun v μ' => v = some (.int x) ∧ A μ') (fun μ' h => ⟨rfl, h⟩)) rfl (fun _ => rfl) (by decide) (Nat.le_of_ble_eq_true rfl) dL_law_1241 (fun v μ' hv => ?_)
  obtain ⟨rfl, hA⟩ := hv
  refine l_r2 C dL_law_1244 ?_
  refine l_arg (j := 1) C (by omega) (by decide) dL_law_1245 dL_law_1246 dL_law_1247 dL_law_1248 dL_law_1249 ?_
  refine l_arg (j := 2) C (by omega) (by decide) dL_law_1250 dL_law_1251 dL_law_1252 dL_law_1253 dL_law_1254 ?_
  refine l_arg (j := 3) C (by omega) (by decide) dL_law_1255 dL_law_1256 dL_law_1257 dL_law_1258 dL_law_1259 ?_
  refine l_cm (as := [.int (xs (i + 1)), .int (xs (i + 2)), .int (xs (i + 3))]) (n := 3) (d := 12) C zi_202 cvL_154 (h2 (fun v ν' => v = some (.int x) ∧ B ν') (fun ν' h => ⟨rfl, h⟩)) rfl (fun _ => rfl) (by decide) (Nat.le_of_ble_eq_true rfl) dL_law_1260 (fun v ν' hv => ?_)
  obtain ⟨rfl, hB⟩ := hv
  exact l_eq (tgt := 1430) C dL_law_1263 (by decide) (hn _ _ (h3 _ _ hA hB))
theorem la_33 (C : lC G p s m meth c b L xs) (hi : i + 6 ≤ L) (h : Rel μ ν) (hn : ∀ μ ν, Rel μ ν → lW G p l e s m below meth c b 1430 μ ν i []) : lW G p l e s m below meth c b 1268 μ ν i [] := by
  obtain ⟨r, A, B, h1, h2, h3⟩ : StG FO 12 122 203 [.int (xs (i + 1)), .int (xs (i + 2))] μ ν := (st_asked (d := 0) FO_Fsm h (xs (i + 1)) (xs (i + 2))).g
  obtain ⟨x, rfl⟩ : ∃ x, r = .int x := by
    obtain ⟨v, μ1, t, rfl⟩ := KK_tok (h1 (fun v _ => v = some r) (fun _ _ => rfl))
    rw [zi_122] at t
    obtain ⟨x, hx⟩ := t
    exact ⟨x, Option.some.inj hx⟩
  refine l_r1 C dL_law_1268 ?_
  refine l_arg (j := 1) C (by omega) (by decide) dL_law_1269 dL_law_1270 dL_law_1271 dL_law_1272 dL_law_1273 ?_
  refine l_arg (j := 2) C (by omega) (by decide) dL_law_1274 dL_law_1275 dL_law_1276 dL_law_1277 dL_law_1278 ?_
  refine l_cx (as := [.int (xs (i + 1)), .int (xs (i + 2))]) (n := 2) (d := 12) C zi_122 cvL_155 (h1 (fun v μ' => v = some (.int x) ∧ A μ') (fun μ' h => ⟨rfl, h⟩)) rfl (fun _ => rfl) (by decide) (Nat.le_of_ble_eq_true rfl) dL_law_1279 (fun v μ' hv => ?_)
  obtain ⟨rfl, hA⟩ := hv
  refine l_r2 C dL_law_1282 ?_
  refine l_arg (j := 1) C (by omega) (by decide) dL_law_1283 dL_law_1284 dL_law_1285 dL_law_1286 dL_law_1287 ?_
  refine l_arg (j := 2) C (by omega) (by decide) dL_law_1288 dL_law_1289 dL_law_1290 dL_law_1291 dL_law_1292 ?_
  refine l_cm (as := [.int (xs (i + 1)), .int (xs (i + 2))]) (n := 2) (d := 12) C zi_203 cvL_158 (h2 (fun v ν' => v = some (.int x) ∧ B ν') (fun ν' h => ⟨rfl, h⟩)) rfl (fun _ => rfl) (by decide) (Nat.le_of_ble_eq_true rfl) dL_law_1293 (fun v ν' hv => ?_)
  obtain ⟨rfl, hB⟩ := hv
  exact l_eq (tgt := 1430) C dL_law_1296 (by decide) (hn _ _ (h3 _ _ hA hB))
theorem la_34 (C : lC G p s m meth c b L xs) (hi : i + 6 ≤ L) (h : Rel μ ν) (hn : ∀ μ ν, Rel μ ν → lW G p l e s m below meth c b 1430 μ ν i []) : lW G p l e s m below meth c b 1301 μ ν i [] := by
  obtain ⟨r, A, B, h1, h2, h3⟩ : StG FO 12 123 206 [.int (xs (i + 1))] μ ν := (st_enough (d := 0) FO_Fen h (xs (i + 1))).g
  obtain ⟨x, rfl⟩ : ∃ x, r = .int x := by
    obtain ⟨v, μ1, t, rfl⟩ := KK_tok (h1 (fun v _ => v = some r) (fun _ _ => rfl))
    rw [zi_123] at t
    obtain ⟨x, hx⟩ := t
    exact ⟨x, Option.some.inj hx⟩
  refine l_r1 C dL_law_1301 ?_
  refine l_arg (j := 1) C (by omega) (by decide) dL_law_1302 dL_law_1303 dL_law_1304 dL_law_1305 dL_law_1306 ?_
  refine l_cx (as := [.int (xs (i + 1))]) (n := 1) (d := 12) C zi_123 cvL_159 (h1 (fun v μ' => v = some (.int x) ∧ A μ') (fun μ' h => ⟨rfl, h⟩)) rfl (fun _ => rfl) (by decide) (Nat.le_of_ble_eq_true rfl) dL_law_1307 (fun v μ' hv => ?_)
  obtain ⟨rfl, hA⟩ := hv
  refine l_r2 C dL_law_1310 ?_
  refine l_arg (j := 1) C (by omega) (by decide) dL_law_1311 dL_law_1312 dL_law_1313 dL_law_1314 dL_law_1315 ?_
  refine l_cm (as := [.int (xs (i + 1))]) (n := 1) (d := 12) C zi_206 cvL_162 (h2 (fun v ν' => v = some (.int x) ∧ B ν') (fun ν' h => ⟨rfl, h⟩)) rfl (fun _ => rfl) (by decide) (Nat.le_of_ble_eq_true rfl) dL_law_1316 (fun v ν' hv => ?_)
  obtain ⟨rfl, hB⟩ := hv
  exact l_eq (tgt := 1430) C dL_law_1319 (by decide) (hn _ _ (h3 _ _ hA hB))
theorem la_35 (C : lC G p s m meth c b L xs) (hi : i + 6 ≤ L) (h : Rel μ ν) (hn : ∀ μ ν, Rel μ ν → lW G p l e s m below meth c b 1430 μ ν i []) : lW G p l e s m below meth c b 1324 μ ν i [] := by
  obtain ⟨r, A, B, h1, h2, h3⟩ : StG FO 12 124 207 [.int (xs (i + 1))] μ ν := (st_made (d := 0) FO_Fdr h (xs (i + 1))).g
  obtain ⟨x, rfl⟩ : ∃ x, r = .int x := by
    obtain ⟨v, μ1, t, rfl⟩ := KK_tok (h1 (fun v _ => v = some r) (fun _ _ => rfl))
    rw [zi_124] at t
    obtain ⟨x, hx⟩ := t
    exact ⟨x, Option.some.inj hx⟩
  refine l_r1 C dL_law_1324 ?_
  refine l_arg (j := 1) C (by omega) (by decide) dL_law_1325 dL_law_1326 dL_law_1327 dL_law_1328 dL_law_1329 ?_
  refine l_cx (as := [.int (xs (i + 1))]) (n := 1) (d := 12) C zi_124 cvL_163 (h1 (fun v μ' => v = some (.int x) ∧ A μ') (fun μ' h => ⟨rfl, h⟩)) rfl (fun _ => rfl) (by decide) (Nat.le_of_ble_eq_true rfl) dL_law_1330 (fun v μ' hv => ?_)
  obtain ⟨rfl, hA⟩ := hv
  refine l_r2 C dL_law_1333 ?_
  refine l_arg (j := 1) C (by omega) (by decide) dL_law_1334 dL_law_1335 dL_law_1336 dL_law_1337 dL_law_1338 ?_
  refine l_cm (as := [.int (xs (i + 1))]) (n := 1) (d := 12) C zi_207 cvL_166 (h2 (fun v ν' => v = some (.int x) ∧ B ν') (fun ν' h => ⟨rfl, h⟩)) rfl (fun _ => rfl) (by decide) (Nat.le_of_ble_eq_true rfl) dL_law_1339 (fun v ν' hv => ?_)
  obtain ⟨rfl, hB⟩ := hv
  exact l_eq (tgt := 1430) C dL_law_1342 (by decide) (hn _ _ (h3 _ _ hA hB))
theorem la_36 (C : lC G p s m meth c b L xs) (hi : i + 6 ≤ L) (h : Rel μ ν) (hn : ∀ μ ν, Rel μ ν → lW G p l e s m below meth c b 1430 μ ν i []) : lW G p l e s m below meth c b 1347 μ ν i [] := by
  obtain ⟨r, A, B, h1, h2, h3⟩ : StG FO 12 125 208 [] μ ν := (st_unmade (d := 0) FO_Fdr h ).g
  obtain ⟨x, rfl⟩ : ∃ x, r = .int x := by
    obtain ⟨v, μ1, t, rfl⟩ := KK_tok (h1 (fun v _ => v = some r) (fun _ _ => rfl))
    rw [zi_125] at t
    obtain ⟨x, hx⟩ := t
    exact ⟨x, Option.some.inj hx⟩
  refine l_r1 C dL_law_1347 ?_
  refine l_cx (as := []) (n := 0) (d := 12) C zi_125 cvL_167 (h1 (fun v μ' => v = some (.int x) ∧ A μ') (fun μ' h => ⟨rfl, h⟩)) rfl (fun _ => rfl) (by decide) (Nat.le_of_ble_eq_true rfl) dL_law_1348 (fun v μ' hv => ?_)
  obtain ⟨rfl, hA⟩ := hv
  refine l_r2 C dL_law_1351 ?_
  refine l_cm (as := []) (n := 0) (d := 12) C zi_208 cvL_170 (h2 (fun v ν' => v = some (.int x) ∧ B ν') (fun ν' h => ⟨rfl, h⟩)) rfl (fun _ => rfl) (by decide) (Nat.le_of_ble_eq_true rfl) dL_law_1352 (fun v ν' hv => ?_)
  obtain ⟨rfl, hB⟩ := hv
  exact l_eq (tgt := 1430) C dL_law_1355 (by decide) (hn _ _ (h3 _ _ hA hB))
theorem la_37 (C : lC G p s m meth c b L xs) (hi : i + 6 ≤ L) (h : Rel μ ν) (hn : ∀ μ ν, Rel μ ν → lW G p l e s m below meth c b 1430 μ ν i []) : lW G p l e s m below meth c b 1360 μ ν i [] := by
  obtain ⟨r, A, B, h1, h2, h3⟩ : StG FO 12 126 210 [.int (xs (i + 1)), .int (xs (i + 2))] μ ν := (st_drift (d := 0) FO_Fdf h (xs (i + 1)) (xs (i + 2))).g
  obtain ⟨x, rfl⟩ : ∃ x, r = .int x := by
    obtain ⟨v, μ1, t, rfl⟩ := KK_tok (h1 (fun v _ => v = some r) (fun _ _ => rfl))
    rw [zi_126] at t
    obtain ⟨x, hx⟩ := t
    exact ⟨x, Option.some.inj hx⟩
  refine l_r1 C dL_law_1360 ?_
  refine l_arg (j := 1) C (by omega) (by decide) dL_law_1361 dL_law_1362 dL_law_1363 dL_law_1364 dL_law_1365 ?_
  refine l_arg (j := 2) C (by omega) (by decide) dL_law_1366 dL_law_1367 dL_law_1368 dL_law_1369 dL_law_1370 ?_
  refine l_cx (as := [.int (xs (i + 1)), .int (xs (i + 2))]) (n := 2) (d := 12) C zi_126 cvL_171 (h1 (fun v μ' => v = some (.int x) ∧ A μ') (fun μ' h => ⟨rfl, h⟩)) rfl (fun _ => rfl) (by decide) (Nat.le_of_ble_eq_true rfl) dL_law_1371 (fun v μ' hv => ?_)
  obtain ⟨rfl, hA⟩ := hv
  refine l_r2 C dL_law_1374 ?_
  refine l_arg (j := 1) C (by omega) (by decide) dL_law_1375 dL_law_1376 dL_law_1377 dL_law_1378 dL_law_1379 ?_
  refine l_arg (j := 2) C (by omega) (by decide) dL_law_1380 dL_law_1381 dL_law_1382 dL_law_1383 dL_law_1384 ?_
  refine l_cm (as := [.int (xs (i + 1)), .int (xs (i + 2))]) (n := 2) (d := 12) C zi_210 cvL_174 (h2 (fun v ν' => v = some (.int x) ∧ B ν') (fun ν' h => ⟨rfl, h⟩)) rfl (fun _ => rfl) (by decide) (Nat.le_of_ble_eq_true rfl) dL_law_1385 (fun v ν' hv => ?_)
  obtain ⟨rfl, hB⟩ := hv
  exact l_eq (tgt := 1430) C dL_law_1388 (by decide) (hn _ _ (h3 _ _ hA hB))
theorem la_38 (C : lC G p s m meth c b L xs) (hi : i + 6 ≤ L) (h : Rel μ ν) (hn : ∀ μ ν, Rel μ ν → lW G p l e s m below meth c b 1430 μ ν i []) : lW G p l e s m below meth c b 1393 μ ν i [] := by
  obtain ⟨r, A, B, h1, h2, h3⟩ : StG FO 12 127 212 [.int (xs (i + 1))] μ ν := (st_count (d := 0) FO_Fco h (xs (i + 1))).g
  obtain ⟨x, rfl⟩ : ∃ x, r = .int x := by
    obtain ⟨v, μ1, t, rfl⟩ := KK_tok (h1 (fun v _ => v = some r) (fun _ _ => rfl))
    rw [zi_127] at t
    obtain ⟨x, hx⟩ := t
    exact ⟨x, Option.some.inj hx⟩
  refine l_r1 C dL_law_1393 ?_
  refine l_arg (j := 1) C (by omega) (by decide) dL_law_1394 dL_law_1395 dL_law_1396 dL_law_1397 dL_law_1398 ?_
  refine l_cx (as := [.int (xs (i + 1))]) (n := 1) (d := 12) C zi_127 cvL_175 (h1 (fun v μ' => v = some (.int x) ∧ A μ') (fun μ' h => ⟨rfl, h⟩)) rfl (fun _ => rfl) (by decide) (Nat.le_of_ble_eq_true rfl) dL_law_1399 (fun v μ' hv => ?_)
  obtain ⟨rfl, hA⟩ := hv
  refine l_r2 C dL_law_1402 ?_
  refine l_arg (j := 1) C (by omega) (by decide) dL_law_1403 dL_law_1404 dL_law_1405 dL_law_1406 dL_law_1407 ?_
  refine l_cm (as := [.int (xs (i + 1))]) (n := 1) (d := 12) C zi_212 cvL_178 (h2 (fun v ν' => v = some (.int x) ∧ B ν') (fun ν' h => ⟨rfl, h⟩)) rfl (fun _ => rfl) (by decide) (Nat.le_of_ble_eq_true rfl) dL_law_1408 (fun v ν' hv => ?_)
  obtain ⟨rfl, hB⟩ := hv
  exact l_eq (tgt := 1430) C dL_law_1411 (by decide) (hn _ _ (h3 _ _ hA hB))
theorem la_39 (C : lC G p s m meth c b L xs) (hi : i + 6 ≤ L) (h : Rel μ ν) (hn : ∀ μ ν, Rel μ ν → lW G p l e s m below meth c b 1430 μ ν i []) : lW G p l e s m below meth c b 1416 μ ν i [] := by
  obtain ⟨r, A, B, h1, h2, h3⟩ : StG FO 12 128 215 [] μ ν := st_digest (d := 0) FO_Fdi h 
  obtain ⟨x, rfl⟩ : ∃ x, r = .long x := by
    obtain ⟨v, μ1, t, rfl⟩ := KK_tok (h1 (fun v _ => v = some r) (fun _ _ => rfl))
    rw [zi_128] at t
    obtain ⟨x, hx⟩ := t
    exact ⟨x, Option.some.inj hx⟩
  refine l_r1 C dL_law_1416 ?_
  refine l_cx (as := []) (n := 0) (d := 12) C zi_128 cvL_179 (h1 (fun v μ' => v = some (.long x) ∧ A μ') (fun μ' h => ⟨rfl, h⟩)) rfl (fun _ => rfl) (by decide) (Nat.le_of_ble_eq_true rfl) dL_law_1417 (fun v μ' hv => ?_)
  obtain ⟨rfl, hA⟩ := hv
  refine l_r2 C dL_law_1420 ?_
  refine l_cm (as := []) (n := 0) (d := 12) C zi_215 cvL_183 (h2 (fun v ν' => v = some (.long x) ∧ B ν') (fun ν' h => ⟨rfl, h⟩)) rfl (fun _ => rfl) (by decide) (Nat.le_of_ble_eq_true rfl) dL_law_1421 (fun v ν' hv => ?_)
  obtain ⟨rfl, hB⟩ := hv
  exact l_eqL (tgt := 1430) C dL_law_1424 dL_law_1425 (by decide) (hn _ _ (h3 _ _ hA hB))
end LA
