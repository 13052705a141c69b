theorem dX7_shape_223 : decode cX7_shape 223 = .ok (.iconst (-1), 1) := by decide +kernel
theorem dX7_shape_224 : decode cX7_shape 224 = .ok (.ireturn, 1) := by decide +kernel
theorem dX7_shape_225 : decode cX7_shape 225 = .ok (.iload 7, 2) := by decide +kernel
theorem dX7_shape_227 : decode cX7_shape 227 = .ok (.ifCond .eq 19, 3) := by decide +kernel
theorem dX7_shape_230 : decode cX7_shape 230 = .ok (.aload_n 0, 1) := by decide +kernel
theorem dX7_shape_231 : decode cX7_shape 231 = .ok (.bipush 9, 2) := by decide +kernel
theorem dX7_shape_233 : decode cX7_shape 233 = .ok (.iload_n 2, 1) := by decide +kernel
theorem dX7_shape_234 : decode cX7_shape 234 = .ok (.invokevirtual 71, 3) := by decide +kernel
theorem dX7_shape_237 : decode cX7_shape 237 = .ok (.ifCond .eq 7, 3) := by decide +kernel
theorem dX7_shape_240 : decode cX7_shape 240 = .ok (.iconst 0, 1) := by decide +kernel
theorem dX7_shape_241 : decode cX7_shape 241 = .ok (.goto 4, 3) := by decide +kernel
theorem dX7_shape_244 : decode cX7_shape 244 = .ok (.iconst (-1), 1) := by decide +kernel
theorem dX7_shape_245 : decode cX7_shape 245 = .ok (.ireturn, 1) := by decide +kernel
theorem dX7_shape_246 : decode cX7_shape 246 = .ok (.iload 4, 2) := by decide +kernel
theorem dX7_shape_248 : decode cX7_shape 248 = .ok (.bipush 7, 2) := by decide +kernel
theorem dX7_shape_250 : decode cX7_shape 250 = .ok (.if_icmp .ne 29, 3) := by decide +kernel
theorem dX7_shape_253 : decode cX7_shape 253 = .ok (.aload_n 0, 1) := by decide +kernel
theorem dX7_shape_254 : decode cX7_shape 254 = .ok (.iload_n 1, 1) := by decide +kernel
theorem dX7_shape_255 : decode cX7_shape 255 = .ok (.invokevirtual 145, 3) := by decide +kernel
theorem dX7_shape_258 : decode cX7_shape 258 = .ok (.bipush 50, 2) := by decide +kernel
theorem dX7_shape_260 : decode cX7_shape 260 = .ok (.if_icmp .ne 19, 3) := by decide +kernel
theorem dX7_shape_263 : decode cX7_shape 263 = .ok (.aload_n 0, 1) := by decide +kernel
theorem dX7_shape_264 : decode cX7_shape 264 = .ok (.bipush 6, 2) := by decide +kernel
theorem dX7_shape_266 : decode cX7_shape 266 = .ok (.iload_n 2, 1) := by decide +kernel
theorem dX7_shape_267 : decode cX7_shape 267 = .ok (.invokevirtual 71, 3) := by decide +kernel
theorem dX7_shape_270 : decode cX7_shape 270 = .ok (.ifCond .eq 7, 3) := by decide +kernel
theorem dX7_shape_273 : decode cX7_shape 273 = .ok (.iconst 0, 1) := by decide +kernel
theorem dX7_shape_274 : decode cX7_shape 274 = .ok (.goto 4, 3) := by decide +kernel
theorem dX7_shape_277 : decode cX7_shape 277 = .ok (.iconst (-1), 1) := by decide +kernel
theorem dX7_shape_278 : decode cX7_shape 278 = .ok (.ireturn, 1) := by decide +kernel
theorem dX7_shape_279 : decode cX7_shape 279 = .ok (.iload 6, 2) := by decide +kernel
theorem dX7_shape_281 : decode cX7_shape 281 = .ok (.ifCond .eq 13, 3) := by decide +kernel
theorem dX7_shape_284 : decode cX7_shape 284 = .ok (.aload_n 0, 1) := by decide +kernel
theorem dX7_shape_285 : decode cX7_shape 285 = .ok (.iconst 4, 1) := by decide +kernel
theorem dX7_shape_286 : decode cX7_shape 286 = .ok (.invokevirtual 113, 3) := by decide +kernel
theorem dX7_shape_289 : decode cX7_shape 289 = .ok (.ifCond .ne 5, 3) := by decide +kernel
theorem dX7_shape_292 : decode cX7_shape 292 = .ok (.iconst (-1), 1) := by decide +kernel
theorem dX7_shape_293 : decode cX7_shape 293 = .ok (.ireturn, 1) := by decide +kernel
theorem dX7_shape_294 : decode cX7_shape 294 = .ok (.aload_n 0, 1) := by decide +kernel
theorem dX7_shape_295 : decode cX7_shape 295 = .ok (.iconst 2, 1) := by decide +kernel
theorem dX7_shape_296 : decode cX7_shape 296 = .ok (.iconst 0, 1) := by decide +kernel
theorem dX7_shape_297 : decode cX7_shape 297 = .ok (.invokevirtual 110, 3) := by decide +kernel
theorem dX7_shape_300 : decode cX7_shape 300 = .ok (.ifCond .ne 22, 3) := by decide +kernel
theorem dX7_shape_303 : decode cX7_shape 303 = .ok (.aload_n 0, 1) := by decide +kernel
theorem dX7_shape_304 : decode cX7_shape 304 = .ok (.bipush 7, 2) := by decide +kernel
theorem dX7_shape_306 : decode cX7_shape 306 = .ok (.aload_n 0, 1) := by decide +kernel
theorem dX7_shape_307 : decode cX7_shape 307 = .ok (.getfield 68, 3) := by decide +kernel
theorem dX7_shape_310 : decode cX7_shape 310 = .ok (.invokevirtual 71, 3) := by decide +kernel
theorem dX7_shape_313 : decode cX7_shape 313 = .ok (.ifCond .eq 7, 3) := by decide +kernel
theorem dX7_shape_316 : decode cX7_shape 316 = .ok (.iconst 0, 1) := by decide +kernel
theorem dX7_shape_317 : decode cX7_shape 317 = .ok (.goto 4, 3) := by decide +kernel
theorem dX7_shape_320 : decode cX7_shape 320 = .ok (.iconst (-1), 1) := by decide +kernel
theorem dX7_shape_321 : decode cX7_shape 321 = .ok (.ireturn, 1) := by decide +kernel
theorem dX7_shape_322 : decode cX7_shape 322 = .ok (.aload_n 0, 1) := by decide +kernel
theorem dX7_shape_323 : decode cX7_shape 323 = .ok (.iload 4, 2) := by decide +kernel
theorem dX7_shape_325 : decode cX7_shape 325 = .ok (.invokevirtual 133, 3) := by decide +kernel
theorem dX7_shape_328 : decode cX7_shape 328 = .ok (.aload_n 0, 1) := by decide +kernel
theorem dX7_shape_329 : decode cX7_shape 329 = .ok (.iconst 0, 1) := by decide +kernel
theorem dX7_shape_330 : decode cX7_shape 330 = .ok (.invokevirtual 133, 3) := by decide +kernel
theorem dX7_shape_333 : decode cX7_shape 333 = .ok (.aload_n 0, 1) := by decide +kernel
theorem dX7_shape_334 : decode cX7_shape 334 = .ok (.getfield 17, 3) := by decide +kernel
theorem dX7_shape_337 : decode cX7_shape 337 = .ok (.aload_n 0, 1) := by decide +kernel
theorem dX7_shape_338 : decode cX7_shape 338 = .ok (.getfield 107, 3) := by decide +kernel
theorem dX7_shape_341 : decode cX7_shape 341 = .ok (.iaload, 1) := by decide +kernel
theorem dX7_shape_342 : decode cX7_shape 342 = .ok (.iconst 1, 1) := by decide +kernel
theorem dX7_shape_343 : decode cX7_shape 343 = .ok (.isub, 1) := by decide +kernel
theorem dX7_shape_344 : decode cX7_shape 344 = .ok (.istore 8, 2) := by decide +kernel
theorem dX7_shape_346 : decode cX7_shape 346 = .ok (.iload 4, 2) := by decide +kernel
theorem dX7_shape_348 : decode cX7_shape 348 = .ok (.iconst 1, 1) := by decide +kernel
theorem dX7_shape_349 : decode cX7_shape 349 = .ok (.if_icmp .ne 16, 3) := by decide +kernel
theorem dX7_shape_352 : decode cX7_shape 352 = .ok (.aload_n 0, 1) := by decide +kernel
theorem dX7_shape_353 : decode cX7_shape 353 = .ok (.invokevirtual 148, 3) := by decide +kernel
theorem dX7_shape_356 : decode cX7_shape 356 = .ok (.ifCond .eq 7, 3) := by decide +kernel
theorem dX7_shape_359 : decode cX7_shape 359 = .ok (.iload_n 1, 1) := by decide +kernel
theorem dX7_shape_360 : decode cX7_shape 360 = .ok (.goto 4, 3) := by decide +kernel
theorem dX7_shape_363 : decode cX7_shape 363 = .ok (.iconst (-1), 1) := by decide +kernel
theorem dX7_shape_364 : decode cX7_shape 364 = .ok (.ireturn, 1) := by decide +kernel
theorem dX7_shape_365 : decode cX7_shape 365 = .ok (.aload_n 0, 1) := by decide +kernel
theorem dX7_shape_366 : decode cX7_shape 366 = .ok (.iconst 4, 1) := by decide +kernel
theorem dX7_shape_367 : decode cX7_shape 367 = .ok (.invokevirtual 113, 3) := by decide +kernel
theorem dX7_shape_370 : decode cX7_shape 370 = .ok (.ifCond .ne 5, 3) := by decide +kernel
theorem dX7_shape_373 : decode cX7_shape 373 = .ok (.iconst (-1), 1) := by decide +kernel
theorem dX7_shape_374 : decode cX7_shape 374 = .ok (.ireturn, 1) := by decide +kernel
theorem dX7_shape_375 : decode cX7_shape 375 = .ok (.iload 4, 2) := by decide +kernel
theorem dX7_shape_377 : decode cX7_shape 377 = .ok (.iconst 2, 1) := by decide +kernel
theorem dX7_shape_378 : decode cX7_shape 378 = .ok (.if_icmp .ne 22, 3) := by decide +kernel
theorem dX7_shape_381 : decode cX7_shape 381 = .ok (.aload_n 0, 1) := by decide +kernel
theorem dX7_shape_382 : decode cX7_shape 382 = .ok (.aload_n 0, 1) := by decide +kernel
theorem dX7_shape_383 : decode cX7_shape 383 = .ok (.getfield 75, 3) := by decide +kernel
theorem dX7_shape_386 : decode cX7_shape 386 = .ok (.iload 8, 2) := by decide +kernel
theorem dX7_shape_388 : decode cX7_shape 388 = .ok (.invokevirtual 137, 3) := by decide +kernel
theorem dX7_shape_391 : decode cX7_shape 391 = .ok (.ifCond .eq 7, 3) := by decide +kernel
theorem dX7_shape_394 : decode cX7_shape 394 = .ok (.iload_n 1, 1) := by decide +kernel
theorem dX7_shape_395 : decode cX7_shape 395 = .ok (.goto 4, 3) := by decide +kernel
theorem dX7_shape_398 : decode cX7_shape 398 = .ok (.iconst (-1), 1) := by decide +kernel
theorem dX7_shape_399 : decode cX7_shape 399 = .ok (.ireturn, 1) := by decide +kernel
theorem dX7_shape_400 : decode cX7_shape 400 = .ok (.iload 4, 2) := by decide +kernel
theorem dX7_shape_402 : decode cX7_shape 402 = .ok (.iconst 3, 1) := by decide +kernel
theorem dX7_shape_403 : decode cX7_shape 403 = .ok (.if_icmp .ne 22, 3) := by decide +kernel
theorem dX7_shape_406 : decode cX7_shape 406 = .ok (.aload_n 0, 1) := by decide +kernel
theorem dX7_shape_407 : decode cX7_shape 407 = .ok (.aload_n 0, 1) := by decide +kernel
theorem dX7_shape_408 : decode cX7_shape 408 = .ok (.getfield 75, 3) := by decide +kernel
theorem dX7_shape_411 : decode cX7_shape 411 = .ok (.iload 8, 2) := by decide +kernel
theorem dX7_shape_413 : decode cX7_shape 413 = .ok (.invokevirtual 151, 3) := by decide +kernel
theorem dX7_shape_416 : decode cX7_shape 416 = .ok (.ifCond .eq 7, 3) := by decide +kernel
theorem dX7_shape_419 : decode cX7_shape 419 = .ok (.iload_n 1, 1) := by decide +kernel
theorem dX7_shape_420 : decode cX7_shape 420 = .ok (.goto 4, 3) := by decide +kernel
theorem dX7_shape_423 : decode cX7_shape 423 = .ok (.iconst (-1), 1) := by decide +kernel
theorem dX7_shape_424 : decode cX7_shape 424 = .ok (.ireturn, 1) := by decide +kernel
theorem dX7_shape_425 : decode cX7_shape 425 = .ok (.aload_n 0, 1) := by decide +kernel
theorem dX7_shape_426 : decode cX7_shape 426 = .ok (.getfield 14, 3) := by decide +kernel
theorem dX7_shape_429 : decode cX7_shape 429 = .ok (.sipush 4096, 3) := by decide +kernel
theorem dX7_shape_432 : decode cX7_shape 432 = .ok (.aload_n 0, 1) := by decide +kernel
theorem dX7_shape_433 : decode cX7_shape 433 = .ok (.getfield 107, 3) := by decide +kernel
theorem dX7_shape_436 : decode cX7_shape 436 = .ok (.imul, 1) := by decide +kernel
theorem dX7_shape_437 : decode cX7_shape 437 = .ok (.iload 8, 2) := by decide +kernel
theorem dX7_shape_439 : decode cX7_shape 439 = .ok (.iadd, 1) := by decide +kernel
theorem dX7_shape_440 : decode cX7_shape 440 = .ok (.aload_n 0, 1) := by decide +kernel
theorem dX7_shape_441 : decode cX7_shape 441 = .ok (.getfield 75, 3) := by decide +kernel
theorem dX7_shape_444 : decode cX7_shape 444 = .ok (.l2i, 1) := by decide +kernel
theorem dX7_shape_445 : decode cX7_shape 445 = .ok (.iastore, 1) := by decide +kernel
theorem dX7_shape_446 : decode cX7_shape 446 = .ok (.aload_n 0, 1) := by decide +kernel
theorem dX7_shape_447 : decode cX7_shape 447 = .ok (.getfield 75, 3) := by decide +kernel
theorem dX7_shape_450 : decode cX7_shape 450 = .ok (.lconst 0, 1) := by decide +kernel
theorem dX7_shape_451 : decode cX7_shape 451 = .ok (.lcmp, 1) := by decide +kernel
theorem dX7_shape_452 : decode cX7_shape 452 = .ok (.ifCond .ne 5, 3) := by decide +kernel
theorem dX7_shape_455 : decode cX7_shape 455 = .ok (.iload_n 1, 1) := by decide +kernel
theorem dX7_shape_456 : decode cX7_shape 456 = .ok (.ireturn, 1) := by decide +kernel
theorem dX7_shape_457 : decode cX7_shape 457 = .ok (.aload_n 0, 1) := by decide +kernel
theorem dX7_shape_458 : decode cX7_shape 458 = .ok (.getfield 31, 3) := by decide +kernel
theorem dX7_shape_461 : decode cX7_shape 461 = .ok (.iload_n 1, 1) := by decide +kernel
theorem dX7_shape_462 : decode cX7_shape 462 = .ok (.iload 4, 2) := by decide +kernel
theorem dX7_shape_464 : decode cX7_shape 464 = .ok (.iastore, 1) := by decide +kernel
theorem dX7_shape_465 : decode cX7_shape 465 = .ok (.aload_n 0, 1) := by decide +kernel
theorem dX7_shape_466 : decode cX7_shape 466 = .ok (.getfield 34, 3) := by decide +kernel
theorem dX7_shape_469 : decode cX7_shape 469 = .ok (.iload_n 1, 1) := by decide +kernel
theorem dX7_shape_470 : decode cX7_shape 470 = .ok (.aload_n 0, 1) := by decide +kernel
theorem dX7_shape_471 : decode cX7_shape 471 = .ok (.getfield 75, 3) := by decide +kernel
theorem dX7_shape_474 : decode cX7_shape 474 = .ok (.lastore, 1) := by decide +kernel
theorem dX7_shape_475 : decode cX7_shape 475 = .ok (.iload_n 1, 1) := by decide +kernel
theorem dX7_shape_476 : decode cX7_shape 476 = .ok (.iconst 1, 1) := by decide +kernel
theorem dX7_shape_477 : decode cX7_shape 477 = .ok (.iadd, 1) := by decide +kernel
theorem dX7_shape_478 : decode cX7_shape 478 = .ok (.ireturn, 1) := by decide +kernel
theorem dX7_readAll_0 : decode cX7_readAll 0 = .ok (.iconst 0, 1) := by decide +kernel
theorem dX7_readAll_1 : decode cX7_readAll 1 = .ok (.istore_n 1, 1) := by decide +kernel
theorem dX7_readAll_2 : decode cX7_readAll 2 = .ok (.iconst 1, 1) := by decide +kernel
theorem dX7_readAll_3 : decode cX7_readAll 3 = .ok (.istore_n 2, 1) := by decide +kernel
theorem dX7_readAll_4 : decode cX7_readAll 4 = .ok (.iload_n 2, 1) := by decide +kernel
theorem dX7_readAll_5 : decode cX7_readAll 5 = .ok (.ifCond .eq 95, 3) := by decide +kernel
theorem dX7_readAll_8 : decode cX7_readAll 8 = .ok (.iload_n 1, 1) := by decide +kernel
theorem dX7_readAll_9 : decode cX7_readAll 9 = .ok (.istore_n 3, 1) := by decide +kernel
theorem dX7_readAll_10 : decode cX7_readAll 10 = .ok (.aload_n 0, 1) := by decide +kernel
theorem dX7_readAll_11 : decode cX7_readAll 11 = .ok (.iload_n 3, 1) := by decide +kernel
theorem dX7_readAll_12 : decode cX7_readAll 12 = .ok (.invokevirtual 154, 3) := by decide +kernel
theorem dX7_readAll_15 : decode cX7_readAll 15 = .ok (.istore_n 1, 1) := by decide +kernel
theorem dX7_readAll_16 : decode cX7_readAll 16 = .ok (.iload_n 1, 1) := by decide +kernel
theorem dX7_readAll_17 : decode cX7_readAll 17 = .ok (.ifCond .ge 5, 3) := by decide +kernel
theorem dX7_readAll_20 : decode cX7_readAll 20 = .ok (.iconst 0, 1) := by decide +kernel
theorem dX7_readAll_21 : decode cX7_readAll 21 = .ok (.ireturn, 1) := by decide +kernel
theorem dX7_readAll_22 : decode cX7_readAll 22 = .ok (.iload_n 1, 1) := by decide +kernel
theorem dX7_readAll_23 : decode cX7_readAll 23 = .ok (.iload_n 3, 1) := by decide +kernel
theorem dX7_readAll_24 : decode cX7_readAll 24 = .ok (.if_icmp .ne 7, 3) := by decide +kernel
theorem dX7_readAll_27 : decode cX7_readAll 27 = .ok (.iconst 1, 1) := by decide +kernel
theorem dX7_readAll_28 : decode cX7_readAll 28 = .ok (.goto 4, 3) := by decide +kernel
theorem dX7_readAll_31 : decode cX7_readAll 31 = .ok (.iconst 0, 1) := by decide +kernel
theorem dX7_readAll_32 : decode cX7_readAll 32 = .ok (.istore 4, 2) := by decide +kernel
theorem dX7_readAll_34 : decode cX7_readAll 34 = .ok (.iload 4, 2) := by decide +kernel
theorem dX7_readAll_36 : decode cX7_readAll 36 = .ok (.ifCond .eq 50, 3) := by decide +kernel
theorem dX7_readAll_39 : decode cX7_readAll 39 = .ok (.iload_n 1, 1) := by decide +kernel
theorem dX7_readAll_40 : decode cX7_readAll 40 = .ok (.ifCond .le 46, 3) := by decide +kernel
theorem dX7_readAll_43 : decode cX7_readAll 43 = .ok (.aload_n 0, 1) := by decide +kernel
theorem dX7_readAll_44 : decode cX7_readAll 44 = .ok (.getfield 34, 3) := by decide +kernel
theorem dX7_readAll_47 : decode cX7_readAll 47 = .ok (.iload_n 1, 1) := by decide +kernel
theorem dX7_readAll_48 : decode cX7_readAll 48 = .ok (.iconst 1, 1) := by decide +kernel
theorem dX7_readAll_49 : decode cX7_readAll 49 = .ok (.isub, 1) := by decide +kernel
theorem dX7_readAll_50 : decode cX7_readAll 50 = .ok (.dup2, 1) := by decide +kernel
theorem dX7_readAll_51 : decode cX7_readAll 51 = .ok (.laload, 1) := by decide +kernel
theorem dX7_readAll_52 : decode cX7_readAll 52 = .ok (.lconst 1, 1) := by decide +kernel
theorem dX7_readAll_53 : decode cX7_readAll 53 = .ok (.lsub, 1) := by decide +kernel
theorem dX7_readAll_54 : decode cX7_readAll 54 = .ok (.lastore, 1) := by decide +kernel
theorem dX7_readAll_55 : decode cX7_readAll 55 = .ok (.aload_n 0, 1) := by decide +kernel
theorem dX7_readAll_56 : decode cX7_readAll 56 = .ok (.getfield 34, 3) := by decide +kernel
theorem dX7_readAll_59 : decode cX7_readAll 59 = .ok (.iload_n 1, 1) := by decide +kernel
theorem dX7_readAll_60 : decode cX7_readAll 60 = .ok (.iconst 1, 1) := by decide +kernel
theorem dX7_readAll_61 : decode cX7_readAll 61 = .ok (.isub, 1) := by decide +kernel
theorem dX7_readAll_62 : decode cX7_readAll 62 = .ok (.laload, 1) := by decide +kernel
theorem dX7_readAll_63 : decode cX7_readAll 63 = .ok (.lconst 0, 1) := by decide +kernel
theorem dX7_readAll_64 : decode cX7_readAll 64 = .ok (.lcmp, 1) := by decide +kernel
theorem dX7_readAll_65 : decode cX7_readAll 65 = .ok (.ifCond .ne 7, 3) := by decide +kernel
theorem dX7_readAll_68 : decode cX7_readAll 68 = .ok (.iconst 1, 1) := by decide +kernel
theorem dX7_readAll_69 : decode cX7_readAll 69 = .ok (.goto 4, 3) := by decide +kernel
theorem dX7_readAll_72 : decode cX7_readAll 72 = .ok (.iconst 0, 1) := by decide +kernel
theorem dX7_readAll_73 : decode cX7_readAll 73 = .ok (.istore 4, 2) := by decide +kernel
theorem dX7_readAll_75 : decode cX7_readAll 75 = .ok (.iload 4, 2) := by decide +kernel
theorem dX7_readAll_77 : decode cX7_readAll 77 = .ok (.ifCond .eq (-43), 3) := by decide +kernel
theorem dX7_readAll_80 : decode cX7_readAll 80 = .ok (.iinc 1 (-1), 3) := by decide +kernel
theorem dX7_readAll_83 : decode cX7_readAll 83 = .ok (.goto (-49), 3) := by decide +kernel
theorem dX7_readAll_86 : decode cX7_readAll 86 = .ok (.iload 4, 2) := by decide +kernel
theorem dX7_readAll_88 : decode cX7_readAll 88 = .ok (.ifCond .ne 7, 3) := by decide +kernel
theorem dX7_readAll_91 : decode cX7_readAll 91 = .ok (.iconst 1, 1) := by decide +kernel
theorem dX7_readAll_92 : decode cX7_readAll 92 = .ok (.goto 4, 3) := by decide +kernel
theorem dX7_readAll_95 : decode cX7_readAll 95 = .ok (.iconst 0, 1) := by decide +kernel
theorem dX7_readAll_96 : decode cX7_readAll 96 = .ok (.istore_n 2, 1) := by decide +kernel
theorem dX7_readAll_97 : decode cX7_readAll 97 = .ok (.goto (-93), 3) := by decide +kernel
theorem dX7_readAll_100 : decode cX7_readAll 100 = .ok (.aload_n 0, 1) := by decide +kernel
theorem dX7_readAll_101 : decode cX7_readAll 101 = .ok (.getfield 68, 3) := by decide +kernel
theorem dX7_readAll_104 : decode cX7_readAll 104 = .ok (.aload_n 0, 1) := by decide +kernel
theorem dX7_readAll_105 : decode cX7_readAll 105 = .ok (.getfield 55, 3) := by decide +kernel
theorem dX7_readAll_108 : decode cX7_readAll 108 = .ok (.if_icmp .eq 16, 3) := by decide +kernel
theorem dX7_readAll_111 : decode cX7_readAll 111 = .ok (.aload_n 0, 1) := by decide +kernel
theorem dX7_readAll_112 : decode cX7_readAll 112 = .ok (.bipush 8, 2) := by decide +kernel
theorem dX7_readAll_114 : decode cX7_readAll 114 = .ok (.aload_n 0, 1) := by decide +kernel
theorem dX7_readAll_115 : decode cX7_readAll 115 = .ok (.getfield 68, 3) := by decide +kernel
theorem dX7_readAll_118 : decode cX7_readAll 118 = .ok (.invokevirtual 71, 3) := by decide +kernel
theorem dX7_readAll_121 : decode cX7_readAll 121 = .ok (.ifCond .eq 7, 3) := by decide +kernel
theorem dX7_readAll_124 : decode cX7_readAll 124 = .ok (.iconst 1, 1) := by decide +kernel
theorem dX7_readAll_125 : decode cX7_readAll 125 = .ok (.goto 4, 3) := by decide +kernel
theorem dX7_readAll_128 : decode cX7_readAll 128 = .ok (.iconst 0, 1) := by decide +kernel
theorem dX7_readAll_129 : decode cX7_readAll 129 = .ok (.ireturn, 1) := by decide +kernel
theorem dX7_read_0 : decode cX7_read 0 = .ok (.aload_n 0, 1) := by decide +kernel
theorem dX7_read_1 : decode cX7_read 1 = .ok (.iconst 0, 1) := by decide +kernel
theorem dX7_read_2 : decode cX7_read 2 = .ok (.putfield 48, 3) := by decide +kernel
theorem dX7_read_5 : decode cX7_read 5 = .ok (.iload_n 1, 1) := by decide +kernel
theorem dX7_read_6 : decode cX7_read 6 = .ok (.invokestatic 157, 3) := by decide +kernel
theorem dX7_read_9 : decode cX7_read 9 = .ok (.ifCond .ne 14, 3) := by decide +kernel
theorem dX7_read_12 : decode cX7_read 12 = .ok (.aload_n 0, 1) := by decide +kernel
theorem dX7_read_13 : decode cX7_read 13 = .ok (.iconst 0, 1) := by decide +kernel
theorem dX7_read_14 : decode cX7_read 14 = .ok (.putfield 55, 3) := by decide +kernel
theorem dX7_read_17 : decode cX7_read 17 = .ok (.aload_n 0, 1) := by decide +kernel
theorem dX7_read_18 : decode cX7_read 18 = .ok (.iconst 1, 1) := by decide +kernel
theorem dX7_read_19 : decode cX7_read 19 = .ok (.invokevirtual 58, 3) := by decide +kernel
theorem dX7_read_22 : decode cX7_read 22 = .ok (.ireturn, 1) := by decide +kernel
theorem dX7_read_23 : decode cX7_read 23 = .ok (.aload_n 0, 1) := by decide +kernel
theorem dX7_read_24 : decode cX7_read 24 = .ok (.iload_n 1, 1) := by decide +kernel
theorem dX7_read_25 : decode cX7_read 25 = .ok (.putfield 107, 3) := by decide +kernel
theorem dX7_read_28 : decode cX7_read 28 = .ok (.aload_n 0, 1) := by decide +kernel
theorem dX7_read_29 : decode cX7_read 29 = .ok (.iconst 0, 1) := by decide +kernel
theorem dX7_read_30 : decode cX7_read 30 = .ok (.putfield 68, 3) := by decide +kernel
theorem dX7_read_33 : decode cX7_read 33 = .ok (.aload_n 0, 1) := by decide +kernel
theorem dX7_read_34 : decode cX7_read 34 = .ok (.iconst 0, 1) := by decide +kernel
theorem dX7_read_35 : decode cX7_read 35 = .ok (.putfield 62, 3) := by decide +kernel
theorem dX7_read_38 : decode cX7_read 38 = .ok (.aload_n 0, 1) := by decide +kernel
theorem dX7_read_39 : decode cX7_read 39 = .ok (.iconst 0, 1) := by decide +kernel
theorem dX7_read_40 : decode cX7_read 40 = .ok (.putfield 65, 3) := by decide +kernel
theorem dX7_read_43 : decode cX7_read 43 = .ok (.aload_n 0, 1) := by decide +kernel
theorem dX7_read_44 : decode cX7_read 44 = .ok (.getfield 17, 3) := by decide +kernel
theorem dX7_read_47 : decode cX7_read 47 = .ok (.iload_n 1, 1) := by decide +kernel
theorem dX7_read_48 : decode cX7_read 48 = .ok (.iconst 0, 1) := by decide +kernel
theorem dX7_read_49 : decode cX7_read 49 = .ok (.iastore, 1) := by decide +kernel
theorem dX7_read_50 : decode cX7_read 50 = .ok (.aload_n 0, 1) := by decide +kernel
theorem dX7_read_51 : decode cX7_read 51 = .ok (.getfield 24, 3) := by decide +kernel
theorem dX7_read_54 : decode cX7_read 54 = .ok (.iload_n 1, 1) := by decide +kernel
theorem dX7_read_55 : decode cX7_read 55 = .ok (.iconst 0, 1) := by decide +kernel
theorem dX7_read_56 : decode cX7_read 56 = .ok (.iastore, 1) := by decide +kernel
theorem dX7_read_57 : decode cX7_read 57 = .ok (.aload_n 0, 1) := by decide +kernel
theorem dX7_read_58 : decode cX7_read 58 = .ok (.invokevirtual 160, 3) := by decide +kernel
theorem dX7_read_61 : decode cX7_read 61 = .ok (.istore_n 2, 1) := by decide +kernel
theorem dX7_read_62 : decode cX7_read 62 = .ok (.aload_n 0, 1) := by decide +kernel
theorem dX7_read_63 : decode cX7_read 63 = .ok (.iconst 0, 1) := by decide +kernel
theorem dX7_read_64 : decode cX7_read 64 = .ok (.putfield 55, 3) := by decide +kernel
theorem dX7_read_67 : decode cX7_read 67 = .ok (.iload_n 2, 1) := by decide +kernel
theorem dX7_read_68 : decode cX7_read 68 = .ok (.ifCond .eq 14, 3) := by decide +kernel
theorem dX7_read_71 : decode cX7_read 71 = .ok (.aload_n 0, 1) := by decide +kernel
theorem dX7_read_72 : decode cX7_read 72 = .ok (.getfield 14, 3) := by decide +kernel
theorem dX7_read_75 : decode cX7_read 75 = .ok (.sipush 4096, 3) := by decide +kernel
theorem dX7_read_78 : decode cX7_read 78 = .ok (.iload_n 1, 1) := by decide +kernel
theorem dX7_read_79 : decode cX7_read 79 = .ok (.imul, 1) := by decide +kernel
theorem dX7_read_80 : decode cX7_read 80 = .ok (.iaload, 1) := by decide +kernel
theorem dX7_read_81 : decode cX7_read 81 = .ok (.ireturn, 1) := by decide +kernel
theorem dX7_read_82 : decode cX7_read 82 = .ok (.aload_n 0, 1) := by decide +kernel
theorem dX7_read_83 : decode cX7_read 83 = .ok (.getfield 17, 3) := by decide +kernel
theorem dX7_read_86 : decode cX7_read 86 = .ok (.iload_n 1, 1) := by decide +kernel
theorem dX7_read_87 : decode cX7_read 87 = .ok (.iconst 0, 1) := by decide +kernel
theorem dX7_read_88 : decode cX7_read 88 = .ok (.iastore, 1) := by decide +kernel
theorem dX7_read_89 : decode cX7_read 89 = .ok (.aload_n 0, 1) := by decide +kernel
theorem dX7_read_90 : decode cX7_read 90 = .ok (.getfield 24, 3) := by decide +kernel
theorem dX7_read_93 : decode cX7_read 93 = .ok (.iload_n 1, 1) := by decide +kernel
theorem dX7_read_94 : decode cX7_read 94 = .ok (.iconst 0, 1) := by decide +kernel
theorem dX7_read_95 : decode cX7_read 95 = .ok (.iastore, 1) := by decide +kernel
theorem dX7_read_96 : decode cX7_read 96 = .ok (.aload_n 0, 1) := by decide +kernel
theorem dX7_read_97 : decode cX7_read 97 = .ok (.iconst 2, 1) := by decide +kernel
theorem dX7_read_98 : decode cX7_read 98 = .ok (.invokevirtual 58, 3) := by decide +kernel
theorem dX7_read_101 : decode cX7_read 101 = .ok (.ireturn, 1) := by decide +kernel
theorem dX7_fault_0 : decode cX7_fault 0 = .ok (.aload_n 0, 1) := by decide +kernel
theorem dX7_fault_1 : decode cX7_fault 1 = .ok (.iconst 0, 1) := by decide +kernel
theorem dX7_fault_2 : decode cX7_fault 2 = .ok (.putfield 48, 3) := by decide +kernel
theorem dX7_fault_5 : decode cX7_fault 5 = .ok (.iload_n 1, 1) := by decide +kernel
theorem dX7_fault_6 : decode cX7_fault 6 = .ok (.iconst 0, 1) := by decide +kernel
theorem dX7_fault_7 : decode cX7_fault 7 = .ok (.iconst 1, 1) := by decide +kernel
theorem dX7_fault_8 : decode cX7_fault 8 = .ok (.invokestatic 51, 3) := by decide +kernel
theorem dX7_fault_11 : decode cX7_fault 11 = .ok (.ifCond .eq 21, 3) := by decide +kernel
theorem dX7_fault_14 : decode cX7_fault 14 = .ok (.iload_n 1, 1) := by decide +kernel
theorem dX7_fault_15 : decode cX7_fault 15 = .ok (.ifCond .ne 10, 3) := by decide +kernel
theorem dX7_fault_18 : decode cX7_fault 18 = .ok (.aload_n 0, 1) := by decide +kernel
theorem dX7_fault_19 : decode cX7_fault 19 = .ok (.getfield 62, 3) := by decide +kernel
theorem dX7_fault_22 : decode cX7_fault 22 = .ok (.goto 15, 3) := by decide +kernel
theorem dX7_fault_25 : decode cX7_fault 25 = .ok (.aload_n 0, 1) := by decide +kernel
theorem dX7_fault_26 : decode cX7_fault 26 = .ok (.getfield 65, 3) := by decide +kernel
theorem dX7_fault_29 : decode cX7_fault 29 = .ok (.goto 8, 3) := by decide +kernel
theorem dX7_fault_32 : decode cX7_fault 32 = .ok (.aload_n 0, 1) := by decide +kernel
theorem dX7_fault_33 : decode cX7_fault 33 = .ok (.iconst 1, 1) := by decide +kernel
theorem dX7_fault_34 : decode cX7_fault 34 = .ok (.invokevirtual 58, 3) := by decide +kernel
theorem dX7_fault_37 : decode cX7_fault 37 = .ok (.ireturn, 1) := by decide +kernel
theorem dX7_add_0 : decode cX7_add 0 = .ok (.iconst 0, 1) := by decide +kernel
theorem dX7_add_1 : decode cX7_add 1 = .ok (.istore 4, 2) := by decide +kernel
theorem dX7_add_3 : decode cX7_add 3 = .ok (.iload 4, 2) := by decide +kernel
theorem dX7_add_5 : decode cX7_add 5 = .ok (.iload_n 3, 1) := by decide +kernel
theorem dX7_add_6 : decode cX7_add 6 = .ok (.if_icmp .ge 50, 3) := by decide +kernel
theorem dX7_add_9 : decode cX7_add 9 = .ok (.aload_n 0, 1) := by decide +kernel
theorem dX7_add_10 : decode cX7_add 10 = .ok (.getfield 28, 3) := by decide +kernel
theorem dX7_add_13 : decode cX7_add 13 = .ok (.aload_n 0, 1) := by decide +kernel
theorem dX7_add_14 : decode cX7_add 14 = .ok (.getfield 163, 3) := by decide +kernel
theorem dX7_add_17 : decode cX7_add 17 = .ok (.iload 4, 2) := by decide +kernel
theorem dX7_add_19 : decode cX7_add 19 = .ok (.iadd, 1) := by decide +kernel
theorem dX7_add_20 : decode cX7_add 20 = .ok (.lload_n 1, 1) := by decide +kernel
theorem dX7_add_21 : decode cX7_add 21 = .ok (.bipush 8, 2) := by decide +kernel
theorem dX7_add_23 : decode cX7_add 23 = .ok (.aload_n 0, 1) := by decide +kernel
theorem dX7_add_24 : decode cX7_add 24 = .ok (.getfield 166, 3) := by decide +kernel
theorem dX7_add_27 : decode cX7_add 27 = .ok (.iconst 1, 1) := by decide +kernel
theorem dX7_add_28 : decode cX7_add 28 = .ok (.if_icmp .ne 8, 3) := by decide +kernel
theorem dX7_add_31 : decode cX7_add 31 = .ok (.iload 4, 2) := by decide +kernel
theorem dX7_add_33 : decode cX7_add 33 = .ok (.goto 9, 3) := by decide +kernel
theorem dX7_add_36 : decode cX7_add 36 = .ok (.iload_n 3, 1) := by decide +kernel
theorem dX7_add_37 : decode cX7_add 37 = .ok (.iconst 1, 1) := by decide +kernel
theorem dX7_add_38 : decode cX7_add 38 = .ok (.isub, 1) := by decide +kernel
theorem dX7_add_39 : decode cX7_add 39 = .ok (.iload 4, 2) := by decide +kernel
theorem dX7_add_41 : decode cX7_add 41 = .ok (.isub, 1) := by decide +kernel
theorem dX7_add_42 : decode cX7_add 42 = .ok (.imul, 1) := by decide +kernel
theorem dX7_add_43 : decode cX7_add 43 = .ok (.lshr, 1) := by decide +kernel
theorem dX7_add_44 : decode cX7_add 44 = .ok (.ldc2_w 169, 3) := by decide +kernel
theorem dX7_add_47 : decode cX7_add 47 = .ok (.land, 1) := by decide +kernel
theorem dX7_add_48 : decode cX7_add 48 = .ok (.l2i, 1) := by decide +kernel
theorem dX7_add_49 : decode cX7_add 49 = .ok (.iastore, 1) := by decide +kernel
theorem dX7_add_50 : decode cX7_add 50 = .ok (.iinc 4 1, 3) := by decide +kernel
theorem dX7_add_53 : decode cX7_add 53 = .ok (.goto (-50), 3) := by decide +kernel
theorem dX7_add_56 : decode cX7_add 56 = .ok (.aload_n 0, 1) := by decide +kernel
theorem dX7_add_57 : decode cX7_add 57 = .ok (.dup, 1) := by decide +kernel
theorem dX7_add_58 : decode cX7_add 58 = .ok (.getfield 163, 3) := by decide +kernel
theorem dX7_add_61 : decode cX7_add 61 = .ok (.iload_n 3, 1) := by decide +kernel
theorem dX7_add_62 : decode cX7_add 62 = .ok (.iadd, 1) := by decide +kernel
theorem dX7_add_63 : decode cX7_add 63 = .ok (.putfield 163, 3) := by decide +kernel
theorem dX7_add_66 : decode cX7_add 66 = .ok (.return_, 1) := by decide +kernel
theorem dX7_bitsOf_0 : decode cX7_bitsOf 0 = .ok (.iload_n 1, 1) := by decide +kernel
theorem dX7_bitsOf_1 : decode cX7_bitsOf 1 = .ok (.ifCond .ne 5, 3) := by decide +kernel
theorem dX7_bitsOf_4 : decode cX7_bitsOf 4 = .ok (.lconst 0, 1) := by decide +kernel
theorem dX7_bitsOf_5 : decode cX7_bitsOf 5 = .ok (.lreturn, 1) := by decide +kernel
theorem dX7_bitsOf_6 : decode cX7_bitsOf 6 = .ok (.iload_n 1, 1) := by decide +kernel
theorem dX7_bitsOf_7 : decode cX7_bitsOf 7 = .ok (.ifCond .ge 9, 3) := by decide +kernel
theorem dX7_bitsOf_10 : decode cX7_bitsOf 10 = .ok (.iload_n 1, 1) := by decide +kernel
theorem dX7_bitsOf_11 : decode cX7_bitsOf 11 = .ok (.ineg, 1) := by decide +kernel
theorem dX7_bitsOf_12 : decode cX7_bitsOf 12 = .ok (.i2l, 1) := by decide +kernel
theorem dX7_bitsOf_13 : decode cX7_bitsOf 13 = .ok (.goto 5, 3) := by decide +kernel
theorem dX7_bitsOf_16 : decode cX7_bitsOf 16 = .ok (.iload_n 1, 1) := by decide +kernel
theorem dX7_bitsOf_17 : decode cX7_bitsOf 17 = .ok (.i2l, 1) := by decide +kernel
theorem dX7_bitsOf_18 : decode cX7_bitsOf 18 = .ok (.lstore_n 2, 1) := by decide +kernel
theorem dX7_bitsOf_19 : decode cX7_bitsOf 19 = .ok (.aload_n 0, 1) := by decide +kernel
theorem dX7_bitsOf_20 : decode cX7_bitsOf 20 = .ok (.getfield 38, 3) := by decide +kernel
theorem dX7_bitsOf_23 : decode cX7_bitsOf 23 = .ok (.invokestatic 93, 3) := by decide +kernel
theorem dX7_bitsOf_26 : decode cX7_bitsOf 26 = .ok (.i2l, 1) := by decide +kernel
theorem dX7_bitsOf_27 : decode cX7_bitsOf 27 = .ok (.lstore 4, 2) := by decide +kernel
theorem dX7_bitsOf_29 : decode cX7_bitsOf 29 = .ok (.lconst 0, 1) := by decide +kernel
theorem dX7_bitsOf_30 : decode cX7_bitsOf 30 = .ok (.lstore 6, 2) := by decide +kernel
theorem dX7_bitsOf_32 : decode cX7_bitsOf 32 = .ok (.lload_n 2, 1) := by decide +kernel
theorem dX7_bitsOf_33 : decode cX7_bitsOf 33 = .ok (.ldc2_w 102, 3) := by decide +kernel
theorem dX7_bitsOf_36 : decode cX7_bitsOf 36 = .ok (.lload 4, 2) := by decide +kernel
theorem dX7_bitsOf_38 : decode cX7_bitsOf 38 = .ok (.lmul, 1) := by decide +kernel
theorem dX7_bitsOf_39 : decode cX7_bitsOf 39 = .ok (.lcmp, 1) := by decide +kernel
theorem dX7_bitsOf_40 : decode cX7_bitsOf 40 = .ok (.ifCond .lt 20, 3) := by decide +kernel
theorem dX7_bitsOf_43 : decode cX7_bitsOf 43 = .ok (.ldc2_w 102, 3) := by decide +kernel
theorem dX7_bitsOf_46 : decode cX7_bitsOf 46 = .ok (.lload 4, 2) := by decide +kernel
theorem dX7_bitsOf_48 : decode cX7_bitsOf 48 = .ok (.lmul, 1) := by decide +kernel
theorem dX7_bitsOf_49 : decode cX7_bitsOf 49 = .ok (.lstore 4, 2) := by decide +kernel
theorem dX7_bitsOf_51 : decode cX7_bitsOf 51 = .ok (.lload 6, 2) := by decide +kernel
theorem dX7_bitsOf_53 : decode cX7_bitsOf 53 = .ok (.lconst 1, 1) := by decide +kernel
theorem dX7_bitsOf_54 : decode cX7_bitsOf 54 = .ok (.ladd, 1) := by decide +kernel
theorem dX7_bitsOf_55 : decode cX7_bitsOf 55 = .ok (.lstore 6, 2) := by decide +kernel
theorem dX7_bitsOf_57 : decode cX7_bitsOf 57 = .ok (.goto (-25), 3) := by decide +kernel
theorem dX7_bitsOf_60 : decode cX7_bitsOf 60 = .ok (.lload_n 2, 1) := by decide +kernel
theorem dX7_bitsOf_61 : decode cX7_bitsOf 61 = .ok (.lload 4, 2) := by decide +kernel
theorem dX7_bitsOf_63 : decode cX7_bitsOf 63 = .ok (.lcmp, 1) := by decide +kernel
theorem dX7_bitsOf_64 : decode cX7_bitsOf 64 = .ok (.ifCond .ge 18, 3) := by decide +kernel
theorem dX7_bitsOf_67 : decode cX7_bitsOf 67 = .ok (.ldc2_w 102, 3) := by decide +kernel
theorem dX7_bitsOf_70 : decode cX7_bitsOf 70 = .ok (.lload_n 2, 1) := by decide +kernel
theorem dX7_bitsOf_71 : decode cX7_bitsOf 71 = .ok (.lmul, 1) := by decide +kernel
theorem dX7_bitsOf_72 : decode cX7_bitsOf 72 = .ok (.lstore_n 2, 1) := by decide +kernel
theorem dX7_bitsOf_73 : decode cX7_bitsOf 73 = .ok (.lload 6, 2) := by decide +kernel
theorem dX7_bitsOf_75 : decode cX7_bitsOf 75 = .ok (.lconst 1, 1) := by decide +kernel
theorem dX7_bitsOf_76 : decode cX7_bitsOf 76 = .ok (.lsub, 1) := by decide +kernel
theorem dX7_bitsOf_77 : decode cX7_bitsOf 77 = .ok (.lstore 6, 2) := by decide +kernel
theorem dX7_bitsOf_79 : decode cX7_bitsOf 79 = .ok (.goto (-19), 3) := by decide +kernel
theorem dX7_bitsOf_82 : decode cX7_bitsOf 82 = .ok (.lconst 0, 1) := by decide +kernel
theorem dX7_bitsOf_83 : decode cX7_bitsOf 83 = .ok (.lstore 8, 2) := by decide +kernel
theorem dX7_bitsOf_85 : decode cX7_bitsOf 85 = .ok (.iconst 0, 1) := by decide +kernel
theorem dX7_bitsOf_86 : decode cX7_bitsOf 86 = .ok (.istore 10, 2) := by decide +kernel
theorem dX7_bitsOf_88 : decode cX7_bitsOf 88 = .ok (.iload 10, 2) := by decide +kernel
theorem dX7_bitsOf_90 : decode cX7_bitsOf 90 = .ok (.bipush 53, 2) := by decide +kernel
theorem dX7_bitsOf_92 : decode cX7_bitsOf 92 = .ok (.if_icmp .ge 50, 3) := by decide +kernel
theorem dX7_bitsOf_95 : decode cX7_bitsOf 95 = .ok (.ldc2_w 102, 3) := by decide +kernel
theorem dX7_bitsOf_98 : decode cX7_bitsOf 98 = .ok (.lload 8, 2) := by decide +kernel
theorem dX7_bitsOf_100 : decode cX7_bitsOf 100 = .ok (.lmul, 1) := by decide +kernel
theorem dX7_bitsOf_101 : decode cX7_bitsOf 101 = .ok (.lload_n 2, 1) := by decide +kernel
theorem dX7_bitsOf_102 : decode cX7_bitsOf 102 = .ok (.lload 4, 2) := by decide +kernel
theorem dX7_bitsOf_104 : decode cX7_bitsOf 104 = .ok (.lcmp, 1) := by decide +kernel
theorem dX7_bitsOf_105 : decode cX7_bitsOf 105 = .ok (.ifCond .lt 7, 3) := by decide +kernel
theorem dX7_bitsOf_108 : decode cX7_bitsOf 108 = .ok (.lconst 1, 1) := by decide +kernel
theorem dX7_bitsOf_109 : decode cX7_bitsOf 109 = .ok (.goto 4, 3) := by decide +kernel
theorem dX7_bitsOf_112 : decode cX7_bitsOf 112 = .ok (.lconst 0, 1) := by decide +kernel
theorem dX7_bitsOf_113 : decode cX7_bitsOf 113 = .ok (.ladd, 1) := by decide +kernel
theorem dX7_bitsOf_114 : decode cX7_bitsOf 114 = .ok (.lstore 8, 2) := by decide +kernel
theorem dX7_bitsOf_116 : decode cX7_bitsOf 116 = .ok (.ldc2_w 102, 3) := by decide +kernel
theorem dX7_bitsOf_119 : decode cX7_bitsOf 119 = .ok (.lload_n 2, 1) := by decide +kernel
theorem dX7_bitsOf_120 : decode cX7_bitsOf 120 = .ok (.lload 4, 2) := by decide +kernel
theorem dX7_bitsOf_122 : decode cX7_bitsOf 122 = .ok (.lcmp, 1) := by decide +kernel
theorem dX7_bitsOf_123 : decode cX7_bitsOf 123 = .ok (.ifCond .lt 10, 3) := by decide +kernel
theorem dX7_bitsOf_126 : decode cX7_bitsOf 126 = .ok (.lload_n 2, 1) := by decide +kernel
theorem dX7_bitsOf_127 : decode cX7_bitsOf 127 = .ok (.lload 4, 2) := by decide +kernel
theorem dX7_bitsOf_129 : decode cX7_bitsOf 129 = .ok (.lsub, 1) := by decide +kernel
theorem dX7_bitsOf_130 : decode cX7_bitsOf 130 = .ok (.goto 4, 3) := by decide +kernel
theorem dX7_bitsOf_133 : decode cX7_bitsOf 133 = .ok (.lload_n 2, 1) := by decide +kernel
theorem dX7_bitsOf_134 : decode cX7_bitsOf 134 = .ok (.lmul, 1) := by decide +kernel
