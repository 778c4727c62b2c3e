/-! ===== the cases whose call throws ===== -/
theorem q_108_0 : p_tb 108 0 = some (.aload_n 0, 1) := by decide +kernel
theorem q_108_1 : p_tb 108 1 = some (.iload_n 1, 1) := by decide +kernel
theorem q_108_2 : p_tb 108 2 = some (.invokevirtual 169, 3) := by decide +kernel
theorem q_108_5 : p_tb 108 5 = some (.ifCond .eq 13, 3) := by decide +kernel
theorem q_108_18 : p_tb 108 18 = some (.new 173, 3) := by decide +kernel
theorem q_108_21 : p_tb 108 21 = some (.dup, 1) := by decide +kernel
theorem q_108_22 : p_tb 108 22 = some (.invokespecial 175, 3) := by decide +kernel
theorem q_108_25 : p_tb 108 25 = some (.athrow, 1) := by decide +kernel
theorem q_109_0 : p_tb 109 0 = some (.aload_n 0, 1) := by decide +kernel
theorem q_109_1 : p_tb 109 1 = some (.iload_n 1, 1) := by decide +kernel
theorem q_109_2 : p_tb 109 2 = some (.invokevirtual 203, 3) := by decide +kernel
theorem q_109_5 : p_tb 109 5 = some (.ifCond .eq 13, 3) := by decide +kernel
theorem q_109_18 : p_tb 109 18 = some (.new 173, 3) := by decide +kernel
theorem q_109_21 : p_tb 109 21 = some (.dup, 1) := by decide +kernel
theorem q_109_22 : p_tb 109 22 = some (.invokespecial 175, 3) := by decide +kernel
theorem q_109_25 : p_tb 109 25 = some (.athrow, 1) := by decide +kernel
theorem q_138_0 : p_tb 138 0 = some (.aload_n 0, 1) := by decide +kernel
theorem q_138_1 : p_tb 138 1 = some (.iload_n 1, 1) := by decide +kernel
theorem q_138_2 : p_tb 138 2 = some (.iload_n 2, 1) := by decide +kernel
theorem q_138_3 : p_tb 138 3 = some (.iload_n 3, 1) := by decide +kernel
theorem q_138_4 : p_tb 138 4 = some (.invokevirtual 348, 3) := by decide +kernel
theorem q_138_7 : p_tb 138 7 = some (.ifCond .eq 14, 3) := by decide +kernel
theorem q_138_21 : p_tb 138 21 = some (.new 173, 3) := by decide +kernel
theorem q_138_24 : p_tb 138 24 = some (.dup, 1) := by decide +kernel
theorem q_138_25 : p_tb 138 25 = some (.invokespecial 175, 3) := by decide +kernel
theorem q_138_28 : p_tb 138 28 = some (.athrow, 1) := by decide +kernel
theorem q_139_0 : p_tb 139 0 = some (.aload_n 0, 1) := by decide +kernel
theorem q_139_1 : p_tb 139 1 = some (.iload_n 1, 1) := by decide +kernel
theorem q_139_2 : p_tb 139 2 = some (.iload_n 2, 1) := by decide +kernel
theorem q_139_3 : p_tb 139 3 = some (.iload_n 3, 1) := by decide +kernel
theorem q_139_4 : p_tb 139 4 = some (.invokevirtual 348, 3) := by decide +kernel
theorem q_139_7 : p_tb 139 7 = some (.ifCond .eq 27, 3) := by decide +kernel
theorem q_139_34 : p_tb 139 34 = some (.new 173, 3) := by decide +kernel
theorem q_139_37 : p_tb 139 37 = some (.dup, 1) := by decide +kernel
theorem q_139_38 : p_tb 139 38 = some (.invokespecial 175, 3) := by decide +kernel
theorem q_139_41 : p_tb 139 41 = some (.athrow, 1) := by decide +kernel
theorem q_140_0 : p_tb 140 0 = some (.aload_n 0, 1) := by decide +kernel
theorem q_140_1 : p_tb 140 1 = some (.iload_n 1, 1) := by decide +kernel
theorem q_140_2 : p_tb 140 2 = some (.iload_n 2, 1) := by decide +kernel
theorem q_140_3 : p_tb 140 3 = some (.iload_n 3, 1) := by decide +kernel
theorem q_140_4 : p_tb 140 4 = some (.invokevirtual 348, 3) := by decide +kernel
theorem q_140_7 : p_tb 140 7 = some (.ifCond .ne 11, 3) := by decide +kernel
theorem q_140_10 : p_tb 140 10 = some (.new 173, 3) := by decide +kernel
theorem q_140_13 : p_tb 140 13 = some (.dup, 1) := by decide +kernel
theorem q_140_14 : p_tb 140 14 = some (.invokespecial 175, 3) := by decide +kernel
theorem q_140_17 : p_tb 140 17 = some (.athrow, 1) := by decide +kernel
theorem q_159_0 : p_tb 159 0 = some (.aload_n 0, 1) := by decide +kernel
theorem q_159_1 : p_tb 159 1 = some (.iload_n 1, 1) := by decide +kernel
theorem q_159_2 : p_tb 159 2 = some (.invokevirtual 169, 3) := by decide +kernel
theorem q_159_5 : p_tb 159 5 = some (.ifCond .eq 22, 3) := by decide +kernel
theorem q_159_27 : p_tb 159 27 = some (.iconst 0, 1) := by decide +kernel
theorem q_159_28 : p_tb 159 28 = some (.ireturn, 1) := by decide +kernel
theorem q_161_0 : p_tb 161 0 = some (.aload_n 0, 1) := by decide +kernel
theorem q_161_1 : p_tb 161 1 = some (.getfield 1, 3) := by decide +kernel
theorem q_161_4 : p_tb 161 4 = some (.ireturn, 1) := by decide +kernel
theorem q_162_0 : p_tb 162 0 = some (.aload_n 0, 1) := by decide +kernel
theorem q_162_1 : p_tb 162 1 = some (.iload_n 1, 1) := by decide +kernel
theorem q_162_2 : p_tb 162 2 = some (.ifCond .eq 7, 3) := by decide +kernel
theorem q_162_5 : p_tb 162 5 = some (.iconst 1, 1) := by decide +kernel
theorem q_162_6 : p_tb 162 6 = some (.goto 4, 3) := by decide +kernel
theorem q_162_10 : p_tb 162 10 = some (.putfield 1, 3) := by decide +kernel
theorem q_162_13 : p_tb 162 13 = some (.iload_n 1, 1) := by decide +kernel
theorem q_162_14 : p_tb 162 14 = some (.ireturn, 1) := by decide +kernel
theorem q_200_0 : p_tb 200 0 = some (.aload_n 0, 1) := by decide +kernel
theorem q_200_1 : p_tb 200 1 = some (.aload_n 0, 1) := by decide +kernel
theorem q_200_2 : p_tb 200 2 = some (.iload_n 1, 1) := by decide +kernel
theorem q_200_3 : p_tb 200 3 = some (.invokevirtual 241, 3) := by decide +kernel
theorem q_200_6 : p_tb 200 6 = some (.ifCond .eq 13, 3) := by decide +kernel
theorem q_200_19 : p_tb 200 19 = some (.iconst 1, 1) := by decide +kernel
theorem q_200_20 : p_tb 200 20 = some (.goto 4, 3) := by decide +kernel
theorem q_200_24 : p_tb 200 24 = some (.invokevirtual 247, 3) := by decide +kernel
theorem q_200_27 : p_tb 200 27 = some (.ifCond .eq 5, 3) := by decide +kernel
theorem q_200_30 : p_tb 200 30 = some (.iconst 0, 1) := by decide +kernel
theorem q_200_31 : p_tb 200 31 = some (.ireturn, 1) := by decide +kernel
theorem q_201_0 : p_tb 201 0 = some (.aload_n 0, 1) := by decide +kernel
theorem q_201_1 : p_tb 201 1 = some (.aload_n 0, 1) := by decide +kernel
theorem q_201_2 : p_tb 201 2 = some (.iload_n 1, 1) := by decide +kernel
theorem q_201_3 : p_tb 201 3 = some (.invokevirtual 251, 3) := by decide +kernel
theorem q_201_6 : p_tb 201 6 = some (.ifCond .eq 13, 3) := by decide +kernel
theorem q_201_19 : p_tb 201 19 = some (.iconst 1, 1) := by decide +kernel
theorem q_201_20 : p_tb 201 20 = some (.goto 4, 3) := by decide +kernel
theorem q_201_24 : p_tb 201 24 = some (.invokevirtual 247, 3) := by decide +kernel
theorem q_201_27 : p_tb 201 27 = some (.ifCond .eq 5, 3) := by decide +kernel
theorem q_201_30 : p_tb 201 30 = some (.iconst 0, 1) := by decide +kernel
theorem q_201_31 : p_tb 201 31 = some (.ireturn, 1) := by decide +kernel
theorem q_232_0 : p_tb 232 0 = some (.aload_n 0, 1) := by decide +kernel
theorem q_232_1 : p_tb 232 1 = some (.iload_n 1, 1) := by decide +kernel
theorem q_232_2 : p_tb 232 2 = some (.iload_n 2, 1) := by decide +kernel
theorem q_232_3 : p_tb 232 3 = some (.invokevirtual 305, 3) := by decide +kernel
theorem q_232_6 : p_tb 232 6 = some (.ifCond .eq 74, 3) := by decide +kernel
theorem q_232_80 : p_tb 232 80 = some (.iconst 0, 1) := by decide +kernel
theorem q_232_81 : p_tb 232 81 = some (.ireturn, 1) := by decide +kernel
theorem q_235_0 : p_tb 235 0 = some (.aload_n 0, 1) := by decide +kernel
theorem q_235_1 : p_tb 235 1 = some (.aload_n 0, 1) := by decide +kernel
theorem q_235_2 : p_tb 235 2 = some (.iload_n 1, 1) := by decide +kernel
theorem q_235_3 : p_tb 235 3 = some (.iload_n 2, 1) := by decide +kernel
theorem q_235_4 : p_tb 235 4 = some (.iload_n 3, 1) := by decide +kernel
theorem q_235_5 : p_tb 235 5 = some (.invokevirtual 314, 3) := by decide +kernel
theorem q_235_8 : p_tb 235 8 = some (.ifCond .eq 13, 3) := by decide +kernel
theorem q_235_21 : p_tb 235 21 = some (.iconst 1, 1) := by decide +kernel
theorem q_235_22 : p_tb 235 22 = some (.goto 4, 3) := by decide +kernel
theorem q_235_26 : p_tb 235 26 = some (.invokevirtual 247, 3) := by decide +kernel
theorem q_235_29 : p_tb 235 29 = some (.ifCond .eq 5, 3) := by decide +kernel
theorem q_235_32 : p_tb 235 32 = some (.iconst 0, 1) := by decide +kernel
theorem q_235_33 : p_tb 235 33 = some (.ireturn, 1) := by decide +kernel
theorem q_236_0 : p_tb 236 0 = some (.aload_n 0, 1) := by decide +kernel
theorem q_236_1 : p_tb 236 1 = some (.aload_n 0, 1) := by decide +kernel
theorem q_236_2 : p_tb 236 2 = some (.iload_n 1, 1) := by decide +kernel
theorem q_236_3 : p_tb 236 3 = some (.iload_n 2, 1) := by decide +kernel
theorem q_236_4 : p_tb 236 4 = some (.iload_n 3, 1) := by decide +kernel
theorem q_236_5 : p_tb 236 5 = some (.invokevirtual 314, 3) := by decide +kernel
theorem q_236_8 : p_tb 236 8 = some (.ifCond .eq 24, 3) := by decide +kernel
theorem q_236_32 : p_tb 236 32 = some (.iconst 1, 1) := by decide +kernel
theorem q_236_33 : p_tb 236 33 = some (.goto 4, 3) := by decide +kernel
theorem q_236_37 : p_tb 236 37 = some (.invokevirtual 247, 3) := by decide +kernel
theorem q_236_40 : p_tb 236 40 = some (.ifCond .eq 5, 3) := by decide +kernel
theorem q_236_43 : p_tb 236 43 = some (.lconst 0, 1) := by decide +kernel
theorem q_236_44 : p_tb 236 44 = some (.lreturn, 1) := by decide +kernel
theorem q_237_0 : p_tb 237 0 = some (.aload_n 0, 1) := by decide +kernel
theorem q_237_1 : p_tb 237 1 = some (.aload_n 0, 1) := by decide +kernel
theorem q_237_2 : p_tb 237 2 = some (.iload_n 1, 1) := by decide +kernel
theorem q_237_3 : p_tb 237 3 = some (.iload_n 2, 1) := by decide +kernel
theorem q_237_4 : p_tb 237 4 = some (.iload_n 3, 1) := by decide +kernel
theorem q_237_5 : p_tb 237 5 = some (.invokevirtual 314, 3) := by decide +kernel
theorem q_237_8 : p_tb 237 8 = some (.ifCond .ne 7, 3) := by decide +kernel
theorem q_237_11 : p_tb 237 11 = some (.iconst 1, 1) := by decide +kernel
theorem q_237_12 : p_tb 237 12 = some (.goto 4, 3) := by decide +kernel
theorem q_237_16 : p_tb 237 16 = some (.invokevirtual 247, 3) := by decide +kernel
theorem q_237_19 : p_tb 237 19 = some (.ifCond .eq 5, 3) := by decide +kernel
theorem q_237_22 : p_tb 237 22 = some (.iconst 0, 1) := by decide +kernel
theorem q_237_23 : p_tb 237 23 = some (.ireturn, 1) := by decide +kernel
theorem q_280_0 : p_tb 280 0 = some (.aload_n 3, 1) := by decide +kernel
theorem q_280_1 : p_tb 280 1 = some (.iconst 0, 1) := by decide +kernel
theorem q_280_2 : p_tb 280 2 = some (.aload_n 0, 1) := by decide +kernel
theorem q_280_3 : p_tb 280 3 = some (.iload_n 1, 1) := by decide +kernel
theorem q_280_4 : p_tb 280 4 = some (.iload_n 2, 1) := by decide +kernel
theorem q_280_5 : p_tb 280 5 = some (.invokevirtual 7, 3) := by decide +kernel
theorem q_280_13 : p_tb 280 13 = some (.astore 4, 2) := by decide +kernel
theorem q_280_15 : p_tb 280 15 = some (.iconst 1, 1) := by decide +kernel
theorem q_280_16 : p_tb 280 16 = some (.ireturn, 1) := by decide +kernel
theorem q_281_0 : p_tb 281 0 = some (.aload_n 3, 1) := by decide +kernel
theorem q_281_1 : p_tb 281 1 = some (.iconst 0, 1) := by decide +kernel
theorem q_281_2 : p_tb 281 2 = some (.aload_n 0, 1) := by decide +kernel
theorem q_281_3 : p_tb 281 3 = some (.iload_n 1, 1) := by decide +kernel
theorem q_281_4 : p_tb 281 4 = some (.iload_n 2, 1) := by decide +kernel
theorem q_281_5 : p_tb 281 5 = some (.invokevirtual 15, 3) := by decide +kernel
theorem q_281_13 : p_tb 281 13 = some (.astore 4, 2) := by decide +kernel
theorem q_281_15 : p_tb 281 15 = some (.iconst 1, 1) := by decide +kernel
theorem q_281_16 : p_tb 281 16 = some (.ireturn, 1) := by decide +kernel
theorem q_282_0 : p_tb 282 0 = some (.aload 5, 2) := by decide +kernel
theorem q_282_2 : p_tb 282 2 = some (.iconst 0, 1) := by decide +kernel
theorem q_282_3 : p_tb 282 3 = some (.aload_n 0, 1) := by decide +kernel
theorem q_282_4 : p_tb 282 4 = some (.iload_n 1, 1) := by decide +kernel
theorem q_282_5 : p_tb 282 5 = some (.iload_n 2, 1) := by decide +kernel
theorem q_282_6 : p_tb 282 6 = some (.iload_n 3, 1) := by decide +kernel
theorem q_282_7 : p_tb 282 7 = some (.iload 4, 2) := by decide +kernel
theorem q_282_9 : p_tb 282 9 = some (.invokevirtual 18, 3) := by decide +kernel
theorem q_282_17 : p_tb 282 17 = some (.astore 6, 2) := by decide +kernel
theorem q_282_19 : p_tb 282 19 = some (.iconst 1, 1) := by decide +kernel
theorem q_282_20 : p_tb 282 20 = some (.ireturn, 1) := by decide +kernel
theorem q_283_0 : p_tb 283 0 = some (.aload 6, 2) := by decide +kernel
theorem q_283_2 : p_tb 283 2 = some (.iconst 0, 1) := by decide +kernel
theorem q_283_3 : p_tb 283 3 = some (.aload_n 0, 1) := by decide +kernel
theorem q_283_4 : p_tb 283 4 = some (.iload_n 1, 1) := by decide +kernel
theorem q_283_5 : p_tb 283 5 = some (.iload_n 2, 1) := by decide +kernel
theorem q_283_6 : p_tb 283 6 = some (.iload_n 3, 1) := by decide +kernel
theorem q_283_7 : p_tb 283 7 = some (.iload 4, 2) := by decide +kernel
theorem q_283_9 : p_tb 283 9 = some (.iload 5, 2) := by decide +kernel
theorem q_283_11 : p_tb 283 11 = some (.invokevirtual 22, 3) := by decide +kernel
theorem q_283_18 : p_tb 283 18 = some (.astore 7, 2) := by decide +kernel
theorem q_283_20 : p_tb 283 20 = some (.iconst 1, 1) := by decide +kernel
theorem q_283_21 : p_tb 283 21 = some (.ireturn, 1) := by decide +kernel
theorem q_284_0 : p_tb 284 0 = some (.aload 4, 2) := by decide +kernel
theorem q_284_2 : p_tb 284 2 = some (.iconst 0, 1) := by decide +kernel
theorem q_284_3 : p_tb 284 3 = some (.aload_n 0, 1) := by decide +kernel
theorem q_284_4 : p_tb 284 4 = some (.iload_n 1, 1) := by decide +kernel
theorem q_284_5 : p_tb 284 5 = some (.iload_n 2, 1) := by decide +kernel
theorem q_284_6 : p_tb 284 6 = some (.iload_n 3, 1) := by decide +kernel
theorem q_284_7 : p_tb 284 7 = some (.invokevirtual 26, 3) := by decide +kernel
theorem q_284_15 : p_tb 284 15 = some (.astore 5, 2) := by decide +kernel
theorem q_284_17 : p_tb 284 17 = some (.iconst 1, 1) := by decide +kernel
theorem q_284_18 : p_tb 284 18 = some (.ireturn, 1) := by decide +kernel
theorem q_285_352 : p_tb 285 352 = some (.aload_n 1, 1) := by decide +kernel
theorem q_285_353 : p_tb 285 353 = some (.aload_n 0, 1) := by decide +kernel
theorem q_285_354 : p_tb 285 354 = some (.iload 4, 2) := by decide +kernel
theorem q_285_356 : p_tb 285 356 = some (.iconst 1, 1) := by decide +kernel
theorem q_285_357 : p_tb 285 357 = some (.iadd, 1) := by decide +kernel
theorem q_285_358 : p_tb 285 358 = some (.iaload, 1) := by decide +kernel
theorem q_285_359 : p_tb 285 359 = some (.aload_n 0, 1) := by decide +kernel
theorem q_285_360 : p_tb 285 360 = some (.iload 4, 2) := by decide +kernel
theorem q_285_362 : p_tb 285 362 = some (.iconst 2, 1) := by decide +kernel
theorem q_285_363 : p_tb 285 363 = some (.iadd, 1) := by decide +kernel
theorem q_285_364 : p_tb 285 364 = some (.iaload, 1) := by decide +kernel
theorem q_285_365 : p_tb 285 365 = some (.aload_n 3, 1) := by decide +kernel
theorem q_285_366 : p_tb 285 366 = some (.invokestatic 53, 3) := by decide +kernel
theorem q_285_369 : p_tb 285 369 = some (.istore 5, 2) := by decide +kernel
theorem q_285_371 : p_tb 285 371 = some (.aload_n 2, 1) := by decide +kernel
theorem q_285_372 : p_tb 285 372 = some (.aload_n 0, 1) := by decide +kernel
theorem q_285_373 : p_tb 285 373 = some (.iload 4, 2) := by decide +kernel
theorem q_285_375 : p_tb 285 375 = some (.iconst 1, 1) := by decide +kernel
theorem q_285_376 : p_tb 285 376 = some (.iadd, 1) := by decide +kernel
theorem q_285_377 : p_tb 285 377 = some (.iaload, 1) := by decide +kernel
theorem q_285_378 : p_tb 285 378 = some (.aload_n 0, 1) := by decide +kernel
theorem q_285_379 : p_tb 285 379 = some (.iload 4, 2) := by decide +kernel
theorem q_285_381 : p_tb 285 381 = some (.iconst 2, 1) := by decide +kernel
theorem q_285_382 : p_tb 285 382 = some (.iadd, 1) := by decide +kernel
theorem q_285_383 : p_tb 285 383 = some (.iaload, 1) := by decide +kernel
theorem q_285_384 : p_tb 285 384 = some (.invokevirtual 58, 3) := by decide +kernel
theorem q_285_387 : p_tb 285 387 = some (.istore 6, 2) := by decide +kernel
theorem q_285_389 : p_tb 285 389 = some (.aload_n 2, 1) := by decide +kernel
theorem q_285_390 : p_tb 285 390 = some (.invokevirtual 59, 3) := by decide +kernel
theorem q_285_393 : p_tb 285 393 = some (.iload 5, 2) := by decide +kernel
theorem q_285_395 : p_tb 285 395 = some (.if_icmp .eq 5, 3) := by decide +kernel
theorem q_285_400 : p_tb 285 400 = some (.iload 5, 2) := by decide +kernel
theorem q_285_402 : p_tb 285 402 = some (.ifCond .ne 15, 3) := by decide +kernel
theorem q_285_417 : p_tb 285 417 = some (.goto 1268, 3) := by decide +kernel
theorem q_285_420 : p_tb 285 420 = some (.aload_n 1, 1) := by decide +kernel
theorem q_285_421 : p_tb 285 421 = some (.aload_n 0, 1) := by decide +kernel
theorem q_285_422 : p_tb 285 422 = some (.iload 4, 2) := by decide +kernel
theorem q_285_424 : p_tb 285 424 = some (.iconst 1, 1) := by decide +kernel
theorem q_285_425 : p_tb 285 425 = some (.iadd, 1) := by decide +kernel
theorem q_285_426 : p_tb 285 426 = some (.iaload, 1) := by decide +kernel
theorem q_285_427 : p_tb 285 427 = some (.aload_n 0, 1) := by decide +kernel
theorem q_285_428 : p_tb 285 428 = some (.iload 4, 2) := by decide +kernel
theorem q_285_430 : p_tb 285 430 = some (.iconst 2, 1) := by decide +kernel
theorem q_285_431 : p_tb 285 431 = some (.iadd, 1) := by decide +kernel
theorem q_285_432 : p_tb 285 432 = some (.iaload, 1) := by decide +kernel
theorem q_285_433 : p_tb 285 433 = some (.aload_n 3, 1) := by decide +kernel
theorem q_285_434 : p_tb 285 434 = some (.invokestatic 62, 3) := by decide +kernel
theorem q_285_437 : p_tb 285 437 = some (.istore 5, 2) := by decide +kernel
theorem q_285_439 : p_tb 285 439 = some (.aload_n 2, 1) := by decide +kernel
theorem q_285_440 : p_tb 285 440 = some (.aload_n 0, 1) := by decide +kernel
theorem q_285_441 : p_tb 285 441 = some (.iload 4, 2) := by decide +kernel
theorem q_285_443 : p_tb 285 443 = some (.iconst 1, 1) := by decide +kernel
theorem q_285_444 : p_tb 285 444 = some (.iadd, 1) := by decide +kernel
theorem q_285_445 : p_tb 285 445 = some (.iaload, 1) := by decide +kernel
theorem q_285_446 : p_tb 285 446 = some (.aload_n 0, 1) := by decide +kernel
theorem q_285_447 : p_tb 285 447 = some (.iload 4, 2) := by decide +kernel
theorem q_285_449 : p_tb 285 449 = some (.iconst 2, 1) := by decide +kernel
theorem q_285_450 : p_tb 285 450 = some (.iadd, 1) := by decide +kernel
theorem q_285_451 : p_tb 285 451 = some (.iaload, 1) := by decide +kernel
theorem q_285_452 : p_tb 285 452 = some (.invokevirtual 64, 3) := by decide +kernel
theorem q_285_455 : p_tb 285 455 = some (.istore 6, 2) := by decide +kernel
theorem q_285_457 : p_tb 285 457 = some (.aload_n 2, 1) := by decide +kernel
theorem q_285_458 : p_tb 285 458 = some (.invokevirtual 59, 3) := by decide +kernel
theorem q_285_461 : p_tb 285 461 = some (.iload 5, 2) := by decide +kernel
theorem q_285_463 : p_tb 285 463 = some (.if_icmp .eq 5, 3) := by decide +kernel
theorem q_285_468 : p_tb 285 468 = some (.iload 5, 2) := by decide +kernel
theorem q_285_470 : p_tb 285 470 = some (.ifCond .ne 15, 3) := by decide +kernel
theorem q_285_485 : p_tb 285 485 = some (.goto 1200, 3) := by decide +kernel
theorem q_285_899 : p_tb 285 899 = some (.aload_n 1, 1) := by decide +kernel
theorem q_285_900 : p_tb 285 900 = some (.aload_n 0, 1) := by decide +kernel
theorem q_285_901 : p_tb 285 901 = some (.iload 4, 2) := by decide +kernel
theorem q_285_903 : p_tb 285 903 = some (.iconst 1, 1) := by decide +kernel
theorem q_285_904 : p_tb 285 904 = some (.iadd, 1) := by decide +kernel
theorem q_285_905 : p_tb 285 905 = some (.iaload, 1) := by decide +kernel
theorem q_285_906 : p_tb 285 906 = some (.aload_n 0, 1) := by decide +kernel
theorem q_285_907 : p_tb 285 907 = some (.iload 4, 2) := by decide +kernel
theorem q_285_909 : p_tb 285 909 = some (.iconst 2, 1) := by decide +kernel
theorem q_285_910 : p_tb 285 910 = some (.iadd, 1) := by decide +kernel
theorem q_285_911 : p_tb 285 911 = some (.iaload, 1) := by decide +kernel
theorem q_285_912 : p_tb 285 912 = some (.aload_n 0, 1) := by decide +kernel
theorem q_285_913 : p_tb 285 913 = some (.iload 4, 2) := by decide +kernel
theorem q_285_915 : p_tb 285 915 = some (.iconst 3, 1) := by decide +kernel
theorem q_285_916 : p_tb 285 916 = some (.iadd, 1) := by decide +kernel
theorem q_285_917 : p_tb 285 917 = some (.iaload, 1) := by decide +kernel
theorem q_285_918 : p_tb 285 918 = some (.aload_n 0, 1) := by decide +kernel
theorem q_285_919 : p_tb 285 919 = some (.iload 4, 2) := by decide +kernel
theorem q_285_921 : p_tb 285 921 = some (.iconst 4, 1) := by decide +kernel
theorem q_285_922 : p_tb 285 922 = some (.iadd, 1) := by decide +kernel
theorem q_285_923 : p_tb 285 923 = some (.iaload, 1) := by decide +kernel
theorem q_285_924 : p_tb 285 924 = some (.aload_n 3, 1) := by decide +kernel
theorem q_285_925 : p_tb 285 925 = some (.invokestatic 126, 3) := by decide +kernel
theorem q_285_928 : p_tb 285 928 = some (.istore 5, 2) := by decide +kernel
theorem q_285_930 : p_tb 285 930 = some (.aload_n 2, 1) := by decide +kernel
theorem q_285_931 : p_tb 285 931 = some (.aload_n 0, 1) := by decide +kernel
theorem q_285_932 : p_tb 285 932 = some (.iload 4, 2) := by decide +kernel
theorem q_285_934 : p_tb 285 934 = some (.iconst 1, 1) := by decide +kernel
theorem q_285_935 : p_tb 285 935 = some (.iadd, 1) := by decide +kernel
theorem q_285_936 : p_tb 285 936 = some (.iaload, 1) := by decide +kernel
theorem q_285_937 : p_tb 285 937 = some (.aload_n 0, 1) := by decide +kernel
theorem q_285_938 : p_tb 285 938 = some (.iload 4, 2) := by decide +kernel
theorem q_285_940 : p_tb 285 940 = some (.iconst 2, 1) := by decide +kernel
theorem q_285_941 : p_tb 285 941 = some (.iadd, 1) := by decide +kernel
theorem q_285_942 : p_tb 285 942 = some (.iaload, 1) := by decide +kernel
theorem q_285_943 : p_tb 285 943 = some (.aload_n 0, 1) := by decide +kernel
theorem q_285_944 : p_tb 285 944 = some (.iload 4, 2) := by decide +kernel
theorem q_285_946 : p_tb 285 946 = some (.iconst 3, 1) := by decide +kernel
theorem q_285_947 : p_tb 285 947 = some (.iadd, 1) := by decide +kernel
theorem q_285_948 : p_tb 285 948 = some (.iaload, 1) := by decide +kernel
theorem q_285_949 : p_tb 285 949 = some (.aload_n 0, 1) := by decide +kernel
theorem q_285_950 : p_tb 285 950 = some (.iload 4, 2) := by decide +kernel
theorem q_285_952 : p_tb 285 952 = some (.iconst 4, 1) := by decide +kernel
theorem q_285_953 : p_tb 285 953 = some (.iadd, 1) := by decide +kernel
theorem q_285_954 : p_tb 285 954 = some (.iaload, 1) := by decide +kernel
theorem q_285_955 : p_tb 285 955 = some (.invokevirtual 129, 3) := by decide +kernel
theorem q_285_958 : p_tb 285 958 = some (.istore 6, 2) := by decide +kernel
theorem q_285_960 : p_tb 285 960 = some (.aload_n 2, 1) := by decide +kernel
theorem q_285_961 : p_tb 285 961 = some (.invokevirtual 59, 3) := by decide +kernel
theorem q_285_964 : p_tb 285 964 = some (.iload 5, 2) := by decide +kernel
theorem q_285_966 : p_tb 285 966 = some (.if_icmp .eq 5, 3) := by decide +kernel
theorem q_285_971 : p_tb 285 971 = some (.iload 5, 2) := by decide +kernel
theorem q_285_973 : p_tb 285 973 = some (.ifCond .ne 15, 3) := by decide +kernel
theorem q_285_988 : p_tb 285 988 = some (.goto 697, 3) := by decide +kernel
theorem q_285_991 : p_tb 285 991 = some (.aload_n 1, 1) := by decide +kernel
theorem q_285_992 : p_tb 285 992 = some (.aload_n 0, 1) := by decide +kernel
theorem q_285_993 : p_tb 285 993 = some (.iload 4, 2) := by decide +kernel
theorem q_285_995 : p_tb 285 995 = some (.iconst 1, 1) := by decide +kernel
theorem q_285_996 : p_tb 285 996 = some (.iadd, 1) := by decide +kernel
theorem q_285_997 : p_tb 285 997 = some (.iaload, 1) := by decide +kernel
theorem q_285_998 : p_tb 285 998 = some (.aload_n 0, 1) := by decide +kernel
theorem q_285_999 : p_tb 285 999 = some (.iload 4, 2) := by decide +kernel
theorem q_285_1001 : p_tb 285 1001 = some (.iconst 2, 1) := by decide +kernel
theorem q_285_1002 : p_tb 285 1002 = some (.iadd, 1) := by decide +kernel
theorem q_285_1003 : p_tb 285 1003 = some (.iaload, 1) := by decide +kernel
theorem q_285_1004 : p_tb 285 1004 = some (.aload_n 0, 1) := by decide +kernel
theorem q_285_1005 : p_tb 285 1005 = some (.iload 4, 2) := by decide +kernel
theorem q_285_1007 : p_tb 285 1007 = some (.iconst 3, 1) := by decide +kernel
theorem q_285_1008 : p_tb 285 1008 = some (.iadd, 1) := by decide +kernel
theorem q_285_1009 : p_tb 285 1009 = some (.iaload, 1) := by decide +kernel
theorem q_285_1010 : p_tb 285 1010 = some (.aload_n 0, 1) := by decide +kernel
theorem q_285_1011 : p_tb 285 1011 = some (.iload 4, 2) := by decide +kernel
theorem q_285_1013 : p_tb 285 1013 = some (.iconst 4, 1) := by decide +kernel
theorem q_285_1014 : p_tb 285 1014 = some (.iadd, 1) := by decide +kernel
theorem q_285_1015 : p_tb 285 1015 = some (.iaload, 1) := by decide +kernel
theorem q_285_1016 : p_tb 285 1016 = some (.aload_n 0, 1) := by decide +kernel
theorem q_285_1017 : p_tb 285 1017 = some (.iload 4, 2) := by decide +kernel
theorem q_285_1019 : p_tb 285 1019 = some (.iconst 5, 1) := by decide +kernel
theorem q_285_1020 : p_tb 285 1020 = some (.iadd, 1) := by decide +kernel
theorem q_285_1021 : p_tb 285 1021 = some (.iaload, 1) := by decide +kernel
theorem q_285_1022 : p_tb 285 1022 = some (.aload_n 3, 1) := by decide +kernel
theorem q_285_1023 : p_tb 285 1023 = some (.invokestatic 130, 3) := by decide +kernel
theorem q_285_1026 : p_tb 285 1026 = some (.istore 5, 2) := by decide +kernel
theorem q_285_1028 : p_tb 285 1028 = some (.aload_n 2, 1) := by decide +kernel
theorem q_285_1029 : p_tb 285 1029 = some (.aload_n 0, 1) := by decide +kernel
theorem q_285_1030 : p_tb 285 1030 = some (.iload 4, 2) := by decide +kernel
theorem q_285_1032 : p_tb 285 1032 = some (.iconst 1, 1) := by decide +kernel
theorem q_285_1033 : p_tb 285 1033 = some (.iadd, 1) := by decide +kernel
theorem q_285_1034 : p_tb 285 1034 = some (.iaload, 1) := by decide +kernel
theorem q_285_1035 : p_tb 285 1035 = some (.aload_n 0, 1) := by decide +kernel
theorem q_285_1036 : p_tb 285 1036 = some (.iload 4, 2) := by decide +kernel
theorem q_285_1038 : p_tb 285 1038 = some (.iconst 2, 1) := by decide +kernel
theorem q_285_1039 : p_tb 285 1039 = some (.iadd, 1) := by decide +kernel
theorem q_285_1040 : p_tb 285 1040 = some (.iaload, 1) := by decide +kernel
theorem q_285_1041 : p_tb 285 1041 = some (.aload_n 0, 1) := by decide +kernel
theorem q_285_1042 : p_tb 285 1042 = some (.iload 4, 2) := by decide +kernel
theorem q_285_1044 : p_tb 285 1044 = some (.iconst 3, 1) := by decide +kernel
theorem q_285_1045 : p_tb 285 1045 = some (.iadd, 1) := by decide +kernel
theorem q_285_1046 : p_tb 285 1046 = some (.iaload, 1) := by decide +kernel
theorem q_285_1047 : p_tb 285 1047 = some (.aload_n 0, 1) := by decide +kernel
theorem q_285_1048 : p_tb 285 1048 = some (.iload 4, 2) := by decide +kernel
theorem q_285_1050 : p_tb 285 1050 = some (.iconst 4, 1) := by decide +kernel
theorem q_285_1051 : p_tb 285 1051 = some (.iadd, 1) := by decide +kernel
theorem q_285_1052 : p_tb 285 1052 = some (.iaload, 1) := by decide +kernel
theorem q_285_1053 : p_tb 285 1053 = some (.aload_n 0, 1) := by decide +kernel
theorem q_285_1054 : p_tb 285 1054 = some (.iload 4, 2) := by decide +kernel
theorem q_285_1056 : p_tb 285 1056 = some (.iconst 5, 1) := by decide +kernel
theorem q_285_1057 : p_tb 285 1057 = some (.iadd, 1) := by decide +kernel
theorem q_285_1058 : p_tb 285 1058 = some (.iaload, 1) := by decide +kernel
theorem q_285_1059 : p_tb 285 1059 = some (.invokevirtual 133, 3) := by decide +kernel
theorem q_285_1062 : p_tb 285 1062 = some (.lstore 6, 2) := by decide +kernel
theorem q_285_1064 : p_tb 285 1064 = some (.aload_n 2, 1) := by decide +kernel
theorem q_285_1065 : p_tb 285 1065 = some (.invokevirtual 59, 3) := by decide +kernel
theorem q_285_1068 : p_tb 285 1068 = some (.iload 5, 2) := by decide +kernel
theorem q_285_1070 : p_tb 285 1070 = some (.if_icmp .eq 5, 3) := by decide +kernel
theorem q_285_1075 : p_tb 285 1075 = some (.iload 5, 2) := by decide +kernel
theorem q_285_1077 : p_tb 285 1077 = some (.ifCond .ne 14, 3) := by decide +kernel
theorem q_285_1091 : p_tb 285 1091 = some (.goto 594, 3) := by decide +kernel
theorem q_285_1094 : p_tb 285 1094 = some (.aload_n 1, 1) := by decide +kernel
theorem q_285_1095 : p_tb 285 1095 = some (.aload_n 0, 1) := by decide +kernel
theorem q_285_1096 : p_tb 285 1096 = some (.iload 4, 2) := by decide +kernel
theorem q_285_1098 : p_tb 285 1098 = some (.iconst 1, 1) := by decide +kernel
theorem q_285_1099 : p_tb 285 1099 = some (.iadd, 1) := by decide +kernel
theorem q_285_1100 : p_tb 285 1100 = some (.iaload, 1) := by decide +kernel
theorem q_285_1101 : p_tb 285 1101 = some (.aload_n 0, 1) := by decide +kernel
theorem q_285_1102 : p_tb 285 1102 = some (.iload 4, 2) := by decide +kernel
theorem q_285_1104 : p_tb 285 1104 = some (.iconst 2, 1) := by decide +kernel
theorem q_285_1105 : p_tb 285 1105 = some (.iadd, 1) := by decide +kernel
theorem q_285_1106 : p_tb 285 1106 = some (.iaload, 1) := by decide +kernel
theorem q_285_1107 : p_tb 285 1107 = some (.aload_n 0, 1) := by decide +kernel
theorem q_285_1108 : p_tb 285 1108 = some (.iload 4, 2) := by decide +kernel
theorem q_285_1110 : p_tb 285 1110 = some (.iconst 3, 1) := by decide +kernel
theorem q_285_1111 : p_tb 285 1111 = some (.iadd, 1) := by decide +kernel
theorem q_285_1112 : p_tb 285 1112 = some (.iaload, 1) := by decide +kernel
theorem q_285_1113 : p_tb 285 1113 = some (.aload_n 3, 1) := by decide +kernel
theorem q_285_1114 : p_tb 285 1114 = some (.invokestatic 134, 3) := by decide +kernel
theorem q_285_1117 : p_tb 285 1117 = some (.istore 5, 2) := by decide +kernel
theorem q_285_1119 : p_tb 285 1119 = some (.aload_n 2, 1) := by decide +kernel
theorem q_285_1120 : p_tb 285 1120 = some (.aload_n 0, 1) := by decide +kernel
theorem q_285_1121 : p_tb 285 1121 = some (.iload 4, 2) := by decide +kernel
theorem q_285_1123 : p_tb 285 1123 = some (.iconst 1, 1) := by decide +kernel
theorem q_285_1124 : p_tb 285 1124 = some (.iadd, 1) := by decide +kernel
theorem q_285_1125 : p_tb 285 1125 = some (.iaload, 1) := by decide +kernel
theorem q_285_1126 : p_tb 285 1126 = some (.aload_n 0, 1) := by decide +kernel
theorem q_285_1127 : p_tb 285 1127 = some (.iload 4, 2) := by decide +kernel
theorem q_285_1129 : p_tb 285 1129 = some (.iconst 2, 1) := by decide +kernel
theorem q_285_1130 : p_tb 285 1130 = some (.iadd, 1) := by decide +kernel
theorem q_285_1131 : p_tb 285 1131 = some (.iaload, 1) := by decide +kernel
theorem q_285_1132 : p_tb 285 1132 = some (.aload_n 0, 1) := by decide +kernel
theorem q_285_1133 : p_tb 285 1133 = some (.iload 4, 2) := by decide +kernel
theorem q_285_1135 : p_tb 285 1135 = some (.iconst 3, 1) := by decide +kernel
theorem q_285_1136 : p_tb 285 1136 = some (.iadd, 1) := by decide +kernel
theorem q_285_1137 : p_tb 285 1137 = some (.iaload, 1) := by decide +kernel
theorem q_285_1138 : p_tb 285 1138 = some (.invokevirtual 137, 3) := by decide +kernel
theorem q_285_1141 : p_tb 285 1141 = some (.istore 6, 2) := by decide +kernel
theorem q_285_1143 : p_tb 285 1143 = some (.aload_n 2, 1) := by decide +kernel
theorem q_285_1144 : p_tb 285 1144 = some (.invokevirtual 59, 3) := by decide +kernel
theorem q_285_1147 : p_tb 285 1147 = some (.iload 5, 2) := by decide +kernel
theorem q_285_1149 : p_tb 285 1149 = some (.if_icmp .eq 5, 3) := by decide +kernel
theorem q_285_1154 : p_tb 285 1154 = some (.iload 5, 2) := by decide +kernel
theorem q_285_1156 : p_tb 285 1156 = some (.ifCond .ne 15, 3) := by decide +kernel
theorem q_285_1171 : p_tb 285 1171 = some (.goto 514, 3) := by decide +kernel
theorem wc_ini : Cond.initialized (p_mY 280).cls ∈ p_GW := p_gi (List.mem_of_getElem? (i := 105) (by decide +kernel)) rfl
set_option maxRecDepth 100000 in
set_option maxHeartbeats 40000000 in
theorem thr_walker (G : pG) (a1 a2 : Int32) : PW G false 20 108 1 6 (fun _ _ _ => False, fun pc' lv' st' N' M' ce' sl' => pc' = 18 ∧ st' = [] ∧ N' = 311 ∧ M' = f_M ∧ ce' = 0 ∧ sl' = 0) 0 (lv_args 0 [.ref 0, .int a1, .int a2]) [] 311 f_M 0 0 := by
  refine PW.aload_n q_108_0 rfl ?_
  refine PW.iload_n q_108_1 rfl ?_
  refine PW.callV (as := [_]) (rest := []) q_108_2 rfl (by decide) rfl (by decide) rfl rfl (Nat.le_of_ble_eq_true rfl) (Nat.le_of_ble_eq_true rfl) (by decide) (by decide) ?_
  refine PW.iload_n q_143_0 rfl ?_
  refine PW.if_lt q_143_1 rfl (fun h0 => ?_) (fun h0 => ?_)
  · skip
    have h0 : a1.toInt < 0 := s_ltI h0
    refine PW.iconst q_143_22 ?_
    refine PW.zret q_143_23 rfl (by decide) (by decide) (by decide) ?_
    refine PW.if_eq q_108_5 rfl (fun _ => ?_) (fun q => absurd (by decide) q)
    exact PW.exit ⟨rfl, rfl, rfl, rfl, rfl, rfl⟩
  · skip
    have h0 : a1.toInt ≥ 0 := s_nltI h0
    refine PW.iload_n q_143_4 rfl ?_
    refine PW.aload_n q_143_5 rfl ?_
    refine PW.getf q_143_6 rfl (by decide) rfl rfl ?_
    refine PW.getN q_143_9 rfl (by decide) rfl rfl ?_
    refine PW.getN q_143_12 rfl (by decide) rfl rfl ?_
    refine PW.icmp_ge q_143_15 rfl (fun h1 => ?_) (fun h1 => ?_)
    · skip
      have h1 : a1.toInt ≥ 0 := s_geI h1
      refine PW.iconst q_143_22 ?_
      refine PW.zret q_143_23 rfl (by decide) (by decide) (by decide) ?_
      refine PW.if_eq q_108_5 rfl (fun _ => ?_) (fun q => absurd (by decide) q)
      exact PW.exit ⟨rfl, rfl, rfl, rfl, rfl, rfl⟩
    · skip
      have h1 : a1.toInt < 0 := s_ngeI h1
      exact absurd trivial (by omega)
set_option maxRecDepth 100000 in
set_option maxHeartbeats 40000000 in
theorem cat_walker (G : pG) (a1 a2 : Int32) : PW G false 21 280 1 6 (fun _ _ _ => False, fun pc' lv' st' N' M' ce' sl' => pc' = 5 ∧ st' = ([.int a1, .int a2] : List Value).reverse ++ .ref 0 :: [.int (Int32.ofInt 0), .ref 310] ∧ N' = 311 ∧ M' = f_M ∧ ce' = 0 ∧ sl' = 0) 0 (lv_args 0 [.ref 0, .int a1, .int a2, .ref 310]) [] 311 f_M 0 0 := by
  refine PW.aload_n q_280_0 rfl ?_
  refine PW.iconst q_280_1 ?_
  refine PW.aload_n q_280_2 rfl ?_
  refine PW.iload_n q_280_3 rfl ?_
  refine PW.iload_n q_280_4 rfl ?_
  exact PW.exit ⟨rfl, rfl, rfl, rfl, rfl, rfl⟩
theorem wc_walker : Cond.codeWith (p_mY 280) (p_mC 280) (p_mL 280) (p_mR 280) [(0, 10, 13, 13)] ∈ p_GW := p_gi (List.mem_of_getElem? (i := 1256) (by decide +kernel)) rfl
set_option maxRecDepth 100000 in
set_option maxHeartbeats 40000000 in
theorem met_walker (G : pG) (a1 a2 : Int32) (l : Launch) (hl0 : l.stackTraces = false) : vx_Met l (p_mY 280) (xc_WS 280 [(0, 10, 13, 13)]) (xc_rm 21) (xc_Pc G [.ref 0, .int a1, .int a2, .ref 310] 311 f_M) (p_Qc G false (xc_K 311 f_M)) (fun _ _ _ => False) 1 6 (p_A G) :=
  xc_catcher (d := 20) (kx := 108) (as2 := [.int a1, .int a2]) (rest := [.int (Int32.ofInt 0), .ref 310]) (pI := 5) (nS := 4) (by decide +kernel) (by decide +kernel) (by decide +kernel) wc_walker (by decide +kernel) (Nat.le_of_ble_eq_true rfl)
    (fun l hl0 => xc_thrower (pn := 18) (by decide) (by decide +kernel) (by decide +kernel) (Nat.le_of_ble_eq_true rfl) (p_tb_ok q_108_18) (p_tb_ok q_108_21) (p_tb_ok q_108_22) (p_tb_ok q_108_25) (thr_walker G a1 a2) l hl0)
    q_280_5 rfl (by decide) rfl (by decide) rfl rfl (Nat.le_of_ble_eq_true rfl) (by decide) q_280_13 (by decide) q_280_15 q_280_16 (cat_walker G a1 a2) l hl0
set_option maxRecDepth 100000 in
set_option maxHeartbeats 40000000 in
theorem law_walker (G : pG) (hL : G.2.2.2.2.1 = 6) (a1 a2 a3 a4 a5 : Int32) (e1 : G.2.2.2.2.2 1 = a1) (e2 : G.2.2.2.2.2 2 = a2) (e3 : G.2.2.2.2.2 3 = a3) (e4 : G.2.2.2.2.2 4 = a4) (e5 : G.2.2.2.2.2 5 = a5) : PX G false 22 285 400 9000 law_K 352 law_lv [] 311 f_M 311 8628 := by
  refine PX.run ?_
  refine PW.aload_n q_285_352 rfl ?_
  refine PW.aload_n q_285_353 rfl ?_
  refine PW.iload q_285_354 rfl ?_
  refine PW.iconst q_285_356 ?_
  refine PW.iadd q_285_357 ?_
  refine PW.sldE q_285_358 (by rw [hL]; unfold vp_in; decide) e1 ?_
  refine PW.aload_n q_285_359 rfl ?_
  refine PW.iload q_285_360 rfl ?_
  refine PW.iconst q_285_362 ?_
  refine PW.iadd q_285_363 ?_
  refine PW.sldE q_285_364 (by rw [hL]; unfold vp_in; decide) e2 ?_
  refine PW.aload_n q_285_365 rfl ?_
  refine PW.exit ?_
  refine PX.callX (as := [.ref 0, .int a1, .int a2, .ref 310]) (rest := []) q_285_366 rfl wc_walker wc_ini ⟨by decide +kernel, by decide +kernel⟩ (show (parseMethodDescriptor (p_mY 280).desc).map (fun d => d.parameters.length) = some 4 from by decide +kernel) (by decide +kernel) (Nat.le_of_ble_eq_true rfl) (by decide) (by decide) (met_walker G a1 a2) ?_
  refine PX.of ?_
  refine PW.istore q_285_369 (by decide) ?_
  refine PW.aload_n q_285_371 rfl ?_
  refine PW.aload_n q_285_372 rfl ?_
  refine PW.iload q_285_373 rfl ?_
  refine PW.iconst q_285_375 ?_
  refine PW.iadd q_285_376 ?_
  refine PW.sldE q_285_377 (by rw [hL]; unfold vp_in; decide) e1 ?_
  refine PW.aload_n q_285_378 rfl ?_
  refine PW.iload q_285_379 rfl ?_
  refine PW.iconst q_285_381 ?_
  refine PW.iadd q_285_382 ?_
  refine PW.sldE q_285_383 (by rw [hL]; unfold vp_in; decide) e2 ?_
  refine PW.callV (as := [_, _]) (rest := []) q_285_384 rfl (by decide) rfl (by decide) rfl rfl (Nat.le_of_ble_eq_true rfl) (Nat.le_of_ble_eq_true rfl) (by decide) (by decide) ?_
  refine PW.aload_n q_200_0 rfl ?_
  refine PW.aload_n q_200_1 rfl ?_
  refine PW.iload_n q_200_2 rfl ?_
  refine PW.callV (as := [_]) (rest := [_]) q_200_3 rfl (by decide) rfl (by decide) rfl rfl (Nat.le_of_ble_eq_true rfl) (Nat.le_of_ble_eq_true rfl) (by decide) (by decide) ?_
  refine PW.iload_n q_196_0 rfl ?_
  refine PW.iconst q_196_1 ?_
  refine PW.aload_n q_196_2 rfl ?_
  refine PW.getf q_196_3 rfl (by decide) rfl rfl ?_
  refine PW.iconst q_196_6 ?_
  refine PW.iald q_196_7 (by decide) rfl (by unfold vp_in; decide) ?_
  refine PW.iconst q_196_8 ?_
  refine PW.isub q_196_9 ?_
  refine PW.callS (as := [_, _, _]) (rest := []) q_196_10 rfl (by decide) rfl (Nat.le_of_ble_eq_true rfl) (Nat.le_of_ble_eq_true rfl) (by decide) (by decide) ?_
  refine PW.iload_n q_167_0 rfl ?_
  refine PW.iload_n q_167_1 rfl ?_
  refine PW.icmp_lt q_167_2 rfl (fun h0 => ?_) (fun h0 => ?_)
  · skip
    have h0 : a1.toInt < 0 := s_ltI h0
    refine PW.iconst q_167_14 ?_
    refine PW.zret q_167_15 rfl (by decide) (by decide) (by decide) ?_
    refine PW.zret q_196_13 rfl (by decide) (by decide) (by decide) ?_
    refine PW.if_eq q_200_6 rfl (fun _ => ?_) (fun q => absurd (by decide) q)
    refine PW.iconst q_200_19 ?_
    refine PW.goto q_200_20 rfl ?_
    refine PW.callV (as := [_]) (rest := []) q_200_24 rfl (by decide) rfl (by decide) rfl rfl (Nat.le_of_ble_eq_true rfl) (Nat.le_of_ble_eq_true rfl) (by decide) (by decide) ?_
    refine PW.aload_n q_162_0 rfl ?_
    refine PW.iload_n q_162_1 rfl ?_
    refine PW.if_eq q_162_2 rfl (fun q => absurd q (by decide)) (fun _ => ?_)
    refine PW.iconst q_162_5 ?_
    refine PW.goto q_162_6 rfl ?_
    refine PW.putf q_162_10 rfl (by decide) rfl rfl rfl (by decide) ?_
    refine PW.iload_n q_162_13 rfl ?_
    refine PW.zret q_162_14 rfl (by decide) (by decide) (by decide) ?_
    refine PW.if_eq q_200_27 rfl (fun q => absurd q (by decide)) (fun _ => ?_)
    refine PW.iconst q_200_30 ?_
    refine PW.iret q_200_31 rfl (by decide) (by decide) ?_
    refine PW.istore q_285_387 (by decide) ?_
    refine PW.aload_n q_285_389 rfl ?_
    refine PW.callV (as := []) (rest := []) q_285_390 rfl (by decide) rfl (by decide) rfl rfl (Nat.le_of_ble_eq_true rfl) (Nat.le_of_ble_eq_true rfl) (by decide) (by decide) ?_
    refine PW.aload_n q_161_0 rfl ?_
    refine PW.getf q_161_1 rfl (by decide) rfl rfl ?_
    refine PW.iret q_161_4 rfl (by decide) (by decide) ?_
    refine PW.iload q_285_393 rfl ?_
    refine PW.icmp_eq q_285_395 rfl (fun _ => ?_) (fun q => absurd (by decide) q)
    refine PW.iload q_285_400 rfl ?_
    refine PW.if_ne q_285_402 rfl (fun _ => ?_) (fun q => absurd q (by decide))
    refine PW.goto q_285_417 rfl ?_
    refine PW.iinc q_285_1685 rfl (by decide) ?_
    refine PW.goto q_285_1688 rfl ?_
    refine PW.iload q_285_23 rfl ?_
    refine PW.aload_n q_285_25 rfl ?_
    refine PW.slen q_285_26 ?_
    refine PW.bipush q_285_27 ?_
    refine PW.isub q_285_29 ?_
    refine PW.topi (y := 0) (by rw [hL]; decide) ?_
    refine PW.icmp_gt q_285_30 rfl (fun _ => ?_) (fun q => absurd (by decide) q)
    refine PW.iconst q_285_1691 ?_
    exact PW.zret q_285_1692 rfl (by decide) (by decide) (by decide) rfl
  · skip
    have h0 : a1.toInt ≥ 0 := s_nltI h0
    refine PW.iload_n q_167_5 rfl ?_
    refine PW.iload_n q_167_6 rfl ?_
    refine PW.icmp_gt q_167_7 rfl (fun h1 => ?_) (fun h1 => ?_)
    · skip
      have h1 : a1.toInt > (-1) := s_gtI h1
      refine PW.iconst q_167_14 ?_
      refine PW.zret q_167_15 rfl (by decide) (by decide) (by decide) ?_
      refine PW.zret q_196_13 rfl (by decide) (by decide) (by decide) ?_
      refine PW.if_eq q_200_6 rfl (fun _ => ?_) (fun q => absurd (by decide) q)
      refine PW.iconst q_200_19 ?_
      refine PW.goto q_200_20 rfl ?_
      refine PW.callV (as := [_]) (rest := []) q_200_24 rfl (by decide) rfl (by decide) rfl rfl (Nat.le_of_ble_eq_true rfl) (Nat.le_of_ble_eq_true rfl) (by decide) (by decide) ?_
      refine PW.aload_n q_162_0 rfl ?_
      refine PW.iload_n q_162_1 rfl ?_
      refine PW.if_eq q_162_2 rfl (fun q => absurd q (by decide)) (fun _ => ?_)
      refine PW.iconst q_162_5 ?_
      refine PW.goto q_162_6 rfl ?_
      refine PW.putf q_162_10 rfl (by decide) rfl rfl rfl (by decide) ?_
      refine PW.iload_n q_162_13 rfl ?_
      refine PW.zret q_162_14 rfl (by decide) (by decide) (by decide) ?_
      refine PW.if_eq q_200_27 rfl (fun q => absurd q (by decide)) (fun _ => ?_)
      refine PW.iconst q_200_30 ?_
      refine PW.iret q_200_31 rfl (by decide) (by decide) ?_
      refine PW.istore q_285_387 (by decide) ?_
      refine PW.aload_n q_285_389 rfl ?_
      refine PW.callV (as := []) (rest := []) q_285_390 rfl (by decide) rfl (by decide) rfl rfl (Nat.le_of_ble_eq_true rfl) (Nat.le_of_ble_eq_true rfl) (by decide) (by decide) ?_
      refine PW.aload_n q_161_0 rfl ?_
      refine PW.getf q_161_1 rfl (by decide) rfl rfl ?_
      refine PW.iret q_161_4 rfl (by decide) (by decide) ?_
      refine PW.iload q_285_393 rfl ?_
      refine PW.icmp_eq q_285_395 rfl (fun _ => ?_) (fun q => absurd (by decide) q)
      refine PW.iload q_285_400 rfl ?_
      refine PW.if_ne q_285_402 rfl (fun _ => ?_) (fun q => absurd q (by decide))
      refine PW.goto q_285_417 rfl ?_
      refine PW.iinc q_285_1685 rfl (by decide) ?_
      refine PW.goto q_285_1688 rfl ?_
      refine PW.iload q_285_23 rfl ?_
      refine PW.aload_n q_285_25 rfl ?_
      refine PW.slen q_285_26 ?_
      refine PW.bipush q_285_27 ?_
      refine PW.isub q_285_29 ?_
      refine PW.topi (y := 0) (by rw [hL]; decide) ?_
      refine PW.icmp_gt q_285_30 rfl (fun _ => ?_) (fun q => absurd (by decide) q)
      refine PW.iconst q_285_1691 ?_
      exact PW.zret q_285_1692 rfl (by decide) (by decide) (by decide) rfl
    · skip
      have h1 : a1.toInt ≤ (-1) := s_ngtI h1
      exact absurd trivial (by omega)
set_option maxRecDepth 100000 in
set_option maxHeartbeats 40000000 in
theorem thr_dog (G : pG) (a1 a2 : Int32) : PW G false 20 109 1 6 (fun _ _ _ => False, fun pc' lv' st' N' M' ce' sl' => pc' = 18 ∧ st' = [] ∧ N' = 311 ∧ M' = f_M ∧ ce' = 0 ∧ sl' = 0) 0 (lv_args 0 [.ref 0, .int a1, .int a2]) [] 311 f_M 0 0 := by
  refine PW.aload_n q_109_0 rfl ?_
  refine PW.iload_n q_109_1 rfl ?_
  refine PW.callV (as := [_]) (rest := []) q_109_2 rfl (by decide) rfl (by decide) rfl rfl (Nat.le_of_ble_eq_true rfl) (Nat.le_of_ble_eq_true rfl) (by decide) (by decide) ?_
  refine PW.iload_n q_144_0 rfl ?_
  refine PW.if_lt q_144_1 rfl (fun h0 => ?_) (fun h0 => ?_)
  · skip
    have h0 : a1.toInt < 0 := s_ltI h0
    refine PW.iconst q_144_22 ?_
    refine PW.zret q_144_23 rfl (by decide) (by decide) (by decide) ?_
    refine PW.if_eq q_109_5 rfl (fun _ => ?_) (fun q => absurd (by decide) q)
    exact PW.exit ⟨rfl, rfl, rfl, rfl, rfl, rfl⟩
  · skip
    have h0 : a1.toInt ≥ 0 := s_nltI h0
    refine PW.iload_n q_144_4 rfl ?_
    refine PW.aload_n q_144_5 rfl ?_
    refine PW.getf q_144_6 rfl (by decide) rfl rfl ?_
    refine PW.getN q_144_9 rfl (by decide) rfl rfl ?_
    refine PW.getN q_144_12 rfl (by decide) rfl rfl ?_
    refine PW.icmp_ge q_144_15 rfl (fun h1 => ?_) (fun h1 => ?_)
    · skip
      have h1 : a1.toInt ≥ 0 := s_geI h1
      refine PW.iconst q_144_22 ?_
      refine PW.zret q_144_23 rfl (by decide) (by decide) (by decide) ?_
      refine PW.if_eq q_109_5 rfl (fun _ => ?_) (fun q => absurd (by decide) q)
      exact PW.exit ⟨rfl, rfl, rfl, rfl, rfl, rfl⟩
    · skip
      have h1 : a1.toInt < 0 := s_ngeI h1
      exact absurd trivial (by omega)
set_option maxRecDepth 100000 in
set_option maxHeartbeats 40000000 in
theorem cat_dog (G : pG) (a1 a2 : Int32) : PW G false 21 281 1 6 (fun _ _ _ => False, fun pc' lv' st' N' M' ce' sl' => pc' = 5 ∧ st' = ([.int a1, .int a2] : List Value).reverse ++ .ref 0 :: [.int (Int32.ofInt 0), .ref 310] ∧ N' = 311 ∧ M' = f_M ∧ ce' = 0 ∧ sl' = 0) 0 (lv_args 0 [.ref 0, .int a1, .int a2, .ref 310]) [] 311 f_M 0 0 := by
  refine PW.aload_n q_281_0 rfl ?_
  refine PW.iconst q_281_1 ?_
  refine PW.aload_n q_281_2 rfl ?_
  refine PW.iload_n q_281_3 rfl ?_
  refine PW.iload_n q_281_4 rfl ?_
  exact PW.exit ⟨rfl, rfl, rfl, rfl, rfl, rfl⟩
theorem wc_dog : Cond.codeWith (p_mY 281) (p_mC 281) (p_mL 281) (p_mR 281) [(0, 10, 13, 13)] ∈ p_GW := p_gi (List.mem_of_getElem? (i := 1325) (by decide +kernel)) rfl
set_option maxRecDepth 100000 in
set_option maxHeartbeats 40000000 in
theorem met_dog (G : pG) (a1 a2 : Int32) (l : Launch) (hl0 : l.stackTraces = false) : vx_Met l (p_mY 281) (xc_WS 281 [(0, 10, 13, 13)]) (xc_rm 21) (xc_Pc G [.ref 0, .int a1, .int a2, .ref 310] 311 f_M) (p_Qc G false (xc_K 311 f_M)) (fun _ _ _ => False) 1 6 (p_A G) :=
  xc_catcher (d := 20) (kx := 109) (as2 := [.int a1, .int a2]) (rest := [.int (Int32.ofInt 0), .ref 310]) (pI := 5) (nS := 4) (by decide +kernel) (by decide +kernel) (by decide +kernel) wc_dog (by decide +kernel) (Nat.le_of_ble_eq_true rfl)
    (fun l hl0 => xc_thrower (pn := 18) (by decide) (by decide +kernel) (by decide +kernel) (Nat.le_of_ble_eq_true rfl) (p_tb_ok q_109_18) (p_tb_ok q_109_21) (p_tb_ok q_109_22) (p_tb_ok q_109_25) (thr_dog G a1 a2) l hl0)
    q_281_5 rfl (by decide) rfl (by decide) rfl rfl (Nat.le_of_ble_eq_true rfl) (by decide) q_281_13 (by decide) q_281_15 q_281_16 (cat_dog G a1 a2) l hl0
set_option maxRecDepth 100000 in
set_option maxHeartbeats 40000000 in
theorem law_dog (G : pG) (hL : G.2.2.2.2.1 = 6) (a1 a2 a3 a4 a5 : Int32) (e1 : G.2.2.2.2.2 1 = a1) (e2 : G.2.2.2.2.2 2 = a2) (e3 : G.2.2.2.2.2 3 = a3) (e4 : G.2.2.2.2.2 4 = a4) (e5 : G.2.2.2.2.2 5 = a5) : PX G false 22 285 400 9000 law_K 420 law_lv [] 311 f_M 311 8628 := by
  refine PX.run ?_
  refine PW.aload_n q_285_420 rfl ?_
  refine PW.aload_n q_285_421 rfl ?_
  refine PW.iload q_285_422 rfl ?_
  refine PW.iconst q_285_424 ?_
  refine PW.iadd q_285_425 ?_
  refine PW.sldE q_285_426 (by rw [hL]; unfold vp_in; decide) e1 ?_
  refine PW.aload_n q_285_427 rfl ?_
  refine PW.iload q_285_428 rfl ?_
  refine PW.iconst q_285_430 ?_
  refine PW.iadd q_285_431 ?_
  refine PW.sldE q_285_432 (by rw [hL]; unfold vp_in; decide) e2 ?_
  refine PW.aload_n q_285_433 rfl ?_
  refine PW.exit ?_
  refine PX.callX (as := [.ref 0, .int a1, .int a2, .ref 310]) (rest := []) q_285_434 rfl wc_dog wc_ini ⟨by decide +kernel, by decide +kernel⟩ (show (parseMethodDescriptor (p_mY 281).desc).map (fun d => d.parameters.length) = some 4 from by decide +kernel) (by decide +kernel) (Nat.le_of_ble_eq_true rfl) (by decide) (by decide) (met_dog G a1 a2) ?_
  refine PX.of ?_
  refine PW.istore q_285_437 (by decide) ?_
  refine PW.aload_n q_285_439 rfl ?_
  refine PW.aload_n q_285_440 rfl ?_
  refine PW.iload q_285_441 rfl ?_
  refine PW.iconst q_285_443 ?_
  refine PW.iadd q_285_444 ?_
  refine PW.sldE q_285_445 (by rw [hL]; unfold vp_in; decide) e1 ?_
  refine PW.aload_n q_285_446 rfl ?_
  refine PW.iload q_285_447 rfl ?_
  refine PW.iconst q_285_449 ?_
  refine PW.iadd q_285_450 ?_
  refine PW.sldE q_285_451 (by rw [hL]; unfold vp_in; decide) e2 ?_
  refine PW.callV (as := [_, _]) (rest := []) q_285_452 rfl (by decide) rfl (by decide) rfl rfl (Nat.le_of_ble_eq_true rfl) (Nat.le_of_ble_eq_true rfl) (by decide) (by decide) ?_
  refine PW.aload_n q_201_0 rfl ?_
  refine PW.aload_n q_201_1 rfl ?_
  refine PW.iload_n q_201_2 rfl ?_
  refine PW.callV (as := [_]) (rest := [_]) q_201_3 rfl (by decide) rfl (by decide) rfl rfl (Nat.le_of_ble_eq_true rfl) (Nat.le_of_ble_eq_true rfl) (by decide) (by decide) ?_
  refine PW.iload_n q_197_0 rfl ?_
  refine PW.iconst q_197_1 ?_
  refine PW.aload_n q_197_2 rfl ?_
  refine PW.getf q_197_3 rfl (by decide) rfl rfl ?_
  refine PW.iconst q_197_6 ?_
  refine PW.iald q_197_7 (by decide) rfl (by unfold vp_in; decide) ?_
  refine PW.iconst q_197_8 ?_
  refine PW.isub q_197_9 ?_
  refine PW.callS (as := [_, _, _]) (rest := []) q_197_10 rfl (by decide) rfl (Nat.le_of_ble_eq_true rfl) (Nat.le_of_ble_eq_true rfl) (by decide) (by decide) ?_
  refine PW.iload_n q_167_0 rfl ?_
  refine PW.iload_n q_167_1 rfl ?_
  refine PW.icmp_lt q_167_2 rfl (fun h0 => ?_) (fun h0 => ?_)
  · skip
    have h0 : a1.toInt < 0 := s_ltI h0
    refine PW.iconst q_167_14 ?_
    refine PW.zret q_167_15 rfl (by decide) (by decide) (by decide) ?_
    refine PW.zret q_197_13 rfl (by decide) (by decide) (by decide) ?_
    refine PW.if_eq q_201_6 rfl (fun _ => ?_) (fun q => absurd (by decide) q)
    refine PW.iconst q_201_19 ?_
    refine PW.goto q_201_20 rfl ?_
    refine PW.callV (as := [_]) (rest := []) q_201_24 rfl (by decide) rfl (by decide) rfl rfl (Nat.le_of_ble_eq_true rfl) (Nat.le_of_ble_eq_true rfl) (by decide) (by decide) ?_
    refine PW.aload_n q_162_0 rfl ?_
    refine PW.iload_n q_162_1 rfl ?_
    refine PW.if_eq q_162_2 rfl (fun q => absurd q (by decide)) (fun _ => ?_)
    refine PW.iconst q_162_5 ?_
    refine PW.goto q_162_6 rfl ?_
    refine PW.putf q_162_10 rfl (by decide) rfl rfl rfl (by decide) ?_
    refine PW.iload_n q_162_13 rfl ?_
    refine PW.zret q_162_14 rfl (by decide) (by decide) (by decide) ?_
    refine PW.if_eq q_201_27 rfl (fun q => absurd q (by decide)) (fun _ => ?_)
    refine PW.iconst q_201_30 ?_
    refine PW.iret q_201_31 rfl (by decide) (by decide) ?_
    refine PW.istore q_285_455 (by decide) ?_
    refine PW.aload_n q_285_457 rfl ?_
    refine PW.callV (as := []) (rest := []) q_285_458 rfl (by decide) rfl (by decide) rfl rfl (Nat.le_of_ble_eq_true rfl) (Nat.le_of_ble_eq_true rfl) (by decide) (by decide) ?_
    refine PW.aload_n q_161_0 rfl ?_
    refine PW.getf q_161_1 rfl (by decide) rfl rfl ?_
    refine PW.iret q_161_4 rfl (by decide) (by decide) ?_
    refine PW.iload q_285_461 rfl ?_
    refine PW.icmp_eq q_285_463 rfl (fun _ => ?_) (fun q => absurd (by decide) q)
    refine PW.iload q_285_468 rfl ?_
    refine PW.if_ne q_285_470 rfl (fun _ => ?_) (fun q => absurd q (by decide))
    refine PW.goto q_285_485 rfl ?_
    refine PW.iinc q_285_1685 rfl (by decide) ?_
    refine PW.goto q_285_1688 rfl ?_
    refine PW.iload q_285_23 rfl ?_
    refine PW.aload_n q_285_25 rfl ?_
    refine PW.slen q_285_26 ?_
    refine PW.bipush q_285_27 ?_
    refine PW.isub q_285_29 ?_
    refine PW.topi (y := 0) (by rw [hL]; decide) ?_
    refine PW.icmp_gt q_285_30 rfl (fun _ => ?_) (fun q => absurd (by decide) q)
    refine PW.iconst q_285_1691 ?_
    exact PW.zret q_285_1692 rfl (by decide) (by decide) (by decide) rfl
  · skip
    have h0 : a1.toInt ≥ 0 := s_nltI h0
    refine PW.iload_n q_167_5 rfl ?_
    refine PW.iload_n q_167_6 rfl ?_
    refine PW.icmp_gt q_167_7 rfl (fun h1 => ?_) (fun h1 => ?_)
    · skip
      have h1 : a1.toInt > (-1) := s_gtI h1
      refine PW.iconst q_167_14 ?_
      refine PW.zret q_167_15 rfl (by decide) (by decide) (by decide) ?_
      refine PW.zret q_197_13 rfl (by decide) (by decide) (by decide) ?_
      refine PW.if_eq q_201_6 rfl (fun _ => ?_) (fun q => absurd (by decide) q)
      refine PW.iconst q_201_19 ?_
      refine PW.goto q_201_20 rfl ?_
      refine PW.callV (as := [_]) (rest := []) q_201_24 rfl (by decide) rfl (by decide) rfl rfl (Nat.le_of_ble_eq_true rfl) (Nat.le_of_ble_eq_true rfl) (by decide) (by decide) ?_
      refine PW.aload_n q_162_0 rfl ?_
      refine PW.iload_n q_162_1 rfl ?_
      refine PW.if_eq q_162_2 rfl (fun q => absurd q (by decide)) (fun _ => ?_)
      refine PW.iconst q_162_5 ?_
      refine PW.goto q_162_6 rfl ?_
      refine PW.putf q_162_10 rfl (by decide) rfl rfl rfl (by decide) ?_
      refine PW.iload_n q_162_13 rfl ?_
      refine PW.zret q_162_14 rfl (by decide) (by decide) (by decide) ?_
      refine PW.if_eq q_201_27 rfl (fun q => absurd q (by decide)) (fun _ => ?_)
      refine PW.iconst q_201_30 ?_
      refine PW.iret q_201_31 rfl (by decide) (by decide) ?_
      refine PW.istore q_285_455 (by decide) ?_
      refine PW.aload_n q_285_457 rfl ?_
      refine PW.callV (as := []) (rest := []) q_285_458 rfl (by decide) rfl (by decide) rfl rfl (Nat.le_of_ble_eq_true rfl) (Nat.le_of_ble_eq_true rfl) (by decide) (by decide) ?_
      refine PW.aload_n q_161_0 rfl ?_
      refine PW.getf q_161_1 rfl (by decide) rfl rfl ?_
      refine PW.iret q_161_4 rfl (by decide) (by decide) ?_
      refine PW.iload q_285_461 rfl ?_
      refine PW.icmp_eq q_285_463 rfl (fun _ => ?_) (fun q => absurd (by decide) q)
      refine PW.iload q_285_468 rfl ?_
      refine PW.if_ne q_285_470 rfl (fun _ => ?_) (fun q => absurd q (by decide))
      refine PW.goto q_285_485 rfl ?_
      refine PW.iinc q_285_1685 rfl (by decide) ?_
      refine PW.goto q_285_1688 rfl ?_
      refine PW.iload q_285_23 rfl ?_
      refine PW.aload_n q_285_25 rfl ?_
      refine PW.slen q_285_26 ?_
      refine PW.bipush q_285_27 ?_
      refine PW.isub q_285_29 ?_
      refine PW.topi (y := 0) (by rw [hL]; decide) ?_
      refine PW.icmp_gt q_285_30 rfl (fun _ => ?_) (fun q => absurd (by decide) q)
      refine PW.iconst q_285_1691 ?_
      exact PW.zret q_285_1692 rfl (by decide) (by decide) (by decide) rfl
    · skip
      have h1 : a1.toInt ≤ (-1) := s_ngtI h1
      exact absurd trivial (by omega)
set_option maxRecDepth 100000 in
set_option maxHeartbeats 40000000 in
theorem thr_far (G : pG) (a1 a2 a3 a4 : Int32) : PW G false 20 138 1 6 (fun _ _ _ => False, fun pc' lv' st' N' M' ce' sl' => pc' = 21 ∧ st' = [] ∧ N' = 311 ∧ M' = f_M ∧ ce' = 0 ∧ sl' = 0) 0 (lv_args 0 [.ref 0, .int a1, .int a2, .int a3, .int a4]) [] 311 f_M 0 0 := by
  refine PW.aload_n q_138_0 rfl ?_
  refine PW.iload_n q_138_1 rfl ?_
  refine PW.iload_n q_138_2 rfl ?_
  refine PW.iload_n q_138_3 rfl ?_
  refine PW.callV (as := [_, _, _]) (rest := []) q_138_4 rfl (by decide) rfl (by decide) rfl rfl (Nat.le_of_ble_eq_true rfl) (Nat.le_of_ble_eq_true rfl) (by decide) (by decide) ?_
  refine PW.aload_n q_159_0 rfl ?_
  refine PW.iload_n q_159_1 rfl ?_
  refine PW.callV (as := [_]) (rest := []) q_159_2 rfl (by decide) rfl (by decide) rfl rfl (Nat.le_of_ble_eq_true rfl) (Nat.le_of_ble_eq_true rfl) (by decide) (by decide) ?_
  refine PW.iload_n q_143_0 rfl ?_
  refine PW.if_lt q_143_1 rfl (fun h0 => ?_) (fun h0 => ?_)
  · skip
    have h0 : a1.toInt < 0 := s_ltI h0
    refine PW.iconst q_143_22 ?_
    refine PW.zret q_143_23 rfl (by decide) (by decide) (by decide) ?_
    refine PW.if_eq q_159_5 rfl (fun _ => ?_) (fun q => absurd (by decide) q)
    refine PW.iconst q_159_27 ?_
    refine PW.zret q_159_28 rfl (by decide) (by decide) (by decide) ?_
    refine PW.if_eq q_138_7 rfl (fun _ => ?_) (fun q => absurd (by decide) q)
    exact PW.exit ⟨rfl, rfl, rfl, rfl, rfl, rfl⟩
  · skip
    have h0 : a1.toInt ≥ 0 := s_nltI h0
    refine PW.iload_n q_143_4 rfl ?_
    refine PW.aload_n q_143_5 rfl ?_
    refine PW.getf q_143_6 rfl (by decide) rfl rfl ?_
    refine PW.getN q_143_9 rfl (by decide) rfl rfl ?_
    refine PW.getN q_143_12 rfl (by decide) rfl rfl ?_
    refine PW.icmp_ge q_143_15 rfl (fun h1 => ?_) (fun h1 => ?_)
    · skip
      have h1 : a1.toInt ≥ 0 := s_geI h1
      refine PW.iconst q_143_22 ?_
      refine PW.zret q_143_23 rfl (by decide) (by decide) (by decide) ?_
      refine PW.if_eq q_159_5 rfl (fun _ => ?_) (fun q => absurd (by decide) q)
      refine PW.iconst q_159_27 ?_
      refine PW.zret q_159_28 rfl (by decide) (by decide) (by decide) ?_
      refine PW.if_eq q_138_7 rfl (fun _ => ?_) (fun q => absurd (by decide) q)
      exact PW.exit ⟨rfl, rfl, rfl, rfl, rfl, rfl⟩
    · skip
      have h1 : a1.toInt < 0 := s_ngeI h1
      exact absurd trivial (by omega)
set_option maxRecDepth 100000 in
set_option maxHeartbeats 40000000 in
theorem cat_far (G : pG) (a1 a2 a3 a4 : Int32) : PW G false 21 282 1 6 (fun _ _ _ => False, fun pc' lv' st' N' M' ce' sl' => pc' = 9 ∧ st' = ([.int a1, .int a2, .int a3, .int a4] : List Value).reverse ++ .ref 0 :: [.int (Int32.ofInt 0), .ref 310] ∧ N' = 311 ∧ M' = f_M ∧ ce' = 0 ∧ sl' = 0) 0 (lv_args 0 [.ref 0, .int a1, .int a2, .int a3, .int a4, .ref 310]) [] 311 f_M 0 0 := by
  refine PW.aload q_282_0 rfl ?_
  refine PW.iconst q_282_2 ?_
  refine PW.aload_n q_282_3 rfl ?_
  refine PW.iload_n q_282_4 rfl ?_
  refine PW.iload_n q_282_5 rfl ?_
  refine PW.iload_n q_282_6 rfl ?_
  refine PW.iload q_282_7 rfl ?_
  exact PW.exit ⟨rfl, rfl, rfl, rfl, rfl, rfl⟩
theorem wc_far : Cond.codeWith (p_mY 282) (p_mC 282) (p_mL 282) (p_mR 282) [(0, 14, 17, 13)] ∈ p_GW := p_gi (List.mem_of_getElem? (i := 1332) (by decide +kernel)) rfl
set_option maxRecDepth 100000 in
set_option maxHeartbeats 40000000 in
theorem met_far (G : pG) (a1 a2 a3 a4 : Int32) (l : Launch) (hl0 : l.stackTraces = false) : vx_Met l (p_mY 282) (xc_WS 282 [(0, 14, 17, 13)]) (xc_rm 21) (xc_Pc G [.ref 0, .int a1, .int a2, .int a3, .int a4, .ref 310] 311 f_M) (p_Qc G false (xc_K 311 f_M)) (fun _ _ _ => False) 1 6 (p_A G) :=
  xc_catcher (d := 20) (kx := 138) (as2 := [.int a1, .int a2, .int a3, .int a4]) (rest := [.int (Int32.ofInt 0), .ref 310]) (pI := 9) (nS := 6) (by decide +kernel) (by decide +kernel) (by decide +kernel) wc_far (by decide +kernel) (Nat.le_of_ble_eq_true rfl)
    (fun l hl0 => xc_thrower (pn := 21) (by decide) (by decide +kernel) (by decide +kernel) (Nat.le_of_ble_eq_true rfl) (p_tb_ok q_138_21) (p_tb_ok q_138_24) (p_tb_ok q_138_25) (p_tb_ok q_138_28) (thr_far G a1 a2 a3 a4) l hl0)
    q_282_9 rfl (by decide) rfl (by decide) rfl rfl (Nat.le_of_ble_eq_true rfl) (by decide) q_282_17 (by decide) q_282_19 q_282_20 (cat_far G a1 a2 a3 a4) l hl0
set_option maxRecDepth 100000 in
set_option maxHeartbeats 40000000 in
theorem law_far (G : pG) (hL : G.2.2.2.2.1 = 6) (a1 a2 a3 a4 a5 : Int32) (e1 : G.2.2.2.2.2 1 = a1) (e2 : G.2.2.2.2.2 2 = a2) (e3 : G.2.2.2.2.2 3 = a3) (e4 : G.2.2.2.2.2 4 = a4) (e5 : G.2.2.2.2.2 5 = a5) : PX G false 22 285 400 9000 law_K 899 law_lv [] 311 f_M 311 8628 := by
  refine PX.run ?_
  refine PW.aload_n q_285_899 rfl ?_
  refine PW.aload_n q_285_900 rfl ?_
  refine PW.iload q_285_901 rfl ?_
  refine PW.iconst q_285_903 ?_
  refine PW.iadd q_285_904 ?_
  refine PW.sldE q_285_905 (by rw [hL]; unfold vp_in; decide) e1 ?_
  refine PW.aload_n q_285_906 rfl ?_
  refine PW.iload q_285_907 rfl ?_
  refine PW.iconst q_285_909 ?_
  refine PW.iadd q_285_910 ?_
  refine PW.sldE q_285_911 (by rw [hL]; unfold vp_in; decide) e2 ?_
  refine PW.aload_n q_285_912 rfl ?_
  refine PW.iload q_285_913 rfl ?_
  refine PW.iconst q_285_915 ?_
  refine PW.iadd q_285_916 ?_
  refine PW.sldE q_285_917 (by rw [hL]; unfold vp_in; decide) e3 ?_
  refine PW.aload_n q_285_918 rfl ?_
  refine PW.iload q_285_919 rfl ?_
  refine PW.iconst q_285_921 ?_
  refine PW.iadd q_285_922 ?_
  refine PW.sldE q_285_923 (by rw [hL]; unfold vp_in; decide) e4 ?_
  refine PW.aload_n q_285_924 rfl ?_
  refine PW.exit ?_
  refine PX.callX (as := [.ref 0, .int a1, .int a2, .int a3, .int a4, .ref 310]) (rest := []) q_285_925 rfl wc_far wc_ini ⟨by decide +kernel, by decide +kernel⟩ (show (parseMethodDescriptor (p_mY 282).desc).map (fun d => d.parameters.length) = some 6 from by decide +kernel) (by decide +kernel) (Nat.le_of_ble_eq_true rfl) (by decide) (by decide) (met_far G a1 a2 a3 a4) ?_
  refine PX.of ?_
  refine PW.istore q_285_928 (by decide) ?_
  refine PW.aload_n q_285_930 rfl ?_
  refine PW.aload_n q_285_931 rfl ?_
  refine PW.iload q_285_932 rfl ?_
  refine PW.iconst q_285_934 ?_
  refine PW.iadd q_285_935 ?_
  refine PW.sldE q_285_936 (by rw [hL]; unfold vp_in; decide) e1 ?_
  refine PW.aload_n q_285_937 rfl ?_
  refine PW.iload q_285_938 rfl ?_
  refine PW.iconst q_285_940 ?_
  refine PW.iadd q_285_941 ?_
  refine PW.sldE q_285_942 (by rw [hL]; unfold vp_in; decide) e2 ?_
  refine PW.aload_n q_285_943 rfl ?_
  refine PW.iload q_285_944 rfl ?_
  refine PW.iconst q_285_946 ?_
  refine PW.iadd q_285_947 ?_
  refine PW.sldE q_285_948 (by rw [hL]; unfold vp_in; decide) e3 ?_
  refine PW.aload_n q_285_949 rfl ?_
  refine PW.iload q_285_950 rfl ?_
  refine PW.iconst q_285_952 ?_
  refine PW.iadd q_285_953 ?_
  refine PW.sldE q_285_954 (by rw [hL]; unfold vp_in; decide) e4 ?_
  refine PW.callV (as := [_, _, _, _]) (rest := []) q_285_955 rfl (by decide) rfl (by decide) rfl rfl (Nat.le_of_ble_eq_true rfl) (Nat.le_of_ble_eq_true rfl) (by decide) (by decide) ?_
  refine PW.aload_n q_235_0 rfl ?_
  refine PW.aload_n q_235_1 rfl ?_
  refine PW.iload_n q_235_2 rfl ?_
  refine PW.iload_n q_235_3 rfl ?_
  refine PW.iload_n q_235_4 rfl ?_
  refine PW.callV (as := [_, _, _]) (rest := [_]) q_235_5 rfl (by decide) rfl (by decide) rfl rfl (Nat.le_of_ble_eq_true rfl) (Nat.le_of_ble_eq_true rfl) (by decide) (by decide) ?_
  refine PW.aload_n q_232_0 rfl ?_
  refine PW.iload_n q_232_1 rfl ?_
  refine PW.iload_n q_232_2 rfl ?_
  refine PW.callV (as := [_, _]) (rest := []) q_232_3 rfl (by decide) rfl (by decide) rfl rfl (Nat.le_of_ble_eq_true rfl) (Nat.le_of_ble_eq_true rfl) (by decide) (by decide) ?_
  refine PW.aload_n q_198_0 rfl ?_
  refine PW.iload_n q_198_1 rfl ?_
  refine PW.callV (as := [_]) (rest := []) q_198_2 rfl (by decide) rfl (by decide) rfl rfl (Nat.le_of_ble_eq_true rfl) (Nat.le_of_ble_eq_true rfl) (by decide) (by decide) ?_
  refine PW.iload_n q_196_0 rfl ?_
  refine PW.iconst q_196_1 ?_
  refine PW.aload_n q_196_2 rfl ?_
  refine PW.getf q_196_3 rfl (by decide) rfl rfl ?_
  refine PW.iconst q_196_6 ?_
  refine PW.iald q_196_7 (by decide) rfl (by unfold vp_in; decide) ?_
  refine PW.iconst q_196_8 ?_
  refine PW.isub q_196_9 ?_
  refine PW.callS (as := [_, _, _]) (rest := []) q_196_10 rfl (by decide) rfl (Nat.le_of_ble_eq_true rfl) (Nat.le_of_ble_eq_true rfl) (by decide) (by decide) ?_
  refine PW.iload_n q_167_0 rfl ?_
  refine PW.iload_n q_167_1 rfl ?_
  refine PW.icmp_lt q_167_2 rfl (fun h0 => ?_) (fun h0 => ?_)
  · skip
    have h0 : a1.toInt < 0 := s_ltI h0
    refine PW.iconst q_167_14 ?_
    refine PW.zret q_167_15 rfl (by decide) (by decide) (by decide) ?_
    refine PW.zret q_196_13 rfl (by decide) (by decide) (by decide) ?_
    refine PW.if_eq q_198_5 rfl (fun _ => ?_) (fun q => absurd (by decide) q)
    refine PW.iconst q_198_25 ?_
    refine PW.zret q_198_26 rfl (by decide) (by decide) (by decide) ?_
    refine PW.if_eq q_232_6 rfl (fun _ => ?_) (fun q => absurd (by decide) q)
    refine PW.iconst q_232_80 ?_
    refine PW.zret q_232_81 rfl (by decide) (by decide) (by decide) ?_
    refine PW.if_eq q_235_8 rfl (fun _ => ?_) (fun q => absurd (by decide) q)
    refine PW.iconst q_235_21 ?_
    refine PW.goto q_235_22 rfl ?_
    refine PW.callV (as := [_]) (rest := []) q_235_26 rfl (by decide) rfl (by decide) rfl rfl (Nat.le_of_ble_eq_true rfl) (Nat.le_of_ble_eq_true rfl) (by decide) (by decide) ?_
    refine PW.aload_n q_162_0 rfl ?_
    refine PW.iload_n q_162_1 rfl ?_
    refine PW.if_eq q_162_2 rfl (fun q => absurd q (by decide)) (fun _ => ?_)
    refine PW.iconst q_162_5 ?_
    refine PW.goto q_162_6 rfl ?_
    refine PW.putf q_162_10 rfl (by decide) rfl rfl rfl (by decide) ?_
    refine PW.iload_n q_162_13 rfl ?_
    refine PW.zret q_162_14 rfl (by decide) (by decide) (by decide) ?_
    refine PW.if_eq q_235_29 rfl (fun q => absurd q (by decide)) (fun _ => ?_)
    refine PW.iconst q_235_32 ?_
    refine PW.iret q_235_33 rfl (by decide) (by decide) ?_
    refine PW.istore q_285_958 (by decide) ?_
    refine PW.aload_n q_285_960 rfl ?_
    refine PW.callV (as := []) (rest := []) q_285_961 rfl (by decide) rfl (by decide) rfl rfl (Nat.le_of_ble_eq_true rfl) (Nat.le_of_ble_eq_true rfl) (by decide) (by decide) ?_
    refine PW.aload_n q_161_0 rfl ?_
    refine PW.getf q_161_1 rfl (by decide) rfl rfl ?_
    refine PW.iret q_161_4 rfl (by decide) (by decide) ?_
    refine PW.iload q_285_964 rfl ?_
    refine PW.icmp_eq q_285_966 rfl (fun _ => ?_) (fun q => absurd (by decide) q)
    refine PW.iload q_285_971 rfl ?_
    refine PW.if_ne q_285_973 rfl (fun _ => ?_) (fun q => absurd q (by decide))
    refine PW.goto q_285_988 rfl ?_
    refine PW.iinc q_285_1685 rfl (by decide) ?_
    refine PW.goto q_285_1688 rfl ?_
    refine PW.iload q_285_23 rfl ?_
    refine PW.aload_n q_285_25 rfl ?_
    refine PW.slen q_285_26 ?_
    refine PW.bipush q_285_27 ?_
    refine PW.isub q_285_29 ?_
    refine PW.topi (y := 0) (by rw [hL]; decide) ?_
    refine PW.icmp_gt q_285_30 rfl (fun _ => ?_) (fun q => absurd (by decide) q)
    refine PW.iconst q_285_1691 ?_
    exact PW.zret q_285_1692 rfl (by decide) (by decide) (by decide) rfl
  · skip
    have h0 : a1.toInt ≥ 0 := s_nltI h0
    refine PW.iload_n q_167_5 rfl ?_
    refine PW.iload_n q_167_6 rfl ?_
    refine PW.icmp_gt q_167_7 rfl (fun h1 => ?_) (fun h1 => ?_)
    · skip
      have h1 : a1.toInt > (-1) := s_gtI h1
      refine PW.iconst q_167_14 ?_
      refine PW.zret q_167_15 rfl (by decide) (by decide) (by decide) ?_
      refine PW.zret q_196_13 rfl (by decide) (by decide) (by decide) ?_
      refine PW.if_eq q_198_5 rfl (fun _ => ?_) (fun q => absurd (by decide) q)
      refine PW.iconst q_198_25 ?_
      refine PW.zret q_198_26 rfl (by decide) (by decide) (by decide) ?_
      refine PW.if_eq q_232_6 rfl (fun _ => ?_) (fun q => absurd (by decide) q)
      refine PW.iconst q_232_80 ?_
      refine PW.zret q_232_81 rfl (by decide) (by decide) (by decide) ?_
      refine PW.if_eq q_235_8 rfl (fun _ => ?_) (fun q => absurd (by decide) q)
      refine PW.iconst q_235_21 ?_
      refine PW.goto q_235_22 rfl ?_
      refine PW.callV (as := [_]) (rest := []) q_235_26 rfl (by decide) rfl (by decide) rfl rfl (Nat.le_of_ble_eq_true rfl) (Nat.le_of_ble_eq_true rfl) (by decide) (by decide) ?_
      refine PW.aload_n q_162_0 rfl ?_
      refine PW.iload_n q_162_1 rfl ?_
      refine PW.if_eq q_162_2 rfl (fun q => absurd q (by decide)) (fun _ => ?_)
      refine PW.iconst q_162_5 ?_
      refine PW.goto q_162_6 rfl ?_
      refine PW.putf q_162_10 rfl (by decide) rfl rfl rfl (by decide) ?_
      refine PW.iload_n q_162_13 rfl ?_
      refine PW.zret q_162_14 rfl (by decide) (by decide) (by decide) ?_
      refine PW.if_eq q_235_29 rfl (fun q => absurd q (by decide)) (fun _ => ?_)
      refine PW.iconst q_235_32 ?_
      refine PW.iret q_235_33 rfl (by decide) (by decide) ?_
      refine PW.istore q_285_958 (by decide) ?_
      refine PW.aload_n q_285_960 rfl ?_
      refine PW.callV (as := []) (rest := []) q_285_961 rfl (by decide) rfl (by decide) rfl rfl (Nat.le_of_ble_eq_true rfl) (Nat.le_of_ble_eq_true rfl) (by decide) (by decide) ?_
      refine PW.aload_n q_161_0 rfl ?_
      refine PW.getf q_161_1 rfl (by decide) rfl rfl ?_
      refine PW.iret q_161_4 rfl (by decide) (by decide) ?_
      refine PW.iload q_285_964 rfl ?_
      refine PW.icmp_eq q_285_966 rfl (fun _ => ?_) (fun q => absurd (by decide) q)
      refine PW.iload q_285_971 rfl ?_
      refine PW.if_ne q_285_973 rfl (fun _ => ?_) (fun q => absurd q (by decide))
      refine PW.goto q_285_988 rfl ?_
      refine PW.iinc q_285_1685 rfl (by decide) ?_
      refine PW.goto q_285_1688 rfl ?_
      refine PW.iload q_285_23 rfl ?_
      refine PW.aload_n q_285_25 rfl ?_
      refine PW.slen q_285_26 ?_
      refine PW.bipush q_285_27 ?_
      refine PW.isub q_285_29 ?_
      refine PW.topi (y := 0) (by rw [hL]; decide) ?_
      refine PW.icmp_gt q_285_30 rfl (fun _ => ?_) (fun q => absurd (by decide) q)
      refine PW.iconst q_285_1691 ?_
      exact PW.zret q_285_1692 rfl (by decide) (by decide) (by decide) rfl
    · skip
      have h1 : a1.toInt ≤ (-1) := s_ngtI h1
      exact absurd trivial (by omega)
set_option maxRecDepth 100000 in
set_option maxHeartbeats 40000000 in
theorem thr_near (G : pG) (a1 a2 a3 a4 a5 : Int32) : PW G false 20 139 1 6 (fun _ _ _ => False, fun pc' lv' st' N' M' ce' sl' => pc' = 34 ∧ st' = [] ∧ N' = 311 ∧ M' = f_M ∧ ce' = 0 ∧ sl' = 0) 0 (lv_args 0 [.ref 0, .int a1, .int a2, .int a3, .int a4, .int a5]) [] 311 f_M 0 0 := by
  refine PW.aload_n q_139_0 rfl ?_
  refine PW.iload_n q_139_1 rfl ?_
  refine PW.iload_n q_139_2 rfl ?_
  refine PW.iload_n q_139_3 rfl ?_
  refine PW.callV (as := [_, _, _]) (rest := []) q_139_4 rfl (by decide) rfl (by decide) rfl rfl (Nat.le_of_ble_eq_true rfl) (Nat.le_of_ble_eq_true rfl) (by decide) (by decide) ?_
  refine PW.aload_n q_159_0 rfl ?_
  refine PW.iload_n q_159_1 rfl ?_
  refine PW.callV (as := [_]) (rest := []) q_159_2 rfl (by decide) rfl (by decide) rfl rfl (Nat.le_of_ble_eq_true rfl) (Nat.le_of_ble_eq_true rfl) (by decide) (by decide) ?_
  refine PW.iload_n q_143_0 rfl ?_
  refine PW.if_lt q_143_1 rfl (fun h0 => ?_) (fun h0 => ?_)
  · skip
    have h0 : a1.toInt < 0 := s_ltI h0
    refine PW.iconst q_143_22 ?_
    refine PW.zret q_143_23 rfl (by decide) (by decide) (by decide) ?_
    refine PW.if_eq q_159_5 rfl (fun _ => ?_) (fun q => absurd (by decide) q)
    refine PW.iconst q_159_27 ?_
    refine PW.zret q_159_28 rfl (by decide) (by decide) (by decide) ?_
    refine PW.if_eq q_139_7 rfl (fun _ => ?_) (fun q => absurd (by decide) q)
    exact PW.exit ⟨rfl, rfl, rfl, rfl, rfl, rfl⟩
  · skip
    have h0 : a1.toInt ≥ 0 := s_nltI h0
    refine PW.iload_n q_143_4 rfl ?_
    refine PW.aload_n q_143_5 rfl ?_
    refine PW.getf q_143_6 rfl (by decide) rfl rfl ?_
    refine PW.getN q_143_9 rfl (by decide) rfl rfl ?_
    refine PW.getN q_143_12 rfl (by decide) rfl rfl ?_
    refine PW.icmp_ge q_143_15 rfl (fun h1 => ?_) (fun h1 => ?_)
    · skip
      have h1 : a1.toInt ≥ 0 := s_geI h1
      refine PW.iconst q_143_22 ?_
      refine PW.zret q_143_23 rfl (by decide) (by decide) (by decide) ?_
      refine PW.if_eq q_159_5 rfl (fun _ => ?_) (fun q => absurd (by decide) q)
      refine PW.iconst q_159_27 ?_
      refine PW.zret q_159_28 rfl (by decide) (by decide) (by decide) ?_
      refine PW.if_eq q_139_7 rfl (fun _ => ?_) (fun q => absurd (by decide) q)
      exact PW.exit ⟨rfl, rfl, rfl, rfl, rfl, rfl⟩
    · skip
      have h1 : a1.toInt < 0 := s_ngeI h1
      exact absurd trivial (by omega)
set_option maxRecDepth 100000 in
set_option maxHeartbeats 40000000 in
theorem cat_near (G : pG) (a1 a2 a3 a4 a5 : Int32) : PW G false 21 283 1 6 (fun _ _ _ => False, fun pc' lv' st' N' M' ce' sl' => pc' = 11 ∧ st' = ([.int a1, .int a2, .int a3, .int a4, .int a5] : List Value).reverse ++ .ref 0 :: [.int (Int32.ofInt 0), .ref 310] ∧ N' = 311 ∧ M' = f_M ∧ ce' = 0 ∧ sl' = 0) 0 (lv_args 0 [.ref 0, .int a1, .int a2, .int a3, .int a4, .int a5, .ref 310]) [] 311 f_M 0 0 := by
  refine PW.aload q_283_0 rfl ?_
  refine PW.iconst q_283_2 ?_
  refine PW.aload_n q_283_3 rfl ?_
  refine PW.iload_n q_283_4 rfl ?_
  refine PW.iload_n q_283_5 rfl ?_
  refine PW.iload_n q_283_6 rfl ?_
  refine PW.iload q_283_7 rfl ?_
  refine PW.iload q_283_9 rfl ?_
  exact PW.exit ⟨rfl, rfl, rfl, rfl, rfl, rfl⟩
theorem wc_near : Cond.codeWith (p_mY 283) (p_mC 283) (p_mL 283) (p_mR 283) [(0, 15, 18, 13)] ∈ p_GW := p_gi (List.mem_of_getElem? (i := 1354) (by decide +kernel)) rfl
set_option maxRecDepth 100000 in
set_option maxHeartbeats 40000000 in
theorem met_near (G : pG) (a1 a2 a3 a4 a5 : Int32) (l : Launch) (hl0 : l.stackTraces = false) : vx_Met l (p_mY 283) (xc_WS 283 [(0, 15, 18, 13)]) (xc_rm 21) (xc_Pc G [.ref 0, .int a1, .int a2, .int a3, .int a4, .int a5, .ref 310] 311 f_M) (p_Qc G false (xc_K 311 f_M)) (fun _ _ _ => False) 1 6 (p_A G) :=
  xc_catcher (d := 20) (kx := 139) (as2 := [.int a1, .int a2, .int a3, .int a4, .int a5]) (rest := [.int (Int32.ofInt 0), .ref 310]) (pI := 11) (nS := 7) (by decide +kernel) (by decide +kernel) (by decide +kernel) wc_near (by decide +kernel) (Nat.le_of_ble_eq_true rfl)
    (fun l hl0 => xc_thrower (pn := 34) (by decide) (by decide +kernel) (by decide +kernel) (Nat.le_of_ble_eq_true rfl) (p_tb_ok q_139_34) (p_tb_ok q_139_37) (p_tb_ok q_139_38) (p_tb_ok q_139_41) (thr_near G a1 a2 a3 a4 a5) l hl0)
    q_283_11 rfl (by decide) rfl (by decide) rfl rfl (Nat.le_of_ble_eq_true rfl) (by decide) q_283_18 (by decide) q_283_20 q_283_21 (cat_near G a1 a2 a3 a4 a5) l hl0
set_option maxRecDepth 100000 in
set_option maxHeartbeats 40000000 in
theorem law_near (G : pG) (hL : G.2.2.2.2.1 = 6) (a1 a2 a3 a4 a5 : Int32) (e1 : G.2.2.2.2.2 1 = a1) (e2 : G.2.2.2.2.2 2 = a2) (e3 : G.2.2.2.2.2 3 = a3) (e4 : G.2.2.2.2.2 4 = a4) (e5 : G.2.2.2.2.2 5 = a5) : PX G false 22 285 400 9000 law_K 991 law_lv [] 311 f_M 311 8628 := by
  refine PX.run ?_
  refine PW.aload_n q_285_991 rfl ?_
  refine PW.aload_n q_285_992 rfl ?_
  refine PW.iload q_285_993 rfl ?_
  refine PW.iconst q_285_995 ?_
  refine PW.iadd q_285_996 ?_
  refine PW.sldE q_285_997 (by rw [hL]; unfold vp_in; decide) e1 ?_
  refine PW.aload_n q_285_998 rfl ?_
  refine PW.iload q_285_999 rfl ?_
  refine PW.iconst q_285_1001 ?_
  refine PW.iadd q_285_1002 ?_
  refine PW.sldE q_285_1003 (by rw [hL]; unfold vp_in; decide) e2 ?_
  refine PW.aload_n q_285_1004 rfl ?_
  refine PW.iload q_285_1005 rfl ?_
  refine PW.iconst q_285_1007 ?_
  refine PW.iadd q_285_1008 ?_
  refine PW.sldE q_285_1009 (by rw [hL]; unfold vp_in; decide) e3 ?_
  refine PW.aload_n q_285_1010 rfl ?_
  refine PW.iload q_285_1011 rfl ?_
  refine PW.iconst q_285_1013 ?_
  refine PW.iadd q_285_1014 ?_
  refine PW.sldE q_285_1015 (by rw [hL]; unfold vp_in; decide) e4 ?_
  refine PW.aload_n q_285_1016 rfl ?_
  refine PW.iload q_285_1017 rfl ?_
  refine PW.iconst q_285_1019 ?_
  refine PW.iadd q_285_1020 ?_
  refine PW.sldE q_285_1021 (by rw [hL]; unfold vp_in; decide) e5 ?_
  refine PW.aload_n q_285_1022 rfl ?_
  refine PW.exit ?_
  refine PX.callX (as := [.ref 0, .int a1, .int a2, .int a3, .int a4, .int a5, .ref 310]) (rest := []) q_285_1023 rfl wc_near wc_ini ⟨by decide +kernel, by decide +kernel⟩ (show (parseMethodDescriptor (p_mY 283).desc).map (fun d => d.parameters.length) = some 7 from by decide +kernel) (by decide +kernel) (Nat.le_of_ble_eq_true rfl) (by decide) (by decide) (met_near G a1 a2 a3 a4 a5) ?_
  refine PX.of ?_
  refine PW.istore q_285_1026 (by decide) ?_
  refine PW.aload_n q_285_1028 rfl ?_
  refine PW.aload_n q_285_1029 rfl ?_
  refine PW.iload q_285_1030 rfl ?_
  refine PW.iconst q_285_1032 ?_
  refine PW.iadd q_285_1033 ?_
  refine PW.sldE q_285_1034 (by rw [hL]; unfold vp_in; decide) e1 ?_
  refine PW.aload_n q_285_1035 rfl ?_
  refine PW.iload q_285_1036 rfl ?_
  refine PW.iconst q_285_1038 ?_
  refine PW.iadd q_285_1039 ?_
  refine PW.sldE q_285_1040 (by rw [hL]; unfold vp_in; decide) e2 ?_
  refine PW.aload_n q_285_1041 rfl ?_
  refine PW.iload q_285_1042 rfl ?_
  refine PW.iconst q_285_1044 ?_
  refine PW.iadd q_285_1045 ?_
  refine PW.sldE q_285_1046 (by rw [hL]; unfold vp_in; decide) e3 ?_
  refine PW.aload_n q_285_1047 rfl ?_
  refine PW.iload q_285_1048 rfl ?_
  refine PW.iconst q_285_1050 ?_
  refine PW.iadd q_285_1051 ?_
  refine PW.sldE q_285_1052 (by rw [hL]; unfold vp_in; decide) e4 ?_
  refine PW.aload_n q_285_1053 rfl ?_
  refine PW.iload q_285_1054 rfl ?_
  refine PW.iconst q_285_1056 ?_
  refine PW.iadd q_285_1057 ?_
  refine PW.sldE q_285_1058 (by rw [hL]; unfold vp_in; decide) e5 ?_
  refine PW.callV (as := [_, _, _, _, _]) (rest := []) q_285_1059 rfl (by decide) rfl (by decide) rfl rfl (Nat.le_of_ble_eq_true rfl) (Nat.le_of_ble_eq_true rfl) (by decide) (by decide) ?_
  refine PW.aload_n q_236_0 rfl ?_
  refine PW.aload_n q_236_1 rfl ?_
  refine PW.iload_n q_236_2 rfl ?_
  refine PW.iload_n q_236_3 rfl ?_
  refine PW.iload_n q_236_4 rfl ?_
  refine PW.callV (as := [_, _, _]) (rest := [_]) q_236_5 rfl (by decide) rfl (by decide) rfl rfl (Nat.le_of_ble_eq_true rfl) (Nat.le_of_ble_eq_true rfl) (by decide) (by decide) ?_
  refine PW.aload_n q_232_0 rfl ?_
  refine PW.iload_n q_232_1 rfl ?_
  refine PW.iload_n q_232_2 rfl ?_
  refine PW.callV (as := [_, _]) (rest := []) q_232_3 rfl (by decide) rfl (by decide) rfl rfl (Nat.le_of_ble_eq_true rfl) (Nat.le_of_ble_eq_true rfl) (by decide) (by decide) ?_
  refine PW.aload_n q_198_0 rfl ?_
  refine PW.iload_n q_198_1 rfl ?_
  refine PW.callV (as := [_]) (rest := []) q_198_2 rfl (by decide) rfl (by decide) rfl rfl (Nat.le_of_ble_eq_true rfl) (Nat.le_of_ble_eq_true rfl) (by decide) (by decide) ?_
  refine PW.iload_n q_196_0 rfl ?_
  refine PW.iconst q_196_1 ?_
  refine PW.aload_n q_196_2 rfl ?_
  refine PW.getf q_196_3 rfl (by decide) rfl rfl ?_
  refine PW.iconst q_196_6 ?_
  refine PW.iald q_196_7 (by decide) rfl (by unfold vp_in; decide) ?_
  refine PW.iconst q_196_8 ?_
  refine PW.isub q_196_9 ?_
  refine PW.callS (as := [_, _, _]) (rest := []) q_196_10 rfl (by decide) rfl (Nat.le_of_ble_eq_true rfl) (Nat.le_of_ble_eq_true rfl) (by decide) (by decide) ?_
  refine PW.iload_n q_167_0 rfl ?_
  refine PW.iload_n q_167_1 rfl ?_
  refine PW.icmp_lt q_167_2 rfl (fun h0 => ?_) (fun h0 => ?_)
  · skip
    have h0 : a1.toInt < 0 := s_ltI h0
    refine PW.iconst q_167_14 ?_
    refine PW.zret q_167_15 rfl (by decide) (by decide) (by decide) ?_
    refine PW.zret q_196_13 rfl (by decide) (by decide) (by decide) ?_
    refine PW.if_eq q_198_5 rfl (fun _ => ?_) (fun q => absurd (by decide) q)
    refine PW.iconst q_198_25 ?_
    refine PW.zret q_198_26 rfl (by decide) (by decide) (by decide) ?_
    refine PW.if_eq q_232_6 rfl (fun _ => ?_) (fun q => absurd (by decide) q)
    refine PW.iconst q_232_80 ?_
    refine PW.zret q_232_81 rfl (by decide) (by decide) (by decide) ?_
    refine PW.if_eq q_236_8 rfl (fun _ => ?_) (fun q => absurd (by decide) q)
    refine PW.iconst q_236_32 ?_
    refine PW.goto q_236_33 rfl ?_
    refine PW.callV (as := [_]) (rest := []) q_236_37 rfl (by decide) rfl (by decide) rfl rfl (Nat.le_of_ble_eq_true rfl) (Nat.le_of_ble_eq_true rfl) (by decide) (by decide) ?_
    refine PW.aload_n q_162_0 rfl ?_
    refine PW.iload_n q_162_1 rfl ?_
    refine PW.if_eq q_162_2 rfl (fun q => absurd q (by decide)) (fun _ => ?_)
    refine PW.iconst q_162_5 ?_
    refine PW.goto q_162_6 rfl ?_
    refine PW.putf q_162_10 rfl (by decide) rfl rfl rfl (by decide) ?_
    refine PW.iload_n q_162_13 rfl ?_
    refine PW.zret q_162_14 rfl (by decide) (by decide) (by decide) ?_
    refine PW.if_eq q_236_40 rfl (fun q => absurd q (by decide)) (fun _ => ?_)
    refine PW.lconst q_236_43 ?_
    refine PW.lret q_236_44 rfl (by decide) (by decide) ?_
    refine PW.lstore q_285_1062 (by decide) ?_
    refine PW.aload_n q_285_1064 rfl ?_
    refine PW.callV (as := []) (rest := []) q_285_1065 rfl (by decide) rfl (by decide) rfl rfl (Nat.le_of_ble_eq_true rfl) (Nat.le_of_ble_eq_true rfl) (by decide) (by decide) ?_
    refine PW.aload_n q_161_0 rfl ?_
    refine PW.getf q_161_1 rfl (by decide) rfl rfl ?_
    refine PW.iret q_161_4 rfl (by decide) (by decide) ?_
    refine PW.iload q_285_1068 rfl ?_
    refine PW.icmp_eq q_285_1070 rfl (fun _ => ?_) (fun q => absurd (by decide) q)
    refine PW.iload q_285_1075 rfl ?_
    refine PW.if_ne q_285_1077 rfl (fun _ => ?_) (fun q => absurd q (by decide))
    refine PW.goto q_285_1091 rfl ?_
    refine PW.iinc q_285_1685 rfl (by decide) ?_
    refine PW.goto q_285_1688 rfl ?_
    refine PW.iload q_285_23 rfl ?_
    refine PW.aload_n q_285_25 rfl ?_
    refine PW.slen q_285_26 ?_
    refine PW.bipush q_285_27 ?_
    refine PW.isub q_285_29 ?_
    refine PW.topi (y := 0) (by rw [hL]; decide) ?_
    refine PW.icmp_gt q_285_30 rfl (fun _ => ?_) (fun q => absurd (by decide) q)
    refine PW.iconst q_285_1691 ?_
    exact PW.zret q_285_1692 rfl (by decide) (by decide) (by decide) rfl
  · skip
    have h0 : a1.toInt ≥ 0 := s_nltI h0
    refine PW.iload_n q_167_5 rfl ?_
    refine PW.iload_n q_167_6 rfl ?_
    refine PW.icmp_gt q_167_7 rfl (fun h1 => ?_) (fun h1 => ?_)
    · skip
      have h1 : a1.toInt > (-1) := s_gtI h1
      refine PW.iconst q_167_14 ?_
      refine PW.zret q_167_15 rfl (by decide) (by decide) (by decide) ?_
      refine PW.zret q_196_13 rfl (by decide) (by decide) (by decide) ?_
      refine PW.if_eq q_198_5 rfl (fun _ => ?_) (fun q => absurd (by decide) q)
      refine PW.iconst q_198_25 ?_
      refine PW.zret q_198_26 rfl (by decide) (by decide) (by decide) ?_
      refine PW.if_eq q_232_6 rfl (fun _ => ?_) (fun q => absurd (by decide) q)
      refine PW.iconst q_232_80 ?_
      refine PW.zret q_232_81 rfl (by decide) (by decide) (by decide) ?_
      refine PW.if_eq q_236_8 rfl (fun _ => ?_) (fun q => absurd (by decide) q)
      refine PW.iconst q_236_32 ?_
      refine PW.goto q_236_33 rfl ?_
      refine PW.callV (as := [_]) (rest := []) q_236_37 rfl (by decide) rfl (by decide) rfl rfl (Nat.le_of_ble_eq_true rfl) (Nat.le_of_ble_eq_true rfl) (by decide) (by decide) ?_
      refine PW.aload_n q_162_0 rfl ?_
      refine PW.iload_n q_162_1 rfl ?_
      refine PW.if_eq q_162_2 rfl (fun q => absurd q (by decide)) (fun _ => ?_)
      refine PW.iconst q_162_5 ?_
      refine PW.goto q_162_6 rfl ?_
      refine PW.putf q_162_10 rfl (by decide) rfl rfl rfl (by decide) ?_
      refine PW.iload_n q_162_13 rfl ?_
      refine PW.zret q_162_14 rfl (by decide) (by decide) (by decide) ?_
      refine PW.if_eq q_236_40 rfl (fun q => absurd q (by decide)) (fun _ => ?_)
      refine PW.lconst q_236_43 ?_
      refine PW.lret q_236_44 rfl (by decide) (by decide) ?_
      refine PW.lstore q_285_1062 (by decide) ?_
      refine PW.aload_n q_285_1064 rfl ?_
      refine PW.callV (as := []) (rest := []) q_285_1065 rfl (by decide) rfl (by decide) rfl rfl (Nat.le_of_ble_eq_true rfl) (Nat.le_of_ble_eq_true rfl) (by decide) (by decide) ?_
      refine PW.aload_n q_161_0 rfl ?_
      refine PW.getf q_161_1 rfl (by decide) rfl rfl ?_
      refine PW.iret q_161_4 rfl (by decide) (by decide) ?_
      refine PW.iload q_285_1068 rfl ?_
      refine PW.icmp_eq q_285_1070 rfl (fun _ => ?_) (fun q => absurd (by decide) q)
      refine PW.iload q_285_1075 rfl ?_
      refine PW.if_ne q_285_1077 rfl (fun _ => ?_) (fun q => absurd q (by decide))
      refine PW.goto q_285_1091 rfl ?_
      refine PW.iinc q_285_1685 rfl (by decide) ?_
      refine PW.goto q_285_1688 rfl ?_
      refine PW.iload q_285_23 rfl ?_
      refine PW.aload_n q_285_25 rfl ?_
      refine PW.slen q_285_26 ?_
      refine PW.bipush q_285_27 ?_
      refine PW.isub q_285_29 ?_
      refine PW.topi (y := 0) (by rw [hL]; decide) ?_
      refine PW.icmp_gt q_285_30 rfl (fun _ => ?_) (fun q => absurd (by decide) q)
      refine PW.iconst q_285_1691 ?_
      exact PW.zret q_285_1692 rfl (by decide) (by decide) (by decide) rfl
    · skip
      have h1 : a1.toInt ≤ (-1) := s_ngtI h1
      exact absurd trivial (by omega)
set_option maxRecDepth 100000 in
set_option maxHeartbeats 40000000 in
theorem thr_ends (G : pG) (a1 a2 a3 : Int32) : PW G false 20 140 1 6 (fun _ _ _ => False, fun pc' lv' st' N' M' ce' sl' => pc' = 10 ∧ st' = [] ∧ N' = 311 ∧ M' = f_M ∧ ce' = 0 ∧ sl' = 0) 0 (lv_args 0 [.ref 0, .int a1, .int a2, .int a3]) [] 311 f_M 0 0 := by
  refine PW.aload_n q_140_0 rfl ?_
  refine PW.iload_n q_140_1 rfl ?_
  refine PW.iload_n q_140_2 rfl ?_
  refine PW.iload_n q_140_3 rfl ?_
  refine PW.callV (as := [_, _, _]) (rest := []) q_140_4 rfl (by decide) rfl (by decide) rfl rfl (Nat.le_of_ble_eq_true rfl) (Nat.le_of_ble_eq_true rfl) (by decide) (by decide) ?_
  refine PW.aload_n q_159_0 rfl ?_
  refine PW.iload_n q_159_1 rfl ?_
  refine PW.callV (as := [_]) (rest := []) q_159_2 rfl (by decide) rfl (by decide) rfl rfl (Nat.le_of_ble_eq_true rfl) (Nat.le_of_ble_eq_true rfl) (by decide) (by decide) ?_
  refine PW.iload_n q_143_0 rfl ?_
  refine PW.if_lt q_143_1 rfl (fun h0 => ?_) (fun h0 => ?_)
  · skip
    have h0 : a1.toInt < 0 := s_ltI h0
    refine PW.iconst q_143_22 ?_
    refine PW.zret q_143_23 rfl (by decide) (by decide) (by decide) ?_
    refine PW.if_eq q_159_5 rfl (fun _ => ?_) (fun q => absurd (by decide) q)
    refine PW.iconst q_159_27 ?_
    refine PW.zret q_159_28 rfl (by decide) (by decide) (by decide) ?_
    refine PW.if_ne q_140_7 rfl (fun q => absurd (by decide) q) (fun _ => ?_)
    exact PW.exit ⟨rfl, rfl, rfl, rfl, rfl, rfl⟩
  · skip
    have h0 : a1.toInt ≥ 0 := s_nltI h0
    refine PW.iload_n q_143_4 rfl ?_
    refine PW.aload_n q_143_5 rfl ?_
    refine PW.getf q_143_6 rfl (by decide) rfl rfl ?_
    refine PW.getN q_143_9 rfl (by decide) rfl rfl ?_
    refine PW.getN q_143_12 rfl (by decide) rfl rfl ?_
    refine PW.icmp_ge q_143_15 rfl (fun h1 => ?_) (fun h1 => ?_)
    · skip
      have h1 : a1.toInt ≥ 0 := s_geI h1
      refine PW.iconst q_143_22 ?_
      refine PW.zret q_143_23 rfl (by decide) (by decide) (by decide) ?_
      refine PW.if_eq q_159_5 rfl (fun _ => ?_) (fun q => absurd (by decide) q)
      refine PW.iconst q_159_27 ?_
      refine PW.zret q_159_28 rfl (by decide) (by decide) (by decide) ?_
      refine PW.if_ne q_140_7 rfl (fun q => absurd (by decide) q) (fun _ => ?_)
      exact PW.exit ⟨rfl, rfl, rfl, rfl, rfl, rfl⟩
    · skip
      have h1 : a1.toInt < 0 := s_ngeI h1
      exact absurd trivial (by omega)
set_option maxRecDepth 100000 in
set_option maxHeartbeats 40000000 in
theorem cat_ends (G : pG) (a1 a2 a3 : Int32) : PW G false 21 284 1 6 (fun _ _ _ => False, fun pc' lv' st' N' M' ce' sl' => pc' = 7 ∧ st' = ([.int a1, .int a2, .int a3] : List Value).reverse ++ .ref 0 :: [.int (Int32.ofInt 0), .ref 310] ∧ N' = 311 ∧ M' = f_M ∧ ce' = 0 ∧ sl' = 0) 0 (lv_args 0 [.ref 0, .int a1, .int a2, .int a3, .ref 310]) [] 311 f_M 0 0 := by
  refine PW.aload q_284_0 rfl ?_
  refine PW.iconst q_284_2 ?_
  refine PW.aload_n q_284_3 rfl ?_
  refine PW.iload_n q_284_4 rfl ?_
  refine PW.iload_n q_284_5 rfl ?_
  refine PW.iload_n q_284_6 rfl ?_
  exact PW.exit ⟨rfl, rfl, rfl, rfl, rfl, rfl⟩
theorem wc_ends : Cond.codeWith (p_mY 284) (p_mC 284) (p_mL 284) (p_mR 284) [(0, 12, 15, 13)] ∈ p_GW := p_gi (List.mem_of_getElem? (i := 1365) (by decide +kernel)) rfl
set_option maxRecDepth 100000 in
set_option maxHeartbeats 40000000 in
theorem met_ends (G : pG) (a1 a2 a3 : Int32) (l : Launch) (hl0 : l.stackTraces = false) : vx_Met l (p_mY 284) (xc_WS 284 [(0, 12, 15, 13)]) (xc_rm 21) (xc_Pc G [.ref 0, .int a1, .int a2, .int a3, .ref 310] 311 f_M) (p_Qc G false (xc_K 311 f_M)) (fun _ _ _ => False) 1 6 (p_A G) :=
  xc_catcher (d := 20) (kx := 140) (as2 := [.int a1, .int a2, .int a3]) (rest := [.int (Int32.ofInt 0), .ref 310]) (pI := 7) (nS := 5) (by decide +kernel) (by decide +kernel) (by decide +kernel) wc_ends (by decide +kernel) (Nat.le_of_ble_eq_true rfl)
    (fun l hl0 => xc_thrower (pn := 10) (by decide) (by decide +kernel) (by decide +kernel) (Nat.le_of_ble_eq_true rfl) (p_tb_ok q_140_10) (p_tb_ok q_140_13) (p_tb_ok q_140_14) (p_tb_ok q_140_17) (thr_ends G a1 a2 a3) l hl0)
    q_284_7 rfl (by decide) rfl (by decide) rfl rfl (Nat.le_of_ble_eq_true rfl) (by decide) q_284_15 (by decide) q_284_17 q_284_18 (cat_ends G a1 a2 a3) l hl0
set_option maxRecDepth 100000 in
set_option maxHeartbeats 40000000 in
theorem law_ends (G : pG) (hL : G.2.2.2.2.1 = 6) (a1 a2 a3 a4 a5 : Int32) (e1 : G.2.2.2.2.2 1 = a1) (e2 : G.2.2.2.2.2 2 = a2) (e3 : G.2.2.2.2.2 3 = a3) (e4 : G.2.2.2.2.2 4 = a4) (e5 : G.2.2.2.2.2 5 = a5) : PX G false 22 285 400 9000 law_K 1094 law_lv [] 311 f_M 311 8628 := by
  refine PX.run ?_
  refine PW.aload_n q_285_1094 rfl ?_
  refine PW.aload_n q_285_1095 rfl ?_
  refine PW.iload q_285_1096 rfl ?_
  refine PW.iconst q_285_1098 ?_
  refine PW.iadd q_285_1099 ?_
  refine PW.sldE q_285_1100 (by rw [hL]; unfold vp_in; decide) e1 ?_
  refine PW.aload_n q_285_1101 rfl ?_
  refine PW.iload q_285_1102 rfl ?_
  refine PW.iconst q_285_1104 ?_
  refine PW.iadd q_285_1105 ?_
  refine PW.sldE q_285_1106 (by rw [hL]; unfold vp_in; decide) e2 ?_
  refine PW.aload_n q_285_1107 rfl ?_
  refine PW.iload q_285_1108 rfl ?_
  refine PW.iconst q_285_1110 ?_
  refine PW.iadd q_285_1111 ?_
  refine PW.sldE q_285_1112 (by rw [hL]; unfold vp_in; decide) e3 ?_
  refine PW.aload_n q_285_1113 rfl ?_
  refine PW.exit ?_
  refine PX.callX (as := [.ref 0, .int a1, .int a2, .int a3, .ref 310]) (rest := []) q_285_1114 rfl wc_ends wc_ini ⟨by decide +kernel, by decide +kernel⟩ (show (parseMethodDescriptor (p_mY 284).desc).map (fun d => d.parameters.length) = some 5 from by decide +kernel) (by decide +kernel) (Nat.le_of_ble_eq_true rfl) (by decide) (by decide) (met_ends G a1 a2 a3) ?_
  refine PX.of ?_
  refine PW.istore q_285_1117 (by decide) ?_
  refine PW.aload_n q_285_1119 rfl ?_
  refine PW.aload_n q_285_1120 rfl ?_
  refine PW.iload q_285_1121 rfl ?_
  refine PW.iconst q_285_1123 ?_
  refine PW.iadd q_285_1124 ?_
  refine PW.sldE q_285_1125 (by rw [hL]; unfold vp_in; decide) e1 ?_
  refine PW.aload_n q_285_1126 rfl ?_
  refine PW.iload q_285_1127 rfl ?_
  refine PW.iconst q_285_1129 ?_
  refine PW.iadd q_285_1130 ?_
  refine PW.sldE q_285_1131 (by rw [hL]; unfold vp_in; decide) e2 ?_
  refine PW.aload_n q_285_1132 rfl ?_
  refine PW.iload q_285_1133 rfl ?_
  refine PW.iconst q_285_1135 ?_
  refine PW.iadd q_285_1136 ?_
  refine PW.sldE q_285_1137 (by rw [hL]; unfold vp_in; decide) e3 ?_
  refine PW.callV (as := [_, _, _]) (rest := []) q_285_1138 rfl (by decide) rfl (by decide) rfl rfl (Nat.le_of_ble_eq_true rfl) (Nat.le_of_ble_eq_true rfl) (by decide) (by decide) ?_
  refine PW.aload_n q_237_0 rfl ?_
  refine PW.aload_n q_237_1 rfl ?_
  refine PW.iload_n q_237_2 rfl ?_
  refine PW.iload_n q_237_3 rfl ?_
  refine PW.iload_n q_237_4 rfl ?_
  refine PW.callV (as := [_, _, _]) (rest := [_]) q_237_5 rfl (by decide) rfl (by decide) rfl rfl (Nat.le_of_ble_eq_true rfl) (Nat.le_of_ble_eq_true rfl) (by decide) (by decide) ?_
  refine PW.aload_n q_232_0 rfl ?_
  refine PW.iload_n q_232_1 rfl ?_
  refine PW.iload_n q_232_2 rfl ?_
  refine PW.callV (as := [_, _]) (rest := []) q_232_3 rfl (by decide) rfl (by decide) rfl rfl (Nat.le_of_ble_eq_true rfl) (Nat.le_of_ble_eq_true rfl) (by decide) (by decide) ?_
  refine PW.aload_n q_198_0 rfl ?_
  refine PW.iload_n q_198_1 rfl ?_
  refine PW.callV (as := [_]) (rest := []) q_198_2 rfl (by decide) rfl (by decide) rfl rfl (Nat.le_of_ble_eq_true rfl) (Nat.le_of_ble_eq_true rfl) (by decide) (by decide) ?_
  refine PW.iload_n q_196_0 rfl ?_
  refine PW.iconst q_196_1 ?_
  refine PW.aload_n q_196_2 rfl ?_
  refine PW.getf q_196_3 rfl (by decide) rfl rfl ?_
  refine PW.iconst q_196_6 ?_
  refine PW.iald q_196_7 (by decide) rfl (by unfold vp_in; decide) ?_
  refine PW.iconst q_196_8 ?_
  refine PW.isub q_196_9 ?_
  refine PW.callS (as := [_, _, _]) (rest := []) q_196_10 rfl (by decide) rfl (Nat.le_of_ble_eq_true rfl) (Nat.le_of_ble_eq_true rfl) (by decide) (by decide) ?_
  refine PW.iload_n q_167_0 rfl ?_
  refine PW.iload_n q_167_1 rfl ?_
  refine PW.icmp_lt q_167_2 rfl (fun h0 => ?_) (fun h0 => ?_)
  · skip
    have h0 : a1.toInt < 0 := s_ltI h0
    refine PW.iconst q_167_14 ?_
    refine PW.zret q_167_15 rfl (by decide) (by decide) (by decide) ?_
    refine PW.zret q_196_13 rfl (by decide) (by decide) (by decide) ?_
    refine PW.if_eq q_198_5 rfl (fun _ => ?_) (fun q => absurd (by decide) q)
    refine PW.iconst q_198_25 ?_
    refine PW.zret q_198_26 rfl (by decide) (by decide) (by decide) ?_
    refine PW.if_eq q_232_6 rfl (fun _ => ?_) (fun q => absurd (by decide) q)
    refine PW.iconst q_232_80 ?_
    refine PW.zret q_232_81 rfl (by decide) (by decide) (by decide) ?_
    refine PW.if_ne q_237_8 rfl (fun q => absurd (by decide) q) (fun _ => ?_)
    refine PW.iconst q_237_11 ?_
    refine PW.goto q_237_12 rfl ?_
    refine PW.callV (as := [_]) (rest := []) q_237_16 rfl (by decide) rfl (by decide) rfl rfl (Nat.le_of_ble_eq_true rfl) (Nat.le_of_ble_eq_true rfl) (by decide) (by decide) ?_
    refine PW.aload_n q_162_0 rfl ?_
    refine PW.iload_n q_162_1 rfl ?_
    refine PW.if_eq q_162_2 rfl (fun q => absurd q (by decide)) (fun _ => ?_)
    refine PW.iconst q_162_5 ?_
    refine PW.goto q_162_6 rfl ?_
    refine PW.putf q_162_10 rfl (by decide) rfl rfl rfl (by decide) ?_
    refine PW.iload_n q_162_13 rfl ?_
    refine PW.zret q_162_14 rfl (by decide) (by decide) (by decide) ?_
    refine PW.if_eq q_237_19 rfl (fun q => absurd q (by decide)) (fun _ => ?_)
    refine PW.iconst q_237_22 ?_
    refine PW.iret q_237_23 rfl (by decide) (by decide) ?_
    refine PW.istore q_285_1141 (by decide) ?_
    refine PW.aload_n q_285_1143 rfl ?_
    refine PW.callV (as := []) (rest := []) q_285_1144 rfl (by decide) rfl (by decide) rfl rfl (Nat.le_of_ble_eq_true rfl) (Nat.le_of_ble_eq_true rfl) (by decide) (by decide) ?_
    refine PW.aload_n q_161_0 rfl ?_
    refine PW.getf q_161_1 rfl (by decide) rfl rfl ?_
    refine PW.iret q_161_4 rfl (by decide) (by decide) ?_
    refine PW.iload q_285_1147 rfl ?_
    refine PW.icmp_eq q_285_1149 rfl (fun _ => ?_) (fun q => absurd (by decide) q)
    refine PW.iload q_285_1154 rfl ?_
    refine PW.if_ne q_285_1156 rfl (fun _ => ?_) (fun q => absurd q (by decide))
    refine PW.goto q_285_1171 rfl ?_
    refine PW.iinc q_285_1685 rfl (by decide) ?_
    refine PW.goto q_285_1688 rfl ?_
    refine PW.iload q_285_23 rfl ?_
    refine PW.aload_n q_285_25 rfl ?_
    refine PW.slen q_285_26 ?_
    refine PW.bipush q_285_27 ?_
    refine PW.isub q_285_29 ?_
    refine PW.topi (y := 0) (by rw [hL]; decide) ?_
    refine PW.icmp_gt q_285_30 rfl (fun _ => ?_) (fun q => absurd (by decide) q)
    refine PW.iconst q_285_1691 ?_
    exact PW.zret q_285_1692 rfl (by decide) (by decide) (by decide) rfl
  · skip
    have h0 : a1.toInt ≥ 0 := s_nltI h0
    refine PW.iload_n q_167_5 rfl ?_
    refine PW.iload_n q_167_6 rfl ?_
    refine PW.icmp_gt q_167_7 rfl (fun h1 => ?_) (fun h1 => ?_)
    · skip
      have h1 : a1.toInt > (-1) := s_gtI h1
      refine PW.iconst q_167_14 ?_
      refine PW.zret q_167_15 rfl (by decide) (by decide) (by decide) ?_
      refine PW.zret q_196_13 rfl (by decide) (by decide) (by decide) ?_
      refine PW.if_eq q_198_5 rfl (fun _ => ?_) (fun q => absurd (by decide) q)
      refine PW.iconst q_198_25 ?_
      refine PW.zret q_198_26 rfl (by decide) (by decide) (by decide) ?_
      refine PW.if_eq q_232_6 rfl (fun _ => ?_) (fun q => absurd (by decide) q)
      refine PW.iconst q_232_80 ?_
      refine PW.zret q_232_81 rfl (by decide) (by decide) (by decide) ?_
      refine PW.if_ne q_237_8 rfl (fun q => absurd (by decide) q) (fun _ => ?_)
      refine PW.iconst q_237_11 ?_
      refine PW.goto q_237_12 rfl ?_
      refine PW.callV (as := [_]) (rest := []) q_237_16 rfl (by decide) rfl (by decide) rfl rfl (Nat.le_of_ble_eq_true rfl) (Nat.le_of_ble_eq_true rfl) (by decide) (by decide) ?_
      refine PW.aload_n q_162_0 rfl ?_
      refine PW.iload_n q_162_1 rfl ?_
      refine PW.if_eq q_162_2 rfl (fun q => absurd q (by decide)) (fun _ => ?_)
      refine PW.iconst q_162_5 ?_
      refine PW.goto q_162_6 rfl ?_
      refine PW.putf q_162_10 rfl (by decide) rfl rfl rfl (by decide) ?_
      refine PW.iload_n q_162_13 rfl ?_
      refine PW.zret q_162_14 rfl (by decide) (by decide) (by decide) ?_
      refine PW.if_eq q_237_19 rfl (fun q => absurd q (by decide)) (fun _ => ?_)
      refine PW.iconst q_237_22 ?_
      refine PW.iret q_237_23 rfl (by decide) (by decide) ?_
      refine PW.istore q_285_1141 (by decide) ?_
      refine PW.aload_n q_285_1143 rfl ?_
      refine PW.callV (as := []) (rest := []) q_285_1144 rfl (by decide) rfl (by decide) rfl rfl (Nat.le_of_ble_eq_true rfl) (Nat.le_of_ble_eq_true rfl) (by decide) (by decide) ?_
      refine PW.aload_n q_161_0 rfl ?_
      refine PW.getf q_161_1 rfl (by decide) rfl rfl ?_
      refine PW.iret q_161_4 rfl (by decide) (by decide) ?_
      refine PW.iload q_285_1147 rfl ?_
      refine PW.icmp_eq q_285_1149 rfl (fun _ => ?_) (fun q => absurd (by decide) q)
      refine PW.iload q_285_1154 rfl ?_
      refine PW.if_ne q_285_1156 rfl (fun _ => ?_) (fun q => absurd q (by decide))
      refine PW.goto q_285_1171 rfl ?_
      refine PW.iinc q_285_1685 rfl (by decide) ?_
      refine PW.goto q_285_1688 rfl ?_
      refine PW.iload q_285_23 rfl ?_
      refine PW.aload_n q_285_25 rfl ?_
      refine PW.slen q_285_26 ?_
      refine PW.bipush q_285_27 ?_
      refine PW.isub q_285_29 ?_
      refine PW.topi (y := 0) (by rw [hL]; decide) ?_
      refine PW.icmp_gt q_285_30 rfl (fun _ => ?_) (fun q => absurd (by decide) q)
      refine PW.iconst q_285_1691 ?_
      exact PW.zret q_285_1692 rfl (by decide) (by decide) (by decide) rfl
    · skip
      have h1 : a1.toInt ≤ (-1) := s_ngtI h1
      exact absurd trivial (by omega)
