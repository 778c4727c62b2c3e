theorem q_284_228 : p_tb 284 228 = some (.aload_n 1, 1) := by decide +kernel
theorem q_284_229 : p_tb 284 229 = some (.aload_n 0, 1) := by decide +kernel
theorem q_284_230 : p_tb 284 230 = some (.iload 4, 2) := by decide +kernel
theorem q_284_232 : p_tb 284 232 = some (.iconst 1, 1) := by decide +kernel
theorem q_284_233 : p_tb 284 233 = some (.iadd, 1) := by decide +kernel
theorem q_284_234 : p_tb 284 234 = some (.iaload, 1) := by decide +kernel
theorem q_284_235 : p_tb 284 235 = some (.aload_n 0, 1) := by decide +kernel
theorem q_284_236 : p_tb 284 236 = some (.iload 4, 2) := by decide +kernel
theorem q_284_238 : p_tb 284 238 = some (.iconst 2, 1) := by decide +kernel
theorem q_284_239 : p_tb 284 239 = some (.iadd, 1) := by decide +kernel
theorem q_284_240 : p_tb 284 240 = some (.iaload, 1) := by decide +kernel
theorem q_284_241 : p_tb 284 241 = some (.aload_n 0, 1) := by decide +kernel
theorem q_284_242 : p_tb 284 242 = some (.iload 4, 2) := by decide +kernel
theorem q_284_244 : p_tb 284 244 = some (.iconst 3, 1) := by decide +kernel
theorem q_284_245 : p_tb 284 245 = some (.iadd, 1) := by decide +kernel
theorem q_284_246 : p_tb 284 246 = some (.iaload, 1) := by decide +kernel
theorem q_284_247 : p_tb 284 247 = some (.aload_n 0, 1) := by decide +kernel
theorem q_284_248 : p_tb 284 248 = some (.iload 4, 2) := by decide +kernel
theorem q_284_250 : p_tb 284 250 = some (.iconst 4, 1) := by decide +kernel
theorem q_284_251 : p_tb 284 251 = some (.iadd, 1) := by decide +kernel
theorem q_284_252 : p_tb 284 252 = some (.iaload, 1) := by decide +kernel
theorem q_284_253 : p_tb 284 253 = some (.aload_n 0, 1) := by decide +kernel
theorem q_284_254 : p_tb 284 254 = some (.iload 4, 2) := by decide +kernel
theorem q_284_256 : p_tb 284 256 = some (.iconst 5, 1) := by decide +kernel
theorem q_284_257 : p_tb 284 257 = some (.iadd, 1) := by decide +kernel
theorem q_284_258 : p_tb 284 258 = some (.iaload, 1) := by decide +kernel
theorem q_284_259 : p_tb 284 259 = some (.invokevirtual 34, 3) := by decide +kernel
theorem t_mv_284_34 : p_f2 p_mv (p_mK 284) 34 = some 100 := by decide +kernel
theorem q_284_262 : p_tb 284 262 = some (.pop, 1) := by decide +kernel
theorem q_284_263 : p_tb 284 263 = some (.aload_n 2, 1) := by decide +kernel
theorem q_284_264 : p_tb 284 264 = some (.aload_n 0, 1) := by decide +kernel
theorem q_284_265 : p_tb 284 265 = some (.iload 4, 2) := by decide +kernel
theorem q_284_267 : p_tb 284 267 = some (.iconst 1, 1) := by decide +kernel
theorem q_284_268 : p_tb 284 268 = some (.iadd, 1) := by decide +kernel
theorem q_284_269 : p_tb 284 269 = some (.iaload, 1) := by decide +kernel
theorem q_284_270 : p_tb 284 270 = some (.aload_n 0, 1) := by decide +kernel
theorem q_284_271 : p_tb 284 271 = some (.iload 4, 2) := by decide +kernel
theorem q_284_273 : p_tb 284 273 = some (.iconst 2, 1) := by decide +kernel
theorem q_284_274 : p_tb 284 274 = some (.iadd, 1) := by decide +kernel
theorem q_284_275 : p_tb 284 275 = some (.iaload, 1) := by decide +kernel
theorem q_284_276 : p_tb 284 276 = some (.aload_n 0, 1) := by decide +kernel
theorem q_284_277 : p_tb 284 277 = some (.iload 4, 2) := by decide +kernel
theorem q_284_279 : p_tb 284 279 = some (.iconst 3, 1) := by decide +kernel
theorem q_284_280 : p_tb 284 280 = some (.iadd, 1) := by decide +kernel
theorem q_284_281 : p_tb 284 281 = some (.iaload, 1) := by decide +kernel
theorem q_284_282 : p_tb 284 282 = some (.aload_n 0, 1) := by decide +kernel
theorem q_284_283 : p_tb 284 283 = some (.iload 4, 2) := by decide +kernel
theorem q_284_285 : p_tb 284 285 = some (.iconst 4, 1) := by decide +kernel
theorem q_284_286 : p_tb 284 286 = some (.iadd, 1) := by decide +kernel
theorem q_284_287 : p_tb 284 287 = some (.iaload, 1) := by decide +kernel
theorem q_284_288 : p_tb 284 288 = some (.aload_n 0, 1) := by decide +kernel
theorem q_284_289 : p_tb 284 289 = some (.iload 4, 2) := by decide +kernel
theorem q_284_291 : p_tb 284 291 = some (.iconst 5, 1) := by decide +kernel
theorem q_284_292 : p_tb 284 292 = some (.iadd, 1) := by decide +kernel
theorem q_284_293 : p_tb 284 293 = some (.iaload, 1) := by decide +kernel
theorem q_284_294 : p_tb 284 294 = some (.invokevirtual 38, 3) := by decide +kernel
theorem t_mv_284_38 : p_f2 p_mv (p_mK 284) 38 = some 162 := by decide +kernel
theorem q_284_297 : p_tb 284 297 = some (.pop, 1) := by decide +kernel
theorem q_284_298 : p_tb 284 298 = some (.goto 1248, 3) := by decide +kernel
theorem q_284_1546 : p_tb 284 1546 = some (.iinc 4 6, 3) := by decide +kernel
theorem q_284_1549 : p_tb 284 1549 = some (.goto (-1526), 3) := by decide +kernel
theorem q_284_301 : p_tb 284 301 = some (.aload_n 1, 1) := by decide +kernel
theorem q_284_302 : p_tb 284 302 = some (.aload_n 0, 1) := by decide +kernel
theorem q_284_303 : p_tb 284 303 = some (.iload 4, 2) := by decide +kernel
theorem q_284_305 : p_tb 284 305 = some (.iconst 1, 1) := by decide +kernel
theorem q_284_306 : p_tb 284 306 = some (.iadd, 1) := by decide +kernel
theorem q_284_307 : p_tb 284 307 = some (.iaload, 1) := by decide +kernel
theorem q_284_308 : p_tb 284 308 = some (.invokevirtual 39, 3) := by decide +kernel
theorem t_mv_284_39 : p_f2 p_mv (p_mK 284) 39 = some 101 := by decide +kernel
theorem q_284_311 : p_tb 284 311 = some (.pop, 1) := by decide +kernel
theorem q_284_312 : p_tb 284 312 = some (.aload_n 2, 1) := by decide +kernel
theorem q_284_313 : p_tb 284 313 = some (.aload_n 0, 1) := by decide +kernel
theorem q_284_314 : p_tb 284 314 = some (.iload 4, 2) := by decide +kernel
theorem q_284_316 : p_tb 284 316 = some (.iconst 1, 1) := by decide +kernel
theorem q_284_317 : p_tb 284 317 = some (.iadd, 1) := by decide +kernel
theorem q_284_318 : p_tb 284 318 = some (.iaload, 1) := by decide +kernel
theorem q_284_319 : p_tb 284 319 = some (.invokevirtual 43, 3) := by decide +kernel
theorem t_mv_284_43 : p_f2 p_mv (p_mK 284) 43 = some 164 := by decide +kernel
theorem q_284_322 : p_tb 284 322 = some (.pop, 1) := by decide +kernel
theorem q_284_323 : p_tb 284 323 = some (.goto 1223, 3) := by decide +kernel
theorem q_284_326 : p_tb 284 326 = some (.aload_n 1, 1) := by decide +kernel
theorem q_284_327 : p_tb 284 327 = some (.invokevirtual 44, 3) := by decide +kernel
theorem t_mv_284_44 : p_f2 p_mv (p_mK 284) 44 = some 102 := by decide +kernel
theorem q_284_330 : p_tb 284 330 = some (.pop, 1) := by decide +kernel
theorem q_284_331 : p_tb 284 331 = some (.aload_n 2, 1) := by decide +kernel
theorem q_284_332 : p_tb 284 332 = some (.invokevirtual 48, 3) := by decide +kernel
theorem t_mv_284_48 : p_f2 p_mv (p_mK 284) 48 = some 193 := by decide +kernel
theorem q_284_335 : p_tb 284 335 = some (.pop, 1) := by decide +kernel
theorem q_284_336 : p_tb 284 336 = some (.goto 1210, 3) := by decide +kernel
theorem q_284_339 : p_tb 284 339 = some (.aload_n 1, 1) := by decide +kernel
theorem q_284_340 : p_tb 284 340 = some (.invokevirtual 49, 3) := by decide +kernel
theorem t_mv_284_49 : p_f2 p_mv (p_mK 284) 49 = some 103 := by decide +kernel
theorem q_284_343 : p_tb 284 343 = some (.aload_n 2, 1) := by decide +kernel
theorem q_284_344 : p_tb 284 344 = some (.invokevirtual 52, 3) := by decide +kernel
theorem t_mv_284_52 : p_f2 p_mv (p_mK 284) 52 = some 194 := by decide +kernel
theorem q_284_347 : p_tb 284 347 = some (.if_icmp .eq 1199, 3) := by decide +kernel
theorem q_284_352 : p_tb 284 352 = some (.aload_n 1, 1) := by decide +kernel
theorem q_284_353 : p_tb 284 353 = some (.aload_n 0, 1) := by decide +kernel
theorem q_284_354 : p_tb 284 354 = some (.iload 4, 2) := by decide +kernel
theorem q_284_356 : p_tb 284 356 = some (.iconst 1, 1) := by decide +kernel
theorem q_284_357 : p_tb 284 357 = some (.iadd, 1) := by decide +kernel
theorem q_284_358 : p_tb 284 358 = some (.iaload, 1) := by decide +kernel
theorem q_284_359 : p_tb 284 359 = some (.aload_n 0, 1) := by decide +kernel
theorem q_284_360 : p_tb 284 360 = some (.iload 4, 2) := by decide +kernel
theorem q_284_362 : p_tb 284 362 = some (.iconst 2, 1) := by decide +kernel
theorem q_284_363 : p_tb 284 363 = some (.iadd, 1) := by decide +kernel
theorem q_284_364 : p_tb 284 364 = some (.iaload, 1) := by decide +kernel
theorem q_284_365 : p_tb 284 365 = some (.aload_n 3, 1) := by decide +kernel
theorem q_284_366 : p_tb 284 366 = some (.invokestatic 53, 3) := by decide +kernel
theorem t_ms_284_53 : p_f2 p_ms (p_mK 284) 53 = some 279 := by decide +kernel
theorem q_284_369 : p_tb 284 369 = some (.istore 5, 2) := by decide +kernel
theorem q_284_371 : p_tb 284 371 = some (.aload_n 2, 1) := by decide +kernel
theorem q_284_372 : p_tb 284 372 = some (.aload_n 0, 1) := by decide +kernel
theorem q_284_373 : p_tb 284 373 = some (.iload 4, 2) := by decide +kernel
theorem q_284_375 : p_tb 284 375 = some (.iconst 1, 1) := by decide +kernel
theorem q_284_376 : p_tb 284 376 = some (.iadd, 1) := by decide +kernel
theorem q_284_377 : p_tb 284 377 = some (.iaload, 1) := by decide +kernel
theorem q_284_378 : p_tb 284 378 = some (.aload_n 0, 1) := by decide +kernel
theorem q_284_379 : p_tb 284 379 = some (.iload 4, 2) := by decide +kernel
theorem q_284_381 : p_tb 284 381 = some (.iconst 2, 1) := by decide +kernel
theorem q_284_382 : p_tb 284 382 = some (.iadd, 1) := by decide +kernel
theorem q_284_383 : p_tb 284 383 = some (.iaload, 1) := by decide +kernel
theorem q_284_384 : p_tb 284 384 = some (.invokevirtual 58, 3) := by decide +kernel
theorem t_mv_284_58 : p_f2 p_mv (p_mK 284) 58 = some 199 := by decide +kernel
theorem q_284_387 : p_tb 284 387 = some (.istore 6, 2) := by decide +kernel
theorem q_284_389 : p_tb 284 389 = some (.goto 1157, 3) := by decide +kernel
theorem q_284_392 : p_tb 284 392 = some (.aload_n 1, 1) := by decide +kernel
theorem q_284_393 : p_tb 284 393 = some (.aload_n 0, 1) := by decide +kernel
theorem q_284_394 : p_tb 284 394 = some (.iload 4, 2) := by decide +kernel
theorem q_284_396 : p_tb 284 396 = some (.iconst 1, 1) := by decide +kernel
theorem q_284_397 : p_tb 284 397 = some (.iadd, 1) := by decide +kernel
theorem q_284_398 : p_tb 284 398 = some (.iaload, 1) := by decide +kernel
theorem q_284_399 : p_tb 284 399 = some (.aload_n 0, 1) := by decide +kernel
theorem q_284_400 : p_tb 284 400 = some (.iload 4, 2) := by decide +kernel
theorem q_284_402 : p_tb 284 402 = some (.iconst 2, 1) := by decide +kernel
theorem q_284_403 : p_tb 284 403 = some (.iadd, 1) := by decide +kernel
theorem q_284_404 : p_tb 284 404 = some (.iaload, 1) := by decide +kernel
theorem q_284_405 : p_tb 284 405 = some (.aload_n 3, 1) := by decide +kernel
theorem q_284_406 : p_tb 284 406 = some (.invokestatic 59, 3) := by decide +kernel
theorem t_ms_284_59 : p_f2 p_ms (p_mK 284) 59 = some 280 := by decide +kernel
theorem q_284_409 : p_tb 284 409 = some (.istore 5, 2) := by decide +kernel
theorem q_284_411 : p_tb 284 411 = some (.aload_n 2, 1) := by decide +kernel
theorem q_284_412 : p_tb 284 412 = some (.aload_n 0, 1) := by decide +kernel
theorem q_284_413 : p_tb 284 413 = some (.iload 4, 2) := by decide +kernel
theorem q_284_415 : p_tb 284 415 = some (.iconst 1, 1) := by decide +kernel
theorem q_284_416 : p_tb 284 416 = some (.iadd, 1) := by decide +kernel
theorem q_284_417 : p_tb 284 417 = some (.iaload, 1) := by decide +kernel
theorem q_284_418 : p_tb 284 418 = some (.aload_n 0, 1) := by decide +kernel
theorem q_284_419 : p_tb 284 419 = some (.iload 4, 2) := by decide +kernel
theorem q_284_421 : p_tb 284 421 = some (.iconst 2, 1) := by decide +kernel
theorem q_284_422 : p_tb 284 422 = some (.iadd, 1) := by decide +kernel
theorem q_284_423 : p_tb 284 423 = some (.iaload, 1) := by decide +kernel
theorem q_284_424 : p_tb 284 424 = some (.invokevirtual 61, 3) := by decide +kernel
theorem t_mv_284_61 : p_f2 p_mv (p_mK 284) 61 = some 200 := by decide +kernel
theorem q_284_427 : p_tb 284 427 = some (.istore 6, 2) := by decide +kernel
theorem q_284_429 : p_tb 284 429 = some (.goto 1117, 3) := by decide +kernel
theorem q_284_432 : p_tb 284 432 = some (.aload_n 1, 1) := by decide +kernel
theorem q_284_433 : p_tb 284 433 = some (.aload_n 0, 1) := by decide +kernel
theorem q_284_434 : p_tb 284 434 = some (.iload 4, 2) := by decide +kernel
theorem q_284_436 : p_tb 284 436 = some (.iconst 1, 1) := by decide +kernel
theorem q_284_437 : p_tb 284 437 = some (.iadd, 1) := by decide +kernel
theorem q_284_438 : p_tb 284 438 = some (.iaload, 1) := by decide +kernel
theorem q_284_439 : p_tb 284 439 = some (.invokevirtual 62, 3) := by decide +kernel
theorem t_mv_284_62 : p_f2 p_mv (p_mK 284) 62 = some 110 := by decide +kernel
theorem q_284_442 : p_tb 284 442 = some (.pop, 1) := by decide +kernel
theorem q_284_443 : p_tb 284 443 = some (.aload_n 2, 1) := by decide +kernel
theorem q_284_444 : p_tb 284 444 = some (.aload_n 0, 1) := by decide +kernel
theorem q_284_445 : p_tb 284 445 = some (.iload 4, 2) := by decide +kernel
theorem q_284_447 : p_tb 284 447 = some (.iconst 1, 1) := by decide +kernel
theorem q_284_448 : p_tb 284 448 = some (.iadd, 1) := by decide +kernel
theorem q_284_449 : p_tb 284 449 = some (.iaload, 1) := by decide +kernel
theorem q_284_450 : p_tb 284 450 = some (.invokevirtual 66, 3) := by decide +kernel
theorem t_mv_284_66 : p_f2 p_mv (p_mK 284) 66 = some 202 := by decide +kernel
theorem q_284_453 : p_tb 284 453 = some (.pop, 1) := by decide +kernel
theorem q_284_454 : p_tb 284 454 = some (.goto 1092, 3) := by decide +kernel
theorem q_284_457 : p_tb 284 457 = some (.aload_n 1, 1) := by decide +kernel
theorem q_284_458 : p_tb 284 458 = some (.aload_n 0, 1) := by decide +kernel
theorem q_284_459 : p_tb 284 459 = some (.iload 4, 2) := by decide +kernel
theorem q_284_461 : p_tb 284 461 = some (.iconst 1, 1) := by decide +kernel
theorem q_284_462 : p_tb 284 462 = some (.iadd, 1) := by decide +kernel
theorem q_284_463 : p_tb 284 463 = some (.iaload, 1) := by decide +kernel
theorem q_284_464 : p_tb 284 464 = some (.invokevirtual 67, 3) := by decide +kernel
theorem t_mv_284_67 : p_f2 p_mv (p_mK 284) 67 = some 117 := by decide +kernel
theorem q_284_467 : p_tb 284 467 = some (.pop, 1) := by decide +kernel
theorem q_284_468 : p_tb 284 468 = some (.aload_n 2, 1) := by decide +kernel
theorem q_284_469 : p_tb 284 469 = some (.aload_n 0, 1) := by decide +kernel
theorem q_284_470 : p_tb 284 470 = some (.iload 4, 2) := by decide +kernel
theorem q_284_472 : p_tb 284 472 = some (.iconst 1, 1) := by decide +kernel
theorem q_284_473 : p_tb 284 473 = some (.iadd, 1) := by decide +kernel
theorem q_284_474 : p_tb 284 474 = some (.iaload, 1) := by decide +kernel
theorem q_284_475 : p_tb 284 475 = some (.invokevirtual 70, 3) := by decide +kernel
theorem t_mv_284_70 : p_f2 p_mv (p_mK 284) 70 = some 214 := by decide +kernel
theorem q_284_478 : p_tb 284 478 = some (.pop, 1) := by decide +kernel
theorem q_284_479 : p_tb 284 479 = some (.goto 1067, 3) := by decide +kernel
theorem q_284_482 : p_tb 284 482 = some (.aload_n 1, 1) := by decide +kernel
theorem q_284_483 : p_tb 284 483 = some (.aload_n 0, 1) := by decide +kernel
theorem q_284_484 : p_tb 284 484 = some (.iload 4, 2) := by decide +kernel
theorem q_284_486 : p_tb 284 486 = some (.iconst 1, 1) := by decide +kernel
theorem q_284_487 : p_tb 284 487 = some (.iadd, 1) := by decide +kernel
theorem q_284_488 : p_tb 284 488 = some (.iaload, 1) := by decide +kernel
theorem q_284_489 : p_tb 284 489 = some (.invokevirtual 71, 3) := by decide +kernel
theorem t_mv_284_71 : p_f2 p_mv (p_mK 284) 71 = some 118 := by decide +kernel
theorem q_284_492 : p_tb 284 492 = some (.pop, 1) := by decide +kernel
theorem q_284_493 : p_tb 284 493 = some (.aload_n 2, 1) := by decide +kernel
theorem q_284_494 : p_tb 284 494 = some (.aload_n 0, 1) := by decide +kernel
theorem q_284_495 : p_tb 284 495 = some (.iload 4, 2) := by decide +kernel
theorem q_284_497 : p_tb 284 497 = some (.iconst 1, 1) := by decide +kernel
theorem q_284_498 : p_tb 284 498 = some (.iadd, 1) := by decide +kernel
theorem q_284_499 : p_tb 284 499 = some (.iaload, 1) := by decide +kernel
theorem q_284_500 : p_tb 284 500 = some (.invokevirtual 74, 3) := by decide +kernel
theorem t_mv_284_74 : p_f2 p_mv (p_mK 284) 74 = some 215 := by decide +kernel
theorem q_284_503 : p_tb 284 503 = some (.pop, 1) := by decide +kernel
theorem q_284_504 : p_tb 284 504 = some (.goto 1042, 3) := by decide +kernel
theorem q_284_507 : p_tb 284 507 = some (.aload_n 1, 1) := by decide +kernel
theorem q_284_508 : p_tb 284 508 = some (.aload_n 0, 1) := by decide +kernel
theorem q_284_509 : p_tb 284 509 = some (.iload 4, 2) := by decide +kernel
theorem q_284_511 : p_tb 284 511 = some (.iconst 1, 1) := by decide +kernel
theorem q_284_512 : p_tb 284 512 = some (.iadd, 1) := by decide +kernel
theorem q_284_513 : p_tb 284 513 = some (.iaload, 1) := by decide +kernel
theorem q_284_514 : p_tb 284 514 = some (.invokevirtual 75, 3) := by decide +kernel
theorem t_mv_284_75 : p_f2 p_mv (p_mK 284) 75 = some 119 := by decide +kernel
theorem q_284_517 : p_tb 284 517 = some (.pop, 1) := by decide +kernel
theorem q_284_518 : p_tb 284 518 = some (.aload_n 2, 1) := by decide +kernel
theorem q_284_519 : p_tb 284 519 = some (.aload_n 0, 1) := by decide +kernel
theorem q_284_520 : p_tb 284 520 = some (.iload 4, 2) := by decide +kernel
theorem q_284_522 : p_tb 284 522 = some (.iconst 1, 1) := by decide +kernel
theorem q_284_523 : p_tb 284 523 = some (.iadd, 1) := by decide +kernel
theorem q_284_524 : p_tb 284 524 = some (.iaload, 1) := by decide +kernel
theorem q_284_525 : p_tb 284 525 = some (.invokevirtual 78, 3) := by decide +kernel
theorem t_mv_284_78 : p_f2 p_mv (p_mK 284) 78 = some 216 := by decide +kernel
theorem q_284_528 : p_tb 284 528 = some (.pop, 1) := by decide +kernel
theorem q_284_529 : p_tb 284 529 = some (.goto 1017, 3) := by decide +kernel
theorem q_284_532 : p_tb 284 532 = some (.aload_n 1, 1) := by decide +kernel
theorem q_284_533 : p_tb 284 533 = some (.aload_n 0, 1) := by decide +kernel
theorem q_284_534 : p_tb 284 534 = some (.iload 4, 2) := by decide +kernel
theorem q_284_536 : p_tb 284 536 = some (.iconst 1, 1) := by decide +kernel
theorem q_284_537 : p_tb 284 537 = some (.iadd, 1) := by decide +kernel
theorem q_284_538 : p_tb 284 538 = some (.iaload, 1) := by decide +kernel
theorem q_284_539 : p_tb 284 539 = some (.invokevirtual 79, 3) := by decide +kernel
theorem t_mv_284_79 : p_f2 p_mv (p_mK 284) 79 = some 120 := by decide +kernel
theorem q_284_542 : p_tb 284 542 = some (.pop, 1) := by decide +kernel
theorem q_284_543 : p_tb 284 543 = some (.aload_n 2, 1) := by decide +kernel
theorem q_284_544 : p_tb 284 544 = some (.aload_n 0, 1) := by decide +kernel
theorem q_284_545 : p_tb 284 545 = some (.iload 4, 2) := by decide +kernel
theorem q_284_547 : p_tb 284 547 = some (.iconst 1, 1) := by decide +kernel
theorem q_284_548 : p_tb 284 548 = some (.iadd, 1) := by decide +kernel
theorem q_284_549 : p_tb 284 549 = some (.iaload, 1) := by decide +kernel
theorem q_284_550 : p_tb 284 550 = some (.invokevirtual 82, 3) := by decide +kernel
theorem t_mv_284_82 : p_f2 p_mv (p_mK 284) 82 = some 217 := by decide +kernel
theorem q_284_553 : p_tb 284 553 = some (.pop, 1) := by decide +kernel
theorem q_284_554 : p_tb 284 554 = some (.goto 992, 3) := by decide +kernel
theorem q_284_557 : p_tb 284 557 = some (.aload_n 1, 1) := by decide +kernel
theorem q_284_558 : p_tb 284 558 = some (.aload_n 0, 1) := by decide +kernel
theorem q_284_559 : p_tb 284 559 = some (.iload 4, 2) := by decide +kernel
theorem q_284_561 : p_tb 284 561 = some (.iconst 1, 1) := by decide +kernel
theorem q_284_562 : p_tb 284 562 = some (.iadd, 1) := by decide +kernel
theorem q_284_563 : p_tb 284 563 = some (.iaload, 1) := by decide +kernel
theorem q_284_564 : p_tb 284 564 = some (.invokevirtual 83, 3) := by decide +kernel
theorem t_mv_284_83 : p_f2 p_mv (p_mK 284) 83 = some 121 := by decide +kernel
theorem q_284_567 : p_tb 284 567 = some (.pop, 1) := by decide +kernel
theorem q_284_568 : p_tb 284 568 = some (.aload_n 2, 1) := by decide +kernel
theorem q_284_569 : p_tb 284 569 = some (.aload_n 0, 1) := by decide +kernel
theorem q_284_570 : p_tb 284 570 = some (.iload 4, 2) := by decide +kernel
theorem q_284_572 : p_tb 284 572 = some (.iconst 1, 1) := by decide +kernel
theorem q_284_573 : p_tb 284 573 = some (.iadd, 1) := by decide +kernel
theorem q_284_574 : p_tb 284 574 = some (.iaload, 1) := by decide +kernel
theorem q_284_575 : p_tb 284 575 = some (.invokevirtual 86, 3) := by decide +kernel
theorem t_mv_284_86 : p_f2 p_mv (p_mK 284) 86 = some 218 := by decide +kernel
theorem q_284_578 : p_tb 284 578 = some (.pop, 1) := by decide +kernel
theorem q_284_579 : p_tb 284 579 = some (.goto 967, 3) := by decide +kernel
theorem q_284_582 : p_tb 284 582 = some (.aload_n 1, 1) := by decide +kernel
theorem q_284_583 : p_tb 284 583 = some (.aload_n 0, 1) := by decide +kernel
theorem q_284_584 : p_tb 284 584 = some (.iload 4, 2) := by decide +kernel
theorem q_284_586 : p_tb 284 586 = some (.iconst 1, 1) := by decide +kernel
theorem q_284_587 : p_tb 284 587 = some (.iadd, 1) := by decide +kernel
theorem q_284_588 : p_tb 284 588 = some (.iaload, 1) := by decide +kernel
theorem q_284_589 : p_tb 284 589 = some (.invokevirtual 87, 3) := by decide +kernel
theorem t_mv_284_87 : p_f2 p_mv (p_mK 284) 87 = some 122 := by decide +kernel
theorem q_284_592 : p_tb 284 592 = some (.pop, 1) := by decide +kernel
theorem q_284_593 : p_tb 284 593 = some (.aload_n 2, 1) := by decide +kernel
theorem q_284_594 : p_tb 284 594 = some (.aload_n 0, 1) := by decide +kernel
theorem q_284_595 : p_tb 284 595 = some (.iload 4, 2) := by decide +kernel
theorem q_284_597 : p_tb 284 597 = some (.iconst 1, 1) := by decide +kernel
theorem q_284_598 : p_tb 284 598 = some (.iadd, 1) := by decide +kernel
theorem q_284_599 : p_tb 284 599 = some (.iaload, 1) := by decide +kernel
theorem q_284_600 : p_tb 284 600 = some (.invokevirtual 90, 3) := by decide +kernel
theorem t_mv_284_90 : p_f2 p_mv (p_mK 284) 90 = some 219 := by decide +kernel
theorem q_284_603 : p_tb 284 603 = some (.pop, 1) := by decide +kernel
theorem q_284_604 : p_tb 284 604 = some (.goto 942, 3) := by decide +kernel
theorem q_284_607 : p_tb 284 607 = some (.aload_n 1, 1) := by decide +kernel
theorem q_284_608 : p_tb 284 608 = some (.invokevirtual 91, 3) := by decide +kernel
theorem t_mv_284_91 : p_f2 p_mv (p_mK 284) 91 = some 124 := by decide +kernel
theorem q_284_611 : p_tb 284 611 = some (.pop, 1) := by decide +kernel
theorem q_284_612 : p_tb 284 612 = some (.aload_n 2, 1) := by decide +kernel
theorem q_284_613 : p_tb 284 613 = some (.invokevirtual 94, 3) := by decide +kernel
theorem t_mv_284_94 : p_f2 p_mv (p_mK 284) 94 = some 221 := by decide +kernel
theorem q_284_616 : p_tb 284 616 = some (.pop, 1) := by decide +kernel
theorem q_284_617 : p_tb 284 617 = some (.goto 929, 3) := by decide +kernel
theorem q_284_620 : p_tb 284 620 = some (.aload_n 1, 1) := by decide +kernel
theorem q_284_621 : p_tb 284 621 = some (.aload_n 0, 1) := by decide +kernel
theorem q_284_622 : p_tb 284 622 = some (.iload 4, 2) := by decide +kernel
theorem q_284_624 : p_tb 284 624 = some (.iconst 1, 1) := by decide +kernel
theorem q_284_625 : p_tb 284 625 = some (.iadd, 1) := by decide +kernel
theorem q_284_626 : p_tb 284 626 = some (.iaload, 1) := by decide +kernel
theorem q_284_627 : p_tb 284 627 = some (.aload_n 0, 1) := by decide +kernel
theorem q_284_628 : p_tb 284 628 = some (.iload 4, 2) := by decide +kernel
theorem q_284_630 : p_tb 284 630 = some (.iconst 2, 1) := by decide +kernel
theorem q_284_631 : p_tb 284 631 = some (.iadd, 1) := by decide +kernel
theorem q_284_632 : p_tb 284 632 = some (.iaload, 1) := by decide +kernel
theorem q_284_633 : p_tb 284 633 = some (.invokevirtual 95, 3) := by decide +kernel
theorem t_mv_284_95 : p_f2 p_mv (p_mK 284) 95 = some 112 := by decide +kernel
theorem q_284_636 : p_tb 284 636 = some (.pop, 1) := by decide +kernel
theorem q_284_637 : p_tb 284 637 = some (.aload_n 2, 1) := by decide +kernel
theorem q_284_638 : p_tb 284 638 = some (.aload_n 0, 1) := by decide +kernel
theorem q_284_639 : p_tb 284 639 = some (.iload 4, 2) := by decide +kernel
theorem q_284_641 : p_tb 284 641 = some (.iconst 1, 1) := by decide +kernel
theorem q_284_642 : p_tb 284 642 = some (.iadd, 1) := by decide +kernel
theorem q_284_643 : p_tb 284 643 = some (.iaload, 1) := by decide +kernel
theorem q_284_644 : p_tb 284 644 = some (.aload_n 0, 1) := by decide +kernel
theorem q_284_645 : p_tb 284 645 = some (.iload 4, 2) := by decide +kernel
theorem q_284_647 : p_tb 284 647 = some (.iconst 2, 1) := by decide +kernel
theorem q_284_648 : p_tb 284 648 = some (.iadd, 1) := by decide +kernel
theorem q_284_649 : p_tb 284 649 = some (.iaload, 1) := by decide +kernel
theorem q_284_650 : p_tb 284 650 = some (.invokevirtual 98, 3) := by decide +kernel
theorem t_mv_284_98 : p_f2 p_mv (p_mK 284) 98 = some 224 := by decide +kernel
theorem q_284_653 : p_tb 284 653 = some (.pop, 1) := by decide +kernel
theorem q_284_654 : p_tb 284 654 = some (.goto 892, 3) := by decide +kernel
theorem q_284_657 : p_tb 284 657 = some (.aload_n 1, 1) := by decide +kernel
theorem q_284_658 : p_tb 284 658 = some (.aload_n 0, 1) := by decide +kernel
theorem q_284_659 : p_tb 284 659 = some (.iload 4, 2) := by decide +kernel
theorem q_284_661 : p_tb 284 661 = some (.iconst 1, 1) := by decide +kernel
theorem q_284_662 : p_tb 284 662 = some (.iadd, 1) := by decide +kernel
theorem q_284_663 : p_tb 284 663 = some (.iaload, 1) := by decide +kernel
theorem q_284_664 : p_tb 284 664 = some (.aload_n 0, 1) := by decide +kernel
theorem q_284_665 : p_tb 284 665 = some (.iload 4, 2) := by decide +kernel
theorem q_284_667 : p_tb 284 667 = some (.iconst 2, 1) := by decide +kernel
theorem q_284_668 : p_tb 284 668 = some (.iadd, 1) := by decide +kernel
theorem q_284_669 : p_tb 284 669 = some (.iaload, 1) := by decide +kernel
theorem q_284_670 : p_tb 284 670 = some (.invokevirtual 99, 3) := by decide +kernel
theorem t_mv_284_99 : p_f2 p_mv (p_mK 284) 99 = some 127 := by decide +kernel
theorem q_284_673 : p_tb 284 673 = some (.pop, 1) := by decide +kernel
theorem q_284_674 : p_tb 284 674 = some (.aload_n 2, 1) := by decide +kernel
theorem q_284_675 : p_tb 284 675 = some (.aload_n 0, 1) := by decide +kernel
theorem q_284_676 : p_tb 284 676 = some (.iload 4, 2) := by decide +kernel
theorem q_284_678 : p_tb 284 678 = some (.iconst 1, 1) := by decide +kernel
theorem q_284_679 : p_tb 284 679 = some (.iadd, 1) := by decide +kernel
theorem q_284_680 : p_tb 284 680 = some (.iaload, 1) := by decide +kernel
theorem q_284_681 : p_tb 284 681 = some (.aload_n 0, 1) := by decide +kernel
theorem q_284_682 : p_tb 284 682 = some (.iload 4, 2) := by decide +kernel
theorem q_284_684 : p_tb 284 684 = some (.iconst 2, 1) := by decide +kernel
theorem q_284_685 : p_tb 284 685 = some (.iadd, 1) := by decide +kernel
theorem q_284_686 : p_tb 284 686 = some (.iaload, 1) := by decide +kernel
theorem q_284_687 : p_tb 284 687 = some (.invokevirtual 102, 3) := by decide +kernel
theorem t_mv_284_102 : p_f2 p_mv (p_mK 284) 102 = some 225 := by decide +kernel
theorem q_284_690 : p_tb 284 690 = some (.pop, 1) := by decide +kernel
theorem q_284_691 : p_tb 284 691 = some (.goto 855, 3) := by decide +kernel
theorem q_284_694 : p_tb 284 694 = some (.aload_n 1, 1) := by decide +kernel
theorem q_284_695 : p_tb 284 695 = some (.aload_n 0, 1) := by decide +kernel
theorem q_284_696 : p_tb 284 696 = some (.iload 4, 2) := by decide +kernel
theorem q_284_698 : p_tb 284 698 = some (.iconst 1, 1) := by decide +kernel
theorem q_284_699 : p_tb 284 699 = some (.iadd, 1) := by decide +kernel
theorem q_284_700 : p_tb 284 700 = some (.iaload, 1) := by decide +kernel
theorem q_284_701 : p_tb 284 701 = some (.aload_n 0, 1) := by decide +kernel
theorem q_284_702 : p_tb 284 702 = some (.iload 4, 2) := by decide +kernel
theorem q_284_704 : p_tb 284 704 = some (.iconst 2, 1) := by decide +kernel
theorem q_284_705 : p_tb 284 705 = some (.iadd, 1) := by decide +kernel
theorem q_284_706 : p_tb 284 706 = some (.iaload, 1) := by decide +kernel
theorem q_284_707 : p_tb 284 707 = some (.invokevirtual 103, 3) := by decide +kernel
theorem t_mv_284_103 : p_f2 p_mv (p_mK 284) 103 = some 128 := by decide +kernel
theorem q_284_710 : p_tb 284 710 = some (.pop, 1) := by decide +kernel
theorem q_284_711 : p_tb 284 711 = some (.aload_n 2, 1) := by decide +kernel
theorem q_284_712 : p_tb 284 712 = some (.aload_n 0, 1) := by decide +kernel
theorem q_284_713 : p_tb 284 713 = some (.iload 4, 2) := by decide +kernel
theorem q_284_715 : p_tb 284 715 = some (.iconst 1, 1) := by decide +kernel
theorem q_284_716 : p_tb 284 716 = some (.iadd, 1) := by decide +kernel
theorem q_284_717 : p_tb 284 717 = some (.iaload, 1) := by decide +kernel
theorem q_284_718 : p_tb 284 718 = some (.aload_n 0, 1) := by decide +kernel
theorem q_284_719 : p_tb 284 719 = some (.iload 4, 2) := by decide +kernel
theorem q_284_721 : p_tb 284 721 = some (.iconst 2, 1) := by decide +kernel
theorem q_284_722 : p_tb 284 722 = some (.iadd, 1) := by decide +kernel
theorem q_284_723 : p_tb 284 723 = some (.iaload, 1) := by decide +kernel
theorem q_284_724 : p_tb 284 724 = some (.invokevirtual 106, 3) := by decide +kernel
theorem t_mv_284_106 : p_f2 p_mv (p_mK 284) 106 = some 226 := by decide +kernel
theorem q_284_727 : p_tb 284 727 = some (.pop, 1) := by decide +kernel
theorem q_284_728 : p_tb 284 728 = some (.goto 818, 3) := by decide +kernel
theorem q_284_731 : p_tb 284 731 = some (.aload_n 1, 1) := by decide +kernel
theorem q_284_732 : p_tb 284 732 = some (.aload_n 0, 1) := by decide +kernel
theorem q_284_733 : p_tb 284 733 = some (.iload 4, 2) := by decide +kernel
theorem q_284_735 : p_tb 284 735 = some (.iconst 1, 1) := by decide +kernel
theorem q_284_736 : p_tb 284 736 = some (.iadd, 1) := by decide +kernel
theorem q_284_737 : p_tb 284 737 = some (.iaload, 1) := by decide +kernel
theorem q_284_738 : p_tb 284 738 = some (.aload_n 0, 1) := by decide +kernel
theorem q_284_739 : p_tb 284 739 = some (.iload 4, 2) := by decide +kernel
theorem q_284_741 : p_tb 284 741 = some (.iconst 2, 1) := by decide +kernel
theorem q_284_742 : p_tb 284 742 = some (.iadd, 1) := by decide +kernel
theorem q_284_743 : p_tb 284 743 = some (.iaload, 1) := by decide +kernel
theorem q_284_744 : p_tb 284 744 = some (.invokevirtual 107, 3) := by decide +kernel
theorem t_mv_284_107 : p_f2 p_mv (p_mK 284) 107 = some 129 := by decide +kernel
theorem q_284_747 : p_tb 284 747 = some (.pop, 1) := by decide +kernel
theorem q_284_748 : p_tb 284 748 = some (.aload_n 2, 1) := by decide +kernel
theorem q_284_749 : p_tb 284 749 = some (.aload_n 0, 1) := by decide +kernel
theorem q_284_750 : p_tb 284 750 = some (.iload 4, 2) := by decide +kernel
theorem q_284_752 : p_tb 284 752 = some (.iconst 1, 1) := by decide +kernel
theorem q_284_753 : p_tb 284 753 = some (.iadd, 1) := by decide +kernel
theorem q_284_754 : p_tb 284 754 = some (.iaload, 1) := by decide +kernel
theorem q_284_755 : p_tb 284 755 = some (.aload_n 0, 1) := by decide +kernel
theorem q_284_756 : p_tb 284 756 = some (.iload 4, 2) := by decide +kernel
theorem q_284_758 : p_tb 284 758 = some (.iconst 2, 1) := by decide +kernel
theorem q_284_759 : p_tb 284 759 = some (.iadd, 1) := by decide +kernel
theorem q_284_760 : p_tb 284 760 = some (.iaload, 1) := by decide +kernel
theorem q_284_761 : p_tb 284 761 = some (.invokevirtual 110, 3) := by decide +kernel
theorem t_mv_284_110 : p_f2 p_mv (p_mK 284) 110 = some 227 := by decide +kernel
theorem q_284_764 : p_tb 284 764 = some (.pop, 1) := by decide +kernel
theorem q_284_765 : p_tb 284 765 = some (.goto 781, 3) := by decide +kernel
theorem q_284_768 : p_tb 284 768 = some (.aload_n 1, 1) := by decide +kernel
theorem q_284_769 : p_tb 284 769 = some (.aload_n 0, 1) := by decide +kernel
theorem q_284_770 : p_tb 284 770 = some (.iload 4, 2) := by decide +kernel
theorem q_284_772 : p_tb 284 772 = some (.iconst 1, 1) := by decide +kernel
theorem q_284_773 : p_tb 284 773 = some (.iadd, 1) := by decide +kernel
theorem q_284_774 : p_tb 284 774 = some (.iaload, 1) := by decide +kernel
theorem q_284_775 : p_tb 284 775 = some (.invokevirtual 111, 3) := by decide +kernel
theorem t_mv_284_111 : p_f2 p_mv (p_mK 284) 111 = some 130 := by decide +kernel
theorem q_284_778 : p_tb 284 778 = some (.pop, 1) := by decide +kernel
theorem q_284_779 : p_tb 284 779 = some (.aload_n 2, 1) := by decide +kernel
theorem q_284_780 : p_tb 284 780 = some (.aload_n 0, 1) := by decide +kernel
theorem q_284_781 : p_tb 284 781 = some (.iload 4, 2) := by decide +kernel
theorem q_284_783 : p_tb 284 783 = some (.iconst 1, 1) := by decide +kernel
theorem q_284_784 : p_tb 284 784 = some (.iadd, 1) := by decide +kernel
theorem q_284_785 : p_tb 284 785 = some (.iaload, 1) := by decide +kernel
theorem q_284_786 : p_tb 284 786 = some (.invokevirtual 114, 3) := by decide +kernel
theorem t_mv_284_114 : p_f2 p_mv (p_mK 284) 114 = some 228 := by decide +kernel
theorem q_284_789 : p_tb 284 789 = some (.pop, 1) := by decide +kernel
theorem q_284_790 : p_tb 284 790 = some (.goto 756, 3) := by decide +kernel
theorem q_284_793 : p_tb 284 793 = some (.aload_n 1, 1) := by decide +kernel
theorem q_284_794 : p_tb 284 794 = some (.aload_n 0, 1) := by decide +kernel
theorem q_284_795 : p_tb 284 795 = some (.iload 4, 2) := by decide +kernel
theorem q_284_797 : p_tb 284 797 = some (.iconst 1, 1) := by decide +kernel
theorem q_284_798 : p_tb 284 798 = some (.iadd, 1) := by decide +kernel
theorem q_284_799 : p_tb 284 799 = some (.iaload, 1) := by decide +kernel
theorem q_284_800 : p_tb 284 800 = some (.aload_n 0, 1) := by decide +kernel
theorem q_284_801 : p_tb 284 801 = some (.iload 4, 2) := by decide +kernel
theorem q_284_803 : p_tb 284 803 = some (.iconst 2, 1) := by decide +kernel
theorem q_284_804 : p_tb 284 804 = some (.iadd, 1) := by decide +kernel
theorem q_284_805 : p_tb 284 805 = some (.iaload, 1) := by decide +kernel
theorem q_284_806 : p_tb 284 806 = some (.invokevirtual 115, 3) := by decide +kernel
theorem t_mv_284_115 : p_f2 p_mv (p_mK 284) 115 = some 113 := by decide +kernel
theorem q_284_809 : p_tb 284 809 = some (.pop, 1) := by decide +kernel
theorem q_284_810 : p_tb 284 810 = some (.aload_n 2, 1) := by decide +kernel
theorem q_284_811 : p_tb 284 811 = some (.aload_n 0, 1) := by decide +kernel
theorem q_284_812 : p_tb 284 812 = some (.iload 4, 2) := by decide +kernel
theorem q_284_814 : p_tb 284 814 = some (.iconst 1, 1) := by decide +kernel
theorem q_284_815 : p_tb 284 815 = some (.iadd, 1) := by decide +kernel
theorem q_284_816 : p_tb 284 816 = some (.iaload, 1) := by decide +kernel
theorem q_284_817 : p_tb 284 817 = some (.aload_n 0, 1) := by decide +kernel
theorem q_284_818 : p_tb 284 818 = some (.iload 4, 2) := by decide +kernel
theorem q_284_820 : p_tb 284 820 = some (.iconst 2, 1) := by decide +kernel
theorem q_284_821 : p_tb 284 821 = some (.iadd, 1) := by decide +kernel
theorem q_284_822 : p_tb 284 822 = some (.iaload, 1) := by decide +kernel
theorem q_284_823 : p_tb 284 823 = some (.invokevirtual 118, 3) := by decide +kernel
theorem t_mv_284_118 : p_f2 p_mv (p_mK 284) 118 = some 229 := by decide +kernel
theorem q_284_826 : p_tb 284 826 = some (.pop, 1) := by decide +kernel
theorem q_284_827 : p_tb 284 827 = some (.goto 719, 3) := by decide +kernel
theorem q_284_830 : p_tb 284 830 = some (.aload_n 1, 1) := by decide +kernel
theorem q_284_831 : p_tb 284 831 = some (.invokevirtual 119, 3) := by decide +kernel
theorem t_mv_284_119 : p_f2 p_mv (p_mK 284) 119 = some 114 := by decide +kernel
theorem q_284_834 : p_tb 284 834 = some (.pop, 1) := by decide +kernel
theorem q_284_835 : p_tb 284 835 = some (.aload_n 2, 1) := by decide +kernel
theorem q_284_836 : p_tb 284 836 = some (.invokevirtual 122, 3) := by decide +kernel
theorem t_mv_284_122 : p_f2 p_mv (p_mK 284) 122 = some 230 := by decide +kernel
theorem q_284_839 : p_tb 284 839 = some (.pop, 1) := by decide +kernel
theorem q_284_840 : p_tb 284 840 = some (.goto 706, 3) := by decide +kernel
theorem q_284_843 : p_tb 284 843 = some (.aload_n 1, 1) := by decide +kernel
theorem q_284_844 : p_tb 284 844 = some (.aload_n 0, 1) := by decide +kernel
theorem q_284_845 : p_tb 284 845 = some (.iload 4, 2) := by decide +kernel
theorem q_284_847 : p_tb 284 847 = some (.iconst 1, 1) := by decide +kernel
theorem q_284_848 : p_tb 284 848 = some (.iadd, 1) := by decide +kernel
theorem q_284_849 : p_tb 284 849 = some (.iaload, 1) := by decide +kernel
theorem q_284_850 : p_tb 284 850 = some (.aload_n 0, 1) := by decide +kernel
theorem q_284_851 : p_tb 284 851 = some (.iload 4, 2) := by decide +kernel
theorem q_284_853 : p_tb 284 853 = some (.iconst 2, 1) := by decide +kernel
theorem q_284_854 : p_tb 284 854 = some (.iadd, 1) := by decide +kernel
theorem q_284_855 : p_tb 284 855 = some (.iaload, 1) := by decide +kernel
theorem q_284_856 : p_tb 284 856 = some (.aload_n 0, 1) := by decide +kernel
theorem q_284_857 : p_tb 284 857 = some (.iload 4, 2) := by decide +kernel
theorem q_284_859 : p_tb 284 859 = some (.iconst 3, 1) := by decide +kernel
theorem q_284_860 : p_tb 284 860 = some (.iadd, 1) := by decide +kernel
theorem q_284_861 : p_tb 284 861 = some (.iaload, 1) := by decide +kernel
theorem q_284_862 : p_tb 284 862 = some (.aload_n 0, 1) := by decide +kernel
theorem q_284_863 : p_tb 284 863 = some (.iload 4, 2) := by decide +kernel
theorem q_284_865 : p_tb 284 865 = some (.iconst 4, 1) := by decide +kernel
theorem q_284_866 : p_tb 284 866 = some (.iadd, 1) := by decide +kernel
theorem q_284_867 : p_tb 284 867 = some (.iaload, 1) := by decide +kernel
theorem q_284_868 : p_tb 284 868 = some (.aload_n 3, 1) := by decide +kernel
theorem q_284_869 : p_tb 284 869 = some (.invokestatic 123, 3) := by decide +kernel
theorem t_ms_284_123 : p_f2 p_ms (p_mK 284) 123 = some 281 := by decide +kernel
theorem q_284_872 : p_tb 284 872 = some (.istore 5, 2) := by decide +kernel
theorem q_284_874 : p_tb 284 874 = some (.aload_n 2, 1) := by decide +kernel
theorem q_284_875 : p_tb 284 875 = some (.aload_n 0, 1) := by decide +kernel
theorem q_284_876 : p_tb 284 876 = some (.iload 4, 2) := by decide +kernel
theorem q_284_878 : p_tb 284 878 = some (.iconst 1, 1) := by decide +kernel
theorem q_284_879 : p_tb 284 879 = some (.iadd, 1) := by decide +kernel
theorem q_284_880 : p_tb 284 880 = some (.iaload, 1) := by decide +kernel
theorem q_284_881 : p_tb 284 881 = some (.aload_n 0, 1) := by decide +kernel
theorem q_284_882 : p_tb 284 882 = some (.iload 4, 2) := by decide +kernel
theorem q_284_884 : p_tb 284 884 = some (.iconst 2, 1) := by decide +kernel
theorem q_284_885 : p_tb 284 885 = some (.iadd, 1) := by decide +kernel
theorem q_284_886 : p_tb 284 886 = some (.iaload, 1) := by decide +kernel
theorem q_284_887 : p_tb 284 887 = some (.aload_n 0, 1) := by decide +kernel
theorem q_284_888 : p_tb 284 888 = some (.iload 4, 2) := by decide +kernel
theorem q_284_890 : p_tb 284 890 = some (.iconst 3, 1) := by decide +kernel
theorem q_284_891 : p_tb 284 891 = some (.iadd, 1) := by decide +kernel
theorem q_284_892 : p_tb 284 892 = some (.iaload, 1) := by decide +kernel
theorem q_284_893 : p_tb 284 893 = some (.aload_n 0, 1) := by decide +kernel
theorem q_284_894 : p_tb 284 894 = some (.iload 4, 2) := by decide +kernel
theorem q_284_896 : p_tb 284 896 = some (.iconst 4, 1) := by decide +kernel
theorem q_284_897 : p_tb 284 897 = some (.iadd, 1) := by decide +kernel
theorem q_284_898 : p_tb 284 898 = some (.iaload, 1) := by decide +kernel
theorem q_284_899 : p_tb 284 899 = some (.invokevirtual 126, 3) := by decide +kernel
theorem t_mv_284_126 : p_f2 p_mv (p_mK 284) 126 = some 234 := by decide +kernel
theorem q_284_902 : p_tb 284 902 = some (.istore 6, 2) := by decide +kernel
theorem q_284_904 : p_tb 284 904 = some (.goto 642, 3) := by decide +kernel
theorem q_284_907 : p_tb 284 907 = some (.aload_n 1, 1) := by decide +kernel
theorem q_284_908 : p_tb 284 908 = some (.aload_n 0, 1) := by decide +kernel
theorem q_284_909 : p_tb 284 909 = some (.iload 4, 2) := by decide +kernel
theorem q_284_911 : p_tb 284 911 = some (.iconst 1, 1) := by decide +kernel
theorem q_284_912 : p_tb 284 912 = some (.iadd, 1) := by decide +kernel
theorem q_284_913 : p_tb 284 913 = some (.iaload, 1) := by decide +kernel
theorem q_284_914 : p_tb 284 914 = some (.aload_n 0, 1) := by decide +kernel
theorem q_284_915 : p_tb 284 915 = some (.iload 4, 2) := by decide +kernel
theorem q_284_917 : p_tb 284 917 = some (.iconst 2, 1) := by decide +kernel
theorem q_284_918 : p_tb 284 918 = some (.iadd, 1) := by decide +kernel
theorem q_284_919 : p_tb 284 919 = some (.iaload, 1) := by decide +kernel
theorem q_284_920 : p_tb 284 920 = some (.aload_n 0, 1) := by decide +kernel
theorem q_284_921 : p_tb 284 921 = some (.iload 4, 2) := by decide +kernel
theorem q_284_923 : p_tb 284 923 = some (.iconst 3, 1) := by decide +kernel
theorem q_284_924 : p_tb 284 924 = some (.iadd, 1) := by decide +kernel
theorem q_284_925 : p_tb 284 925 = some (.iaload, 1) := by decide +kernel
theorem q_284_926 : p_tb 284 926 = some (.aload_n 0, 1) := by decide +kernel
theorem q_284_927 : p_tb 284 927 = some (.iload 4, 2) := by decide +kernel
theorem q_284_929 : p_tb 284 929 = some (.iconst 4, 1) := by decide +kernel
theorem q_284_930 : p_tb 284 930 = some (.iadd, 1) := by decide +kernel
theorem q_284_931 : p_tb 284 931 = some (.iaload, 1) := by decide +kernel
theorem q_284_932 : p_tb 284 932 = some (.aload_n 0, 1) := by decide +kernel
theorem q_284_933 : p_tb 284 933 = some (.iload 4, 2) := by decide +kernel
theorem q_284_935 : p_tb 284 935 = some (.iconst 5, 1) := by decide +kernel
theorem q_284_936 : p_tb 284 936 = some (.iadd, 1) := by decide +kernel
theorem q_284_937 : p_tb 284 937 = some (.iaload, 1) := by decide +kernel
theorem q_284_938 : p_tb 284 938 = some (.aload_n 3, 1) := by decide +kernel
theorem q_284_939 : p_tb 284 939 = some (.invokestatic 127, 3) := by decide +kernel
theorem t_ms_284_127 : p_f2 p_ms (p_mK 284) 127 = some 282 := by decide +kernel
theorem q_284_942 : p_tb 284 942 = some (.istore 5, 2) := by decide +kernel
theorem q_284_944 : p_tb 284 944 = some (.aload_n 2, 1) := by decide +kernel
theorem q_284_945 : p_tb 284 945 = some (.aload_n 0, 1) := by decide +kernel
theorem q_284_946 : p_tb 284 946 = some (.iload 4, 2) := by decide +kernel
theorem q_284_948 : p_tb 284 948 = some (.iconst 1, 1) := by decide +kernel
theorem q_284_949 : p_tb 284 949 = some (.iadd, 1) := by decide +kernel
theorem q_284_950 : p_tb 284 950 = some (.iaload, 1) := by decide +kernel
theorem q_284_951 : p_tb 284 951 = some (.aload_n 0, 1) := by decide +kernel
theorem q_284_952 : p_tb 284 952 = some (.iload 4, 2) := by decide +kernel
theorem q_284_954 : p_tb 284 954 = some (.iconst 2, 1) := by decide +kernel
theorem q_284_955 : p_tb 284 955 = some (.iadd, 1) := by decide +kernel
theorem q_284_956 : p_tb 284 956 = some (.iaload, 1) := by decide +kernel
theorem q_284_957 : p_tb 284 957 = some (.aload_n 0, 1) := by decide +kernel
theorem q_284_958 : p_tb 284 958 = some (.iload 4, 2) := by decide +kernel
theorem q_284_960 : p_tb 284 960 = some (.iconst 3, 1) := by decide +kernel
theorem q_284_961 : p_tb 284 961 = some (.iadd, 1) := by decide +kernel
theorem q_284_962 : p_tb 284 962 = some (.iaload, 1) := by decide +kernel
theorem q_284_963 : p_tb 284 963 = some (.aload_n 0, 1) := by decide +kernel
theorem q_284_964 : p_tb 284 964 = some (.iload 4, 2) := by decide +kernel
theorem q_284_966 : p_tb 284 966 = some (.iconst 4, 1) := by decide +kernel
theorem q_284_967 : p_tb 284 967 = some (.iadd, 1) := by decide +kernel
theorem q_284_968 : p_tb 284 968 = some (.iaload, 1) := by decide +kernel
theorem q_284_969 : p_tb 284 969 = some (.aload_n 0, 1) := by decide +kernel
theorem q_284_970 : p_tb 284 970 = some (.iload 4, 2) := by decide +kernel
theorem q_284_972 : p_tb 284 972 = some (.iconst 5, 1) := by decide +kernel
theorem q_284_973 : p_tb 284 973 = some (.iadd, 1) := by decide +kernel
theorem q_284_974 : p_tb 284 974 = some (.iaload, 1) := by decide +kernel
theorem q_284_975 : p_tb 284 975 = some (.invokevirtual 130, 3) := by decide +kernel
theorem t_mv_284_130 : p_f2 p_mv (p_mK 284) 130 = some 235 := by decide +kernel
theorem q_284_978 : p_tb 284 978 = some (.lstore 6, 2) := by decide +kernel
theorem q_284_980 : p_tb 284 980 = some (.goto 566, 3) := by decide +kernel
theorem q_284_983 : p_tb 284 983 = some (.aload_n 1, 1) := by decide +kernel
theorem q_284_984 : p_tb 284 984 = some (.aload_n 0, 1) := by decide +kernel
theorem q_284_985 : p_tb 284 985 = some (.iload 4, 2) := by decide +kernel
theorem q_284_987 : p_tb 284 987 = some (.iconst 1, 1) := by decide +kernel
theorem q_284_988 : p_tb 284 988 = some (.iadd, 1) := by decide +kernel
theorem q_284_989 : p_tb 284 989 = some (.iaload, 1) := by decide +kernel
theorem q_284_990 : p_tb 284 990 = some (.aload_n 0, 1) := by decide +kernel
theorem q_284_991 : p_tb 284 991 = some (.iload 4, 2) := by decide +kernel
theorem q_284_993 : p_tb 284 993 = some (.iconst 2, 1) := by decide +kernel
theorem q_284_994 : p_tb 284 994 = some (.iadd, 1) := by decide +kernel
theorem q_284_995 : p_tb 284 995 = some (.iaload, 1) := by decide +kernel
theorem q_284_996 : p_tb 284 996 = some (.aload_n 0, 1) := by decide +kernel
theorem q_284_997 : p_tb 284 997 = some (.iload 4, 2) := by decide +kernel
theorem q_284_999 : p_tb 284 999 = some (.iconst 3, 1) := by decide +kernel
theorem q_284_1000 : p_tb 284 1000 = some (.iadd, 1) := by decide +kernel
theorem q_284_1001 : p_tb 284 1001 = some (.iaload, 1) := by decide +kernel
theorem q_284_1002 : p_tb 284 1002 = some (.aload_n 3, 1) := by decide +kernel
theorem q_284_1003 : p_tb 284 1003 = some (.invokestatic 131, 3) := by decide +kernel
theorem t_ms_284_131 : p_f2 p_ms (p_mK 284) 131 = some 283 := by decide +kernel
theorem q_284_1006 : p_tb 284 1006 = some (.istore 5, 2) := by decide +kernel
theorem q_284_1008 : p_tb 284 1008 = some (.aload_n 2, 1) := by decide +kernel
theorem q_284_1009 : p_tb 284 1009 = some (.aload_n 0, 1) := by decide +kernel
theorem q_284_1010 : p_tb 284 1010 = some (.iload 4, 2) := by decide +kernel
theorem q_284_1012 : p_tb 284 1012 = some (.iconst 1, 1) := by decide +kernel
theorem q_284_1013 : p_tb 284 1013 = some (.iadd, 1) := by decide +kernel
theorem q_284_1014 : p_tb 284 1014 = some (.iaload, 1) := by decide +kernel
theorem q_284_1015 : p_tb 284 1015 = some (.aload_n 0, 1) := by decide +kernel
theorem q_284_1016 : p_tb 284 1016 = some (.iload 4, 2) := by decide +kernel
theorem q_284_1018 : p_tb 284 1018 = some (.iconst 2, 1) := by decide +kernel
theorem q_284_1019 : p_tb 284 1019 = some (.iadd, 1) := by decide +kernel
theorem q_284_1020 : p_tb 284 1020 = some (.iaload, 1) := by decide +kernel
theorem q_284_1021 : p_tb 284 1021 = some (.aload_n 0, 1) := by decide +kernel
theorem q_284_1022 : p_tb 284 1022 = some (.iload 4, 2) := by decide +kernel
theorem q_284_1024 : p_tb 284 1024 = some (.iconst 3, 1) := by decide +kernel
theorem q_284_1025 : p_tb 284 1025 = some (.iadd, 1) := by decide +kernel
theorem q_284_1026 : p_tb 284 1026 = some (.iaload, 1) := by decide +kernel
theorem q_284_1027 : p_tb 284 1027 = some (.invokevirtual 134, 3) := by decide +kernel
theorem t_mv_284_134 : p_f2 p_mv (p_mK 284) 134 = some 236 := by decide +kernel
theorem q_284_1030 : p_tb 284 1030 = some (.istore 6, 2) := by decide +kernel
theorem q_284_1032 : p_tb 284 1032 = some (.goto 514, 3) := by decide +kernel
theorem q_284_1035 : p_tb 284 1035 = some (.aload_n 1, 1) := by decide +kernel
theorem q_284_1036 : p_tb 284 1036 = some (.aload_n 0, 1) := by decide +kernel
theorem q_284_1037 : p_tb 284 1037 = some (.iload 4, 2) := by decide +kernel
theorem q_284_1039 : p_tb 284 1039 = some (.iconst 1, 1) := by decide +kernel
theorem q_284_1040 : p_tb 284 1040 = some (.iadd, 1) := by decide +kernel
theorem q_284_1041 : p_tb 284 1041 = some (.iaload, 1) := by decide +kernel
theorem q_284_1042 : p_tb 284 1042 = some (.invokevirtual 135, 3) := by decide +kernel
theorem t_mv_284_135 : p_f2 p_mv (p_mK 284) 135 = some 141 := by decide +kernel
theorem q_284_1045 : p_tb 284 1045 = some (.pop, 1) := by decide +kernel
theorem q_284_1046 : p_tb 284 1046 = some (.aload_n 2, 1) := by decide +kernel
theorem q_284_1047 : p_tb 284 1047 = some (.aload_n 0, 1) := by decide +kernel
theorem q_284_1048 : p_tb 284 1048 = some (.iload 4, 2) := by decide +kernel
theorem q_284_1050 : p_tb 284 1050 = some (.iconst 1, 1) := by decide +kernel
theorem q_284_1051 : p_tb 284 1051 = some (.iadd, 1) := by decide +kernel
theorem q_284_1052 : p_tb 284 1052 = some (.iaload, 1) := by decide +kernel
theorem q_284_1053 : p_tb 284 1053 = some (.invokevirtual 138, 3) := by decide +kernel
theorem t_mv_284_138 : p_f2 p_mv (p_mK 284) 138 = some 239 := by decide +kernel
theorem q_284_1056 : p_tb 284 1056 = some (.pop, 1) := by decide +kernel
theorem q_284_1057 : p_tb 284 1057 = some (.goto 489, 3) := by decide +kernel
theorem q_284_1060 : p_tb 284 1060 = some (.aload_n 1, 1) := by decide +kernel
theorem q_284_1061 : p_tb 284 1061 = some (.aload_n 0, 1) := by decide +kernel
theorem q_284_1062 : p_tb 284 1062 = some (.iload 4, 2) := by decide +kernel
theorem q_284_1064 : p_tb 284 1064 = some (.iconst 1, 1) := by decide +kernel
theorem q_284_1065 : p_tb 284 1065 = some (.iadd, 1) := by decide +kernel
theorem q_284_1066 : p_tb 284 1066 = some (.iaload, 1) := by decide +kernel
theorem q_284_1067 : p_tb 284 1067 = some (.invokevirtual 139, 3) := by decide +kernel
theorem t_mv_284_139 : p_f2 p_mv (p_mK 284) 139 = some 142 := by decide +kernel
theorem q_284_1070 : p_tb 284 1070 = some (.pop, 1) := by decide +kernel
theorem q_284_1071 : p_tb 284 1071 = some (.aload_n 2, 1) := by decide +kernel
theorem q_284_1072 : p_tb 284 1072 = some (.aload_n 0, 1) := by decide +kernel
theorem q_284_1073 : p_tb 284 1073 = some (.iload 4, 2) := by decide +kernel
theorem q_284_1075 : p_tb 284 1075 = some (.iconst 1, 1) := by decide +kernel
theorem q_284_1076 : p_tb 284 1076 = some (.iadd, 1) := by decide +kernel
theorem q_284_1077 : p_tb 284 1077 = some (.iaload, 1) := by decide +kernel
theorem q_284_1078 : p_tb 284 1078 = some (.invokevirtual 142, 3) := by decide +kernel
theorem t_mv_284_142 : p_f2 p_mv (p_mK 284) 142 = some 240 := by decide +kernel
theorem q_284_1081 : p_tb 284 1081 = some (.pop, 1) := by decide +kernel
theorem q_284_1082 : p_tb 284 1082 = some (.goto 464, 3) := by decide +kernel
theorem q_284_1085 : p_tb 284 1085 = some (.aload_n 1, 1) := by decide +kernel
theorem q_284_1086 : p_tb 284 1086 = some (.invokevirtual 143, 3) := by decide +kernel
theorem t_mv_284_143 : p_f2 p_mv (p_mK 284) 143 = some 131 := by decide +kernel
theorem q_284_1089 : p_tb 284 1089 = some (.pop, 1) := by decide +kernel
theorem q_284_1090 : p_tb 284 1090 = some (.aload_n 2, 1) := by decide +kernel
theorem q_284_1091 : p_tb 284 1091 = some (.invokevirtual 146, 3) := by decide +kernel
theorem t_mv_284_146 : p_f2 p_mv (p_mK 284) 146 = some 241 := by decide +kernel
theorem q_284_1094 : p_tb 284 1094 = some (.pop, 1) := by decide +kernel
theorem q_284_1095 : p_tb 284 1095 = some (.goto 451, 3) := by decide +kernel
theorem q_284_1098 : p_tb 284 1098 = some (.aload_n 1, 1) := by decide +kernel
theorem q_284_1099 : p_tb 284 1099 = some (.aload_n 0, 1) := by decide +kernel
theorem q_284_1100 : p_tb 284 1100 = some (.iload 4, 2) := by decide +kernel
theorem q_284_1102 : p_tb 284 1102 = some (.iconst 1, 1) := by decide +kernel
theorem q_284_1103 : p_tb 284 1103 = some (.iadd, 1) := by decide +kernel
theorem q_284_1104 : p_tb 284 1104 = some (.iaload, 1) := by decide +kernel
theorem q_284_1105 : p_tb 284 1105 = some (.aload_n 0, 1) := by decide +kernel
theorem q_284_1106 : p_tb 284 1106 = some (.iload 4, 2) := by decide +kernel
theorem q_284_1108 : p_tb 284 1108 = some (.iconst 2, 1) := by decide +kernel
theorem q_284_1109 : p_tb 284 1109 = some (.iadd, 1) := by decide +kernel
theorem q_284_1110 : p_tb 284 1110 = some (.iaload, 1) := by decide +kernel
theorem q_284_1111 : p_tb 284 1111 = some (.invokevirtual 147, 3) := by decide +kernel
theorem t_mv_284_147 : p_f2 p_mv (p_mK 284) 147 = some 132 := by decide +kernel
theorem q_284_1114 : p_tb 284 1114 = some (.pop, 1) := by decide +kernel
theorem q_284_1115 : p_tb 284 1115 = some (.aload_n 2, 1) := by decide +kernel
theorem q_284_1116 : p_tb 284 1116 = some (.aload_n 0, 1) := by decide +kernel
theorem q_284_1117 : p_tb 284 1117 = some (.iload 4, 2) := by decide +kernel
theorem q_284_1119 : p_tb 284 1119 = some (.iconst 1, 1) := by decide +kernel
theorem q_284_1120 : p_tb 284 1120 = some (.iadd, 1) := by decide +kernel
theorem q_284_1121 : p_tb 284 1121 = some (.iaload, 1) := by decide +kernel
theorem q_284_1122 : p_tb 284 1122 = some (.aload_n 0, 1) := by decide +kernel
theorem q_284_1123 : p_tb 284 1123 = some (.iload 4, 2) := by decide +kernel
theorem q_284_1125 : p_tb 284 1125 = some (.iconst 2, 1) := by decide +kernel
theorem q_284_1126 : p_tb 284 1126 = some (.iadd, 1) := by decide +kernel
theorem q_284_1127 : p_tb 284 1127 = some (.iaload, 1) := by decide +kernel
theorem q_284_1128 : p_tb 284 1128 = some (.invokevirtual 150, 3) := by decide +kernel
theorem t_mv_284_150 : p_f2 p_mv (p_mK 284) 150 = some 243 := by decide +kernel
theorem q_284_1131 : p_tb 284 1131 = some (.pop, 1) := by decide +kernel
theorem q_284_1132 : p_tb 284 1132 = some (.goto 414, 3) := by decide +kernel
theorem q_284_1135 : p_tb 284 1135 = some (.aload_n 1, 1) := by decide +kernel
theorem q_284_1136 : p_tb 284 1136 = some (.aload_n 0, 1) := by decide +kernel
theorem q_284_1137 : p_tb 284 1137 = some (.iload 4, 2) := by decide +kernel
theorem q_284_1139 : p_tb 284 1139 = some (.iconst 1, 1) := by decide +kernel
theorem q_284_1140 : p_tb 284 1140 = some (.iadd, 1) := by decide +kernel
theorem q_284_1141 : p_tb 284 1141 = some (.iaload, 1) := by decide +kernel
theorem q_284_1142 : p_tb 284 1142 = some (.aload_n 0, 1) := by decide +kernel
theorem q_284_1143 : p_tb 284 1143 = some (.iload 4, 2) := by decide +kernel
theorem q_284_1145 : p_tb 284 1145 = some (.iconst 2, 1) := by decide +kernel
theorem q_284_1146 : p_tb 284 1146 = some (.iadd, 1) := by decide +kernel
theorem q_284_1147 : p_tb 284 1147 = some (.iaload, 1) := by decide +kernel
theorem q_284_1148 : p_tb 284 1148 = some (.invokevirtual 151, 3) := by decide +kernel
theorem t_mv_284_151 : p_f2 p_mv (p_mK 284) 151 = some 133 := by decide +kernel
theorem q_284_1151 : p_tb 284 1151 = some (.pop, 1) := by decide +kernel
theorem q_284_1152 : p_tb 284 1152 = some (.aload_n 2, 1) := by decide +kernel
theorem q_284_1153 : p_tb 284 1153 = some (.aload_n 0, 1) := by decide +kernel
theorem q_284_1154 : p_tb 284 1154 = some (.iload 4, 2) := by decide +kernel
theorem q_284_1156 : p_tb 284 1156 = some (.iconst 1, 1) := by decide +kernel
theorem q_284_1157 : p_tb 284 1157 = some (.iadd, 1) := by decide +kernel
theorem q_284_1158 : p_tb 284 1158 = some (.iaload, 1) := by decide +kernel
theorem q_284_1159 : p_tb 284 1159 = some (.aload_n 0, 1) := by decide +kernel
theorem q_284_1160 : p_tb 284 1160 = some (.iload 4, 2) := by decide +kernel
theorem q_284_1162 : p_tb 284 1162 = some (.iconst 2, 1) := by decide +kernel
theorem q_284_1163 : p_tb 284 1163 = some (.iadd, 1) := by decide +kernel
theorem q_284_1164 : p_tb 284 1164 = some (.iaload, 1) := by decide +kernel
theorem q_284_1165 : p_tb 284 1165 = some (.invokevirtual 154, 3) := by decide +kernel
theorem t_mv_284_154 : p_f2 p_mv (p_mK 284) 154 = some 244 := by decide +kernel
theorem q_284_1168 : p_tb 284 1168 = some (.pop, 1) := by decide +kernel
theorem q_284_1169 : p_tb 284 1169 = some (.goto 377, 3) := by decide +kernel
theorem q_284_1172 : p_tb 284 1172 = some (.aload_n 1, 1) := by decide +kernel
theorem q_284_1173 : p_tb 284 1173 = some (.invokevirtual 155, 3) := by decide +kernel
theorem t_mv_284_155 : p_f2 p_mv (p_mK 284) 155 = some 135 := by decide +kernel
theorem q_284_1176 : p_tb 284 1176 = some (.pop, 1) := by decide +kernel
theorem q_284_1177 : p_tb 284 1177 = some (.aload_n 2, 1) := by decide +kernel
theorem q_284_1178 : p_tb 284 1178 = some (.invokevirtual 158, 3) := by decide +kernel
theorem t_mv_284_158 : p_f2 p_mv (p_mK 284) 158 = some 245 := by decide +kernel
theorem q_284_1181 : p_tb 284 1181 = some (.pop, 1) := by decide +kernel
theorem q_284_1182 : p_tb 284 1182 = some (.goto 364, 3) := by decide +kernel
theorem q_284_1185 : p_tb 284 1185 = some (.aload_n 1, 1) := by decide +kernel
theorem q_284_1186 : p_tb 284 1186 = some (.aload_n 0, 1) := by decide +kernel
theorem q_284_1187 : p_tb 284 1187 = some (.iload 4, 2) := by decide +kernel
theorem q_284_1189 : p_tb 284 1189 = some (.iconst 1, 1) := by decide +kernel
theorem q_284_1190 : p_tb 284 1190 = some (.iadd, 1) := by decide +kernel
theorem q_284_1191 : p_tb 284 1191 = some (.iaload, 1) := by decide +kernel
theorem q_284_1192 : p_tb 284 1192 = some (.invokevirtual 159, 3) := by decide +kernel
theorem t_mv_284_159 : p_f2 p_mv (p_mK 284) 159 = some 136 := by decide +kernel
theorem q_284_1195 : p_tb 284 1195 = some (.pop, 1) := by decide +kernel
theorem q_284_1196 : p_tb 284 1196 = some (.aload_n 2, 1) := by decide +kernel
theorem q_284_1197 : p_tb 284 1197 = some (.aload_n 0, 1) := by decide +kernel
theorem q_284_1198 : p_tb 284 1198 = some (.iload 4, 2) := by decide +kernel
theorem q_284_1200 : p_tb 284 1200 = some (.iconst 1, 1) := by decide +kernel
theorem q_284_1201 : p_tb 284 1201 = some (.iadd, 1) := by decide +kernel
theorem q_284_1202 : p_tb 284 1202 = some (.iaload, 1) := by decide +kernel
theorem q_284_1203 : p_tb 284 1203 = some (.invokevirtual 162, 3) := by decide +kernel
theorem t_mv_284_162 : p_f2 p_mv (p_mK 284) 162 = some 246 := by decide +kernel
theorem q_284_1206 : p_tb 284 1206 = some (.pop, 1) := by decide +kernel
theorem q_284_1207 : p_tb 284 1207 = some (.goto 339, 3) := by decide +kernel
theorem q_284_1210 : p_tb 284 1210 = some (.aload_n 1, 1) := by decide +kernel
theorem q_284_1211 : p_tb 284 1211 = some (.invokevirtual 163, 3) := by decide +kernel
theorem t_mv_284_163 : p_f2 p_mv (p_mK 284) 163 = some 137 := by decide +kernel
theorem q_284_1214 : p_tb 284 1214 = some (.pop, 1) := by decide +kernel
theorem q_284_1215 : p_tb 284 1215 = some (.aload_n 2, 1) := by decide +kernel
theorem q_284_1216 : p_tb 284 1216 = some (.invokevirtual 166, 3) := by decide +kernel
theorem t_mv_284_166 : p_f2 p_mv (p_mK 284) 166 = some 248 := by decide +kernel
theorem q_284_1219 : p_tb 284 1219 = some (.pop, 1) := by decide +kernel
theorem q_284_1220 : p_tb 284 1220 = some (.goto 326, 3) := by decide +kernel
theorem q_284_1223 : p_tb 284 1223 = some (.aload_n 1, 1) := by decide +kernel
theorem q_284_1224 : p_tb 284 1224 = some (.aload_n 0, 1) := by decide +kernel
theorem q_284_1225 : p_tb 284 1225 = some (.iload 4, 2) := by decide +kernel
theorem q_284_1227 : p_tb 284 1227 = some (.iconst 1, 1) := by decide +kernel
theorem q_284_1228 : p_tb 284 1228 = some (.iadd, 1) := by decide +kernel
theorem q_284_1229 : p_tb 284 1229 = some (.iaload, 1) := by decide +kernel
theorem q_284_1230 : p_tb 284 1230 = some (.aload_n 0, 1) := by decide +kernel
theorem q_284_1231 : p_tb 284 1231 = some (.iload 4, 2) := by decide +kernel
theorem q_284_1233 : p_tb 284 1233 = some (.iconst 2, 1) := by decide +kernel
theorem q_284_1234 : p_tb 284 1234 = some (.iadd, 1) := by decide +kernel
theorem q_284_1235 : p_tb 284 1235 = some (.iaload, 1) := by decide +kernel
theorem q_284_1236 : p_tb 284 1236 = some (.invokevirtual 167, 3) := by decide +kernel
theorem t_mv_284_167 : p_f2 p_mv (p_mK 284) 167 = some 115 := by decide +kernel
theorem q_284_1239 : p_tb 284 1239 = some (.pop, 1) := by decide +kernel
theorem q_284_1240 : p_tb 284 1240 = some (.aload_n 2, 1) := by decide +kernel
theorem q_284_1241 : p_tb 284 1241 = some (.aload_n 0, 1) := by decide +kernel
theorem q_284_1242 : p_tb 284 1242 = some (.iload 4, 2) := by decide +kernel
theorem q_284_1244 : p_tb 284 1244 = some (.iconst 1, 1) := by decide +kernel
theorem q_284_1245 : p_tb 284 1245 = some (.iadd, 1) := by decide +kernel
theorem q_284_1246 : p_tb 284 1246 = some (.iaload, 1) := by decide +kernel
theorem q_284_1247 : p_tb 284 1247 = some (.aload_n 0, 1) := by decide +kernel
theorem q_284_1248 : p_tb 284 1248 = some (.iload 4, 2) := by decide +kernel
theorem q_284_1250 : p_tb 284 1250 = some (.iconst 2, 1) := by decide +kernel
theorem q_284_1251 : p_tb 284 1251 = some (.iadd, 1) := by decide +kernel
theorem q_284_1252 : p_tb 284 1252 = some (.iaload, 1) := by decide +kernel
theorem q_284_1253 : p_tb 284 1253 = some (.invokevirtual 170, 3) := by decide +kernel
theorem t_mv_284_170 : p_f2 p_mv (p_mK 284) 170 = some 250 := by decide +kernel
theorem q_284_1256 : p_tb 284 1256 = some (.pop, 1) := by decide +kernel
theorem q_284_1257 : p_tb 284 1257 = some (.goto 289, 3) := by decide +kernel
theorem q_284_1260 : p_tb 284 1260 = some (.aload_n 1, 1) := by decide +kernel
theorem q_284_1261 : p_tb 284 1261 = some (.aload_n 0, 1) := by decide +kernel
theorem q_284_1262 : p_tb 284 1262 = some (.iload 4, 2) := by decide +kernel
theorem q_284_1264 : p_tb 284 1264 = some (.iconst 1, 1) := by decide +kernel
theorem q_284_1265 : p_tb 284 1265 = some (.iadd, 1) := by decide +kernel
theorem q_284_1266 : p_tb 284 1266 = some (.iaload, 1) := by decide +kernel
theorem q_284_1267 : p_tb 284 1267 = some (.aload_n 0, 1) := by decide +kernel
theorem q_284_1268 : p_tb 284 1268 = some (.iload 4, 2) := by decide +kernel
theorem q_284_1270 : p_tb 284 1270 = some (.iconst 2, 1) := by decide +kernel
theorem q_284_1271 : p_tb 284 1271 = some (.iadd, 1) := by decide +kernel
theorem q_284_1272 : p_tb 284 1272 = some (.iaload, 1) := by decide +kernel
theorem q_284_1273 : p_tb 284 1273 = some (.invokevirtual 171, 3) := by decide +kernel
theorem t_mv_284_171 : p_f2 p_mv (p_mK 284) 171 = some 116 := by decide +kernel
theorem q_284_1276 : p_tb 284 1276 = some (.pop, 1) := by decide +kernel
theorem q_284_1277 : p_tb 284 1277 = some (.aload_n 2, 1) := by decide +kernel
theorem q_284_1278 : p_tb 284 1278 = some (.aload_n 0, 1) := by decide +kernel
theorem q_284_1279 : p_tb 284 1279 = some (.iload 4, 2) := by decide +kernel
theorem q_284_1281 : p_tb 284 1281 = some (.iconst 1, 1) := by decide +kernel
theorem q_284_1282 : p_tb 284 1282 = some (.iadd, 1) := by decide +kernel
theorem q_284_1283 : p_tb 284 1283 = some (.iaload, 1) := by decide +kernel
theorem q_284_1284 : p_tb 284 1284 = some (.aload_n 0, 1) := by decide +kernel
theorem q_284_1285 : p_tb 284 1285 = some (.iload 4, 2) := by decide +kernel
theorem q_284_1287 : p_tb 284 1287 = some (.iconst 2, 1) := by decide +kernel
theorem q_284_1288 : p_tb 284 1288 = some (.iadd, 1) := by decide +kernel
theorem q_284_1289 : p_tb 284 1289 = some (.iaload, 1) := by decide +kernel
theorem q_284_1290 : p_tb 284 1290 = some (.invokevirtual 174, 3) := by decide +kernel
theorem t_mv_284_174 : p_f2 p_mv (p_mK 284) 174 = some 251 := by decide +kernel
theorem q_284_1293 : p_tb 284 1293 = some (.pop, 1) := by decide +kernel
theorem q_284_1294 : p_tb 284 1294 = some (.goto 252, 3) := by decide +kernel
theorem q_284_1297 : p_tb 284 1297 = some (.aload_n 1, 1) := by decide +kernel
theorem q_284_1298 : p_tb 284 1298 = some (.aload_n 0, 1) := by decide +kernel
theorem q_284_1299 : p_tb 284 1299 = some (.iload 4, 2) := by decide +kernel
theorem q_284_1301 : p_tb 284 1301 = some (.iconst 1, 1) := by decide +kernel
theorem q_284_1302 : p_tb 284 1302 = some (.iadd, 1) := by decide +kernel
theorem q_284_1303 : p_tb 284 1303 = some (.iaload, 1) := by decide +kernel
theorem q_284_1304 : p_tb 284 1304 = some (.aload_n 0, 1) := by decide +kernel
theorem q_284_1305 : p_tb 284 1305 = some (.iload 4, 2) := by decide +kernel
theorem q_284_1307 : p_tb 284 1307 = some (.iconst 2, 1) := by decide +kernel
theorem q_284_1308 : p_tb 284 1308 = some (.iadd, 1) := by decide +kernel
theorem q_284_1309 : p_tb 284 1309 = some (.iaload, 1) := by decide +kernel
theorem q_284_1310 : p_tb 284 1310 = some (.invokevirtual 175, 3) := by decide +kernel
theorem t_mv_284_175 : p_f2 p_mv (p_mK 284) 175 = some 123 := by decide +kernel
theorem q_284_1313 : p_tb 284 1313 = some (.pop, 1) := by decide +kernel
theorem q_284_1314 : p_tb 284 1314 = some (.aload_n 2, 1) := by decide +kernel
theorem q_284_1315 : p_tb 284 1315 = some (.aload_n 0, 1) := by decide +kernel
theorem q_284_1316 : p_tb 284 1316 = some (.iload 4, 2) := by decide +kernel
theorem q_284_1318 : p_tb 284 1318 = some (.iconst 1, 1) := by decide +kernel
theorem q_284_1319 : p_tb 284 1319 = some (.iadd, 1) := by decide +kernel
theorem q_284_1320 : p_tb 284 1320 = some (.iaload, 1) := by decide +kernel
theorem q_284_1321 : p_tb 284 1321 = some (.aload_n 0, 1) := by decide +kernel
theorem q_284_1322 : p_tb 284 1322 = some (.iload 4, 2) := by decide +kernel
theorem q_284_1324 : p_tb 284 1324 = some (.iconst 2, 1) := by decide +kernel
theorem q_284_1325 : p_tb 284 1325 = some (.iadd, 1) := by decide +kernel
theorem q_284_1326 : p_tb 284 1326 = some (.iaload, 1) := by decide +kernel
theorem q_284_1327 : p_tb 284 1327 = some (.invokevirtual 178, 3) := by decide +kernel
theorem t_mv_284_178 : p_f2 p_mv (p_mK 284) 178 = some 255 := by decide +kernel
theorem q_284_1330 : p_tb 284 1330 = some (.pop, 1) := by decide +kernel
theorem q_284_1331 : p_tb 284 1331 = some (.goto 215, 3) := by decide +kernel
theorem q_284_1334 : p_tb 284 1334 = some (.aload_n 1, 1) := by decide +kernel
theorem q_284_1335 : p_tb 284 1335 = some (.aload_n 0, 1) := by decide +kernel
theorem q_284_1336 : p_tb 284 1336 = some (.iload 4, 2) := by decide +kernel
theorem q_284_1338 : p_tb 284 1338 = some (.iconst 1, 1) := by decide +kernel
theorem q_284_1339 : p_tb 284 1339 = some (.iadd, 1) := by decide +kernel
theorem q_284_1340 : p_tb 284 1340 = some (.iaload, 1) := by decide +kernel
theorem q_284_1341 : p_tb 284 1341 = some (.aload_n 0, 1) := by decide +kernel
theorem q_284_1342 : p_tb 284 1342 = some (.iload 4, 2) := by decide +kernel
theorem q_284_1344 : p_tb 284 1344 = some (.iconst 2, 1) := by decide +kernel
theorem q_284_1345 : p_tb 284 1345 = some (.iadd, 1) := by decide +kernel
theorem q_284_1346 : p_tb 284 1346 = some (.iaload, 1) := by decide +kernel
theorem q_284_1347 : p_tb 284 1347 = some (.aload_n 0, 1) := by decide +kernel
theorem q_284_1348 : p_tb 284 1348 = some (.iload 4, 2) := by decide +kernel
theorem q_284_1350 : p_tb 284 1350 = some (.iconst 3, 1) := by decide +kernel
theorem q_284_1351 : p_tb 284 1351 = some (.iadd, 1) := by decide +kernel
theorem q_284_1352 : p_tb 284 1352 = some (.iaload, 1) := by decide +kernel
theorem q_284_1353 : p_tb 284 1353 = some (.invokevirtual 179, 3) := by decide +kernel
theorem t_mv_284_179 : p_f2 p_mv (p_mK 284) 179 = some 134 := by decide +kernel
theorem q_284_1356 : p_tb 284 1356 = some (.pop, 1) := by decide +kernel
theorem q_284_1357 : p_tb 284 1357 = some (.aload_n 2, 1) := by decide +kernel
theorem q_284_1358 : p_tb 284 1358 = some (.aload_n 0, 1) := by decide +kernel
theorem q_284_1359 : p_tb 284 1359 = some (.iload 4, 2) := by decide +kernel
theorem q_284_1361 : p_tb 284 1361 = some (.iconst 1, 1) := by decide +kernel
theorem q_284_1362 : p_tb 284 1362 = some (.iadd, 1) := by decide +kernel
theorem q_284_1363 : p_tb 284 1363 = some (.iaload, 1) := by decide +kernel
theorem q_284_1364 : p_tb 284 1364 = some (.aload_n 0, 1) := by decide +kernel
theorem q_284_1365 : p_tb 284 1365 = some (.iload 4, 2) := by decide +kernel
theorem q_284_1367 : p_tb 284 1367 = some (.iconst 2, 1) := by decide +kernel
theorem q_284_1368 : p_tb 284 1368 = some (.iadd, 1) := by decide +kernel
theorem q_284_1369 : p_tb 284 1369 = some (.iaload, 1) := by decide +kernel
theorem q_284_1370 : p_tb 284 1370 = some (.aload_n 0, 1) := by decide +kernel
theorem q_284_1371 : p_tb 284 1371 = some (.iload 4, 2) := by decide +kernel
theorem q_284_1373 : p_tb 284 1373 = some (.iconst 3, 1) := by decide +kernel
theorem q_284_1374 : p_tb 284 1374 = some (.iadd, 1) := by decide +kernel
theorem q_284_1375 : p_tb 284 1375 = some (.iaload, 1) := by decide +kernel
theorem q_284_1376 : p_tb 284 1376 = some (.invokevirtual 182, 3) := by decide +kernel
theorem t_mv_284_182 : p_f2 p_mv (p_mK 284) 182 = some 256 := by decide +kernel
theorem q_284_1379 : p_tb 284 1379 = some (.pop, 1) := by decide +kernel
theorem q_284_1380 : p_tb 284 1380 = some (.goto 166, 3) := by decide +kernel
theorem q_284_1383 : p_tb 284 1383 = some (.aload_n 1, 1) := by decide +kernel
theorem q_284_1384 : p_tb 284 1384 = some (.aload_n 0, 1) := by decide +kernel
theorem q_284_1385 : p_tb 284 1385 = some (.iload 4, 2) := by decide +kernel
theorem q_284_1387 : p_tb 284 1387 = some (.iconst 1, 1) := by decide +kernel
theorem q_284_1388 : p_tb 284 1388 = some (.iadd, 1) := by decide +kernel
theorem q_284_1389 : p_tb 284 1389 = some (.iaload, 1) := by decide +kernel
theorem q_284_1390 : p_tb 284 1390 = some (.invokevirtual 183, 3) := by decide +kernel
theorem t_mv_284_183 : p_f2 p_mv (p_mK 284) 183 = some 106 := by decide +kernel
theorem q_284_1393 : p_tb 284 1393 = some (.pop, 1) := by decide +kernel
theorem q_284_1394 : p_tb 284 1394 = some (.aload_n 2, 1) := by decide +kernel
theorem q_284_1395 : p_tb 284 1395 = some (.aload_n 0, 1) := by decide +kernel
theorem q_284_1396 : p_tb 284 1396 = some (.iload 4, 2) := by decide +kernel
theorem q_284_1398 : p_tb 284 1398 = some (.iconst 1, 1) := by decide +kernel
theorem q_284_1399 : p_tb 284 1399 = some (.iadd, 1) := by decide +kernel
theorem q_284_1400 : p_tb 284 1400 = some (.iaload, 1) := by decide +kernel
theorem q_284_1401 : p_tb 284 1401 = some (.invokevirtual 186, 3) := by decide +kernel
theorem t_mv_284_186 : p_f2 p_mv (p_mK 284) 186 = some 259 := by decide +kernel
theorem q_284_1404 : p_tb 284 1404 = some (.pop, 1) := by decide +kernel
theorem q_284_1405 : p_tb 284 1405 = some (.goto 141, 3) := by decide +kernel
theorem q_284_1408 : p_tb 284 1408 = some (.aload_n 1, 1) := by decide +kernel
theorem q_284_1409 : p_tb 284 1409 = some (.aload_n 0, 1) := by decide +kernel
theorem q_284_1410 : p_tb 284 1410 = some (.iload 4, 2) := by decide +kernel
theorem q_284_1412 : p_tb 284 1412 = some (.iconst 1, 1) := by decide +kernel
theorem q_284_1413 : p_tb 284 1413 = some (.iadd, 1) := by decide +kernel
theorem q_284_1414 : p_tb 284 1414 = some (.iaload, 1) := by decide +kernel
theorem q_284_1415 : p_tb 284 1415 = some (.invokevirtual 187, 3) := by decide +kernel
theorem t_mv_284_187 : p_f2 p_mv (p_mK 284) 187 = some 107 := by decide +kernel
theorem q_284_1418 : p_tb 284 1418 = some (.pop, 1) := by decide +kernel
theorem q_284_1419 : p_tb 284 1419 = some (.aload_n 2, 1) := by decide +kernel
theorem q_284_1420 : p_tb 284 1420 = some (.aload_n 0, 1) := by decide +kernel
theorem q_284_1421 : p_tb 284 1421 = some (.iload 4, 2) := by decide +kernel
theorem q_284_1423 : p_tb 284 1423 = some (.iconst 1, 1) := by decide +kernel
theorem q_284_1424 : p_tb 284 1424 = some (.iadd, 1) := by decide +kernel
theorem q_284_1425 : p_tb 284 1425 = some (.iaload, 1) := by decide +kernel
theorem q_284_1426 : p_tb 284 1426 = some (.invokevirtual 190, 3) := by decide +kernel
theorem t_mv_284_190 : p_f2 p_mv (p_mK 284) 190 = some 260 := by decide +kernel
theorem q_284_1429 : p_tb 284 1429 = some (.pop, 1) := by decide +kernel
theorem q_284_1430 : p_tb 284 1430 = some (.goto 116, 3) := by decide +kernel
theorem q_284_1433 : p_tb 284 1433 = some (.aload_n 1, 1) := by decide +kernel
theorem q_284_1434 : p_tb 284 1434 = some (.invokevirtual 191, 3) := by decide +kernel
theorem t_mv_284_191 : p_f2 p_mv (p_mK 284) 191 = some 104 := by decide +kernel
theorem q_284_1437 : p_tb 284 1437 = some (.pop, 1) := by decide +kernel
theorem q_284_1438 : p_tb 284 1438 = some (.aload_n 2, 1) := by decide +kernel
theorem q_284_1439 : p_tb 284 1439 = some (.invokevirtual 194, 3) := by decide +kernel
theorem t_mv_284_194 : p_f2 p_mv (p_mK 284) 194 = some 267 := by decide +kernel
theorem q_284_1442 : p_tb 284 1442 = some (.pop, 1) := by decide +kernel
theorem q_284_1443 : p_tb 284 1443 = some (.goto 103, 3) := by decide +kernel
theorem q_284_1446 : p_tb 284 1446 = some (.aload_n 1, 1) := by decide +kernel
theorem q_284_1447 : p_tb 284 1447 = some (.aload_n 0, 1) := by decide +kernel
theorem q_284_1448 : p_tb 284 1448 = some (.iload 4, 2) := by decide +kernel
theorem q_284_1450 : p_tb 284 1450 = some (.iconst 1, 1) := by decide +kernel
theorem q_284_1451 : p_tb 284 1451 = some (.iadd, 1) := by decide +kernel
theorem q_284_1452 : p_tb 284 1452 = some (.iaload, 1) := by decide +kernel
theorem q_284_1453 : p_tb 284 1453 = some (.invokevirtual 195, 3) := by decide +kernel
theorem t_mv_284_195 : p_f2 p_mv (p_mK 284) 195 = some 105 := by decide +kernel
theorem q_284_1456 : p_tb 284 1456 = some (.pop, 1) := by decide +kernel
theorem q_284_1457 : p_tb 284 1457 = some (.aload_n 2, 1) := by decide +kernel
theorem q_284_1458 : p_tb 284 1458 = some (.aload_n 0, 1) := by decide +kernel
theorem q_284_1459 : p_tb 284 1459 = some (.iload 4, 2) := by decide +kernel
theorem q_284_1461 : p_tb 284 1461 = some (.iconst 1, 1) := by decide +kernel
theorem q_284_1462 : p_tb 284 1462 = some (.iadd, 1) := by decide +kernel
theorem q_284_1463 : p_tb 284 1463 = some (.iaload, 1) := by decide +kernel
theorem q_284_1464 : p_tb 284 1464 = some (.invokevirtual 198, 3) := by decide +kernel
theorem t_mv_284_198 : p_f2 p_mv (p_mK 284) 198 = some 271 := by decide +kernel
theorem q_284_1467 : p_tb 284 1467 = some (.pop, 1) := by decide +kernel
theorem q_284_1468 : p_tb 284 1468 = some (.goto 78, 3) := by decide +kernel
theorem q_284_1471 : p_tb 284 1471 = some (.aload_n 1, 1) := by decide +kernel
theorem q_284_1472 : p_tb 284 1472 = some (.aload_n 0, 1) := by decide +kernel
theorem q_284_1473 : p_tb 284 1473 = some (.iload 4, 2) := by decide +kernel
theorem q_284_1475 : p_tb 284 1475 = some (.iconst 1, 1) := by decide +kernel
theorem q_284_1476 : p_tb 284 1476 = some (.iadd, 1) := by decide +kernel
theorem q_284_1477 : p_tb 284 1477 = some (.iaload, 1) := by decide +kernel
theorem q_284_1478 : p_tb 284 1478 = some (.invokevirtual 199, 3) := by decide +kernel
theorem t_mv_284_199 : p_f2 p_mv (p_mK 284) 199 = some 125 := by decide +kernel
theorem q_284_1481 : p_tb 284 1481 = some (.pop, 1) := by decide +kernel
theorem q_284_1482 : p_tb 284 1482 = some (.aload_n 2, 1) := by decide +kernel
theorem q_284_1483 : p_tb 284 1483 = some (.aload_n 0, 1) := by decide +kernel
theorem q_284_1484 : p_tb 284 1484 = some (.iload 4, 2) := by decide +kernel
theorem q_284_1486 : p_tb 284 1486 = some (.iconst 1, 1) := by decide +kernel
theorem q_284_1487 : p_tb 284 1487 = some (.iadd, 1) := by decide +kernel
theorem q_284_1488 : p_tb 284 1488 = some (.iaload, 1) := by decide +kernel
theorem q_284_1489 : p_tb 284 1489 = some (.invokevirtual 202, 3) := by decide +kernel
theorem t_mv_284_202 : p_f2 p_mv (p_mK 284) 202 = some 272 := by decide +kernel
theorem q_284_1492 : p_tb 284 1492 = some (.pop, 1) := by decide +kernel
theorem q_284_1493 : p_tb 284 1493 = some (.goto 53, 3) := by decide +kernel
theorem q_284_1496 : p_tb 284 1496 = some (.aload_n 1, 1) := by decide +kernel
theorem q_284_1497 : p_tb 284 1497 = some (.aload_n 0, 1) := by decide +kernel
theorem q_284_1498 : p_tb 284 1498 = some (.iload 4, 2) := by decide +kernel
theorem q_284_1500 : p_tb 284 1500 = some (.iconst 1, 1) := by decide +kernel
theorem q_284_1501 : p_tb 284 1501 = some (.iadd, 1) := by decide +kernel
theorem q_284_1502 : p_tb 284 1502 = some (.iaload, 1) := by decide +kernel
theorem q_284_1503 : p_tb 284 1503 = some (.invokevirtual 203, 3) := by decide +kernel
theorem t_mv_284_203 : p_f2 p_mv (p_mK 284) 203 = some 126 := by decide +kernel
theorem q_284_1506 : p_tb 284 1506 = some (.pop, 1) := by decide +kernel
theorem q_284_1507 : p_tb 284 1507 = some (.aload_n 2, 1) := by decide +kernel
theorem q_284_1508 : p_tb 284 1508 = some (.aload_n 0, 1) := by decide +kernel
theorem q_284_1509 : p_tb 284 1509 = some (.iload 4, 2) := by decide +kernel
theorem q_284_1511 : p_tb 284 1511 = some (.iconst 1, 1) := by decide +kernel
theorem q_284_1512 : p_tb 284 1512 = some (.iadd, 1) := by decide +kernel
theorem q_284_1513 : p_tb 284 1513 = some (.iaload, 1) := by decide +kernel
theorem q_284_1514 : p_tb 284 1514 = some (.invokevirtual 206, 3) := by decide +kernel
theorem t_mv_284_206 : p_f2 p_mv (p_mK 284) 206 = some 273 := by decide +kernel
theorem q_284_1517 : p_tb 284 1517 = some (.pop, 1) := by decide +kernel
theorem q_284_1518 : p_tb 284 1518 = some (.goto 28, 3) := by decide +kernel
theorem q_284_1521 : p_tb 284 1521 = some (.aload_n 1, 1) := by decide +kernel
theorem q_284_1522 : p_tb 284 1522 = some (.aload_n 0, 1) := by decide +kernel
theorem q_284_1523 : p_tb 284 1523 = some (.iload 4, 2) := by decide +kernel
theorem q_284_1525 : p_tb 284 1525 = some (.iconst 1, 1) := by decide +kernel
theorem q_284_1526 : p_tb 284 1526 = some (.iadd, 1) := by decide +kernel
theorem q_284_1527 : p_tb 284 1527 = some (.iaload, 1) := by decide +kernel
theorem q_284_1528 : p_tb 284 1528 = some (.invokevirtual 207, 3) := by decide +kernel
theorem t_mv_284_207 : p_f2 p_mv (p_mK 284) 207 = some 111 := by decide +kernel
theorem q_284_1531 : p_tb 284 1531 = some (.pop, 1) := by decide +kernel
theorem q_284_1532 : p_tb 284 1532 = some (.aload_n 2, 1) := by decide +kernel
theorem q_284_1533 : p_tb 284 1533 = some (.aload_n 0, 1) := by decide +kernel
theorem q_284_1534 : p_tb 284 1534 = some (.iload 4, 2) := by decide +kernel
theorem q_284_1536 : p_tb 284 1536 = some (.iconst 1, 1) := by decide +kernel
theorem q_284_1537 : p_tb 284 1537 = some (.iadd, 1) := by decide +kernel
theorem q_284_1538 : p_tb 284 1538 = some (.iaload, 1) := by decide +kernel
theorem q_284_1539 : p_tb 284 1539 = some (.invokevirtual 210, 3) := by decide +kernel
theorem t_mv_284_210 : p_f2 p_mv (p_mK 284) 210 = some 274 := by decide +kernel
theorem q_284_1542 : p_tb 284 1542 = some (.pop, 1) := by decide +kernel
theorem q_284_1543 : p_tb 284 1543 = some (.goto 3, 3) := by decide +kernel
def law_K : pK := (fun v _ _ => v = some (.int 1), fun _ _ _ _ _ _ _ => False)
def law_lv (i : Int32) : List (Nat × Value) := [(0, .ref 65564), (1, .ref 0), (2, .ref 294), (3, .ref 310), (4, .int i)]
theorem PW.cs {G : pG} {al : Bool} {d j mc ms : Nat} {Kr : pK} {pc : Nat} {lv : List (Nat × Value)} {st : List Value} {N : Nat} {M : pM} {ce sl ce' sl' : Nat} (e1 : ce = ce') (e2 : sl = sl') (k : PW G al d j mc ms Kr pc lv st N M ce' sl') : PW G al d j mc ms Kr pc lv st N M ce sl := by subst e1; subst e2; exact k
abbrev law_N (G : pG) (i : Int32) (M : pM) (c : Nat) : Prop := PX G false 60 284 1000 13000 law_K 23 (law_lv i) [] 311 M (311 + c) (8628 + 6 * c)
abbrev law_C (G : pG) (pc : Nat) : Prop := ∀ (i : Int32) (M : pM) (c : Nat), 0 ≤ i.toInt → i.toInt + 6 ≤ (G.2.2.2.2.1 : Int) → G.2.2.2.2.1 ≤ 3072 → LI M → 6 * (c : Int) ≤ i.toInt → (∀ (M1 : pM) (c1 : Nat) (i1 : Int32), LI M1 → c1 ≤ c + 1 → i1.toInt = i.toInt + 6 → law_N G i1 M1 c1) → PX G false 60 284 1000 13000 law_K pc (law_lv i) [] 311 M (311 + c) (8628 + 6 * c)
set_option maxRecDepth 100000 in
set_option maxHeartbeats 4000000 in
theorem law_feed (G : pG) : law_C G 228 := by
  intro i M c h0 h6 hL J hc kk
  refine PX.run ?_
  refine PW.aload_n q_284_228 rfl ?_
  refine PW.aload_n q_284_229 rfl ?_
  refine PW.iload q_284_230 rfl ?_
  refine PW.cI q_284_232 (by decide) fun c1 hc1 => ?_
  refine PW.addN q_284_233 (by omega) (by omega) fun x2 hx2 => ?_
  refine PW.sld q_284_234 (vp_in_iff.mpr ⟨by omega, by omega⟩) ?_
  refine PW.nmI ?_; intro a3 ea3
  refine PW.aload_n q_284_235 rfl ?_
  refine PW.iload q_284_236 rfl ?_
  refine PW.cI q_284_238 (by decide) fun c4 hc4 => ?_
  refine PW.addN q_284_239 (by omega) (by omega) fun x5 hx5 => ?_
  refine PW.sld q_284_240 (vp_in_iff.mpr ⟨by omega, by omega⟩) ?_
  refine PW.nmI ?_; intro a6 ea6
  refine PW.aload_n q_284_241 rfl ?_
  refine PW.iload q_284_242 rfl ?_
  refine PW.cI q_284_244 (by decide) fun c7 hc7 => ?_
  refine PW.addN q_284_245 (by omega) (by omega) fun x8 hx8 => ?_
  refine PW.sld q_284_246 (vp_in_iff.mpr ⟨by omega, by omega⟩) ?_
  refine PW.nmI ?_; intro a9 ea9
  refine PW.aload_n q_284_247 rfl ?_
  refine PW.iload q_284_248 rfl ?_
  refine PW.cI q_284_250 (by decide) fun c10 hc10 => ?_
  refine PW.addN q_284_251 (by omega) (by omega) fun x11 hx11 => ?_
  refine PW.sld q_284_252 (vp_in_iff.mpr ⟨by omega, by omega⟩) ?_
  refine PW.nmI ?_; intro a12 ea12
  refine PW.aload_n q_284_253 rfl ?_
  refine PW.iload q_284_254 rfl ?_
  refine PW.cI q_284_256 (by decide) fun c13 hc13 => ?_
  refine PW.addN q_284_257 (by omega) (by omega) fun x14 hx14 => ?_
  refine PW.sld q_284_258 (vp_in_iff.mpr ⟨by omega, by omega⟩) ?_
  refine PW.nmI ?_; intro a15 ea15
  refine PW.cV (as := [_, _, _, _, _]) (rest := []) q_284_259 t_mv_284_34 kd_0 J.1.1 (by decide) rfl (by decide) rfl rfl (Nat.le_of_ble_eq_true rfl) (Nat.le_of_ble_eq_true rfl) (by show 311 + c + 0 ≤ 1000; omega) (by show 8628 + 6 * c + 0 ≤ 13000; omega) ?_
  refine PW.up (by decide) (c_X11_feed_vk G _ M J.1 a3 a6 a9 a12 a15 fun y16 M16 IM16 FM16 pM16 => ?_)
  refine PW.pop q_284_262 rfl ?_
  refine PW.aload_n q_284_263 rfl ?_
  refine PW.aload_n q_284_264 rfl ?_
  refine PW.iload q_284_265 rfl ?_
  refine PW.cI q_284_267 (by decide) fun c17 hc17 => ?_
  refine PW.addN q_284_268 (by omega) (by omega) fun x18 hx18 => ?_
  refine PW.sld q_284_269 (vp_in_iff.mpr ⟨by omega, by omega⟩) ?_
  refine PW.nmI ?_; intro a19 ea19
  refine PW.aload_n q_284_270 rfl ?_
  refine PW.iload q_284_271 rfl ?_
  refine PW.cI q_284_273 (by decide) fun c20 hc20 => ?_
  refine PW.addN q_284_274 (by omega) (by omega) fun x21 hx21 => ?_
  refine PW.sld q_284_275 (vp_in_iff.mpr ⟨by omega, by omega⟩) ?_
  refine PW.nmI ?_; intro a22 ea22
  refine PW.aload_n q_284_276 rfl ?_
  refine PW.iload q_284_277 rfl ?_
  refine PW.cI q_284_279 (by decide) fun c23 hc23 => ?_
  refine PW.addN q_284_280 (by omega) (by omega) fun x24 hx24 => ?_
  refine PW.sld q_284_281 (vp_in_iff.mpr ⟨by omega, by omega⟩) ?_
  refine PW.nmI ?_; intro a25 ea25
  refine PW.aload_n q_284_282 rfl ?_
  refine PW.iload q_284_283 rfl ?_
  refine PW.cI q_284_285 (by decide) fun c26 hc26 => ?_
  refine PW.addN q_284_286 (by omega) (by omega) fun x27 hx27 => ?_
  refine PW.sld q_284_287 (vp_in_iff.mpr ⟨by omega, by omega⟩) ?_
  refine PW.nmI ?_; intro a28 ea28
  refine PW.aload_n q_284_288 rfl ?_
  refine PW.iload q_284_289 rfl ?_
  refine PW.cI q_284_291 (by decide) fun c29 hc29 => ?_
  refine PW.addN q_284_292 (by omega) (by omega) fun x30 hx30 => ?_
  refine PW.sld q_284_293 (vp_in_iff.mpr ⟨by omega, by omega⟩) ?_
  refine PW.nmI ?_; intro a31 ea31
  refine PW.cV (as := [_, _, _, _, _]) (rest := []) q_284_294 t_mv_284_38 kd_294 IM16.1 (by decide) rfl (by decide) rfl rfl (Nat.le_of_ble_eq_true rfl) (Nat.le_of_ble_eq_true rfl) (by show 311 + c + 0 + 0 ≤ 1000; omega) (by show 8628 + 6 * c + 0 + 0 ≤ 13000; omega) ?_
  refine PW.up (by decide) (c_X12_feed_vk G _ M16 IM16 a19 a22 a25 a28 a31 fun y32 M32 IM32 FM32 pM32 => ?_)
  have e1 : o_i (M16 294) 2 = o_i (M 294) 2 := by rw [Fr.at FM16 kd_294 rfl]
  have e2 : o_i (M32 1) 1 = o_i (M16 1) 1 := by rw [Fr.at FM32 kd_1 rfl]
  have k0 := J.2.2.1
  have b0 := J.len0
  have f0 : o_i (M32 0) 10 = o_i (M 0) 10 := by rw [(Fr.at FM32 kd_0 rfl), (Fr.at FM16 kd_0 rfl)]
  have f1 : o_i (M32 294) 15 = o_i (M16 294) 15 := pM32.1.i 15 rfl
  have f2 : o_i (M16 294) 15 = o_i (M 294) 15 := by rw [(Fr.at FM16 kd_294 rfl)]
  have fj : o_i (M 0) 10 = o_i (M 294) 15 := J.2.2.2.2.2.2.2.2
  have fe : FE M32 := by unfold FE; omega
  have ei0 : x2 = x18 := n_eq.mpr (by omega)
  have ez0 : a19 = a3 := by rw [ea19, ea3, ei0]
  have ei1 : x5 = x21 := n_eq.mpr (by omega)
  have ez1 : a22 = a6 := by rw [ea22, ea6, ei1]
  have ei2 : x8 = x24 := n_eq.mpr (by omega)
  have ez2 : a25 = a9 := by rw [ea25, ea9, ei2]
  have ei3 : x11 = x27 := n_eq.mpr (by omega)
  have ez3 : a28 = a12 := by rw [ea28, ea12, ei3]
  have ei4 : x14 = x30 := n_eq.mpr (by omega)
  have ez4 : a31 = a15 := by rw [ea31, ea15, ei4]
  have pb := pM32.2; rw [ez0, ez1, ez2, ez3, ez4] at pb
  have bf := BE.feed J (Fr.at FM16 kd_295 rfl) e1 (Fr.at FM32 kd_2 rfl) e2 pM16 pb
  have JM32 : LI M32 := ⟨IM32, by rw [Fr.at FM32 kd_310 rfl, Fr.at FM16 kd_310 rfl]; exact J.2.1, bf.1, bf.2, J.2.2.2.2.1.cg (by rw [Fr.at FM32 kd_300 rfl, Fr.at FM16 kd_300 rfl]), J.2.2.2.2.2.1.cg (by rw [Fr.at FM32 kd_109 rfl, Fr.at FM16 kd_109 rfl]) (by rw [Fr.at FM32 kd_309 rfl, Fr.at FM16 kd_309 rfl]), J.2.2.2.2.2.2.1.cg (by rw [Fr.at FM32 kd_4 rfl, Fr.at FM16 kd_4 rfl]) (by rw [Fr.at FM32 kd_40 rfl, Fr.at FM16 kd_40 rfl]) (by rw [Fr.at FM32 kd_75 rfl, Fr.at FM16 kd_75 rfl]) (by rw [Fr.at FM32 kd_109 rfl, Fr.at FM16 kd_109 rfl]) (by rw [Fr.at FM32 kd_307 rfl, Fr.at FM16 kd_307 rfl]) (gHs.cg gHs.refl (by rw [Fr.at FM32 kd_296 rfl, Fr.at FM16 kd_296 rfl])), J.2.2.2.2.2.2.2.1.cg (by rw [Fr.at FM32 kd_4 rfl, Fr.at FM16 kd_4 rfl]) (by rw [Fr.at FM32 kd_40 rfl, Fr.at FM16 kd_40 rfl]) (by rw [Fr.at FM32 kd_75 rfl, Fr.at FM16 kd_75 rfl]) (by rw [Fr.at FM32 kd_5 rfl, Fr.at FM16 kd_5 rfl]) (by rw [Fr.at FM32 kd_41 rfl, Fr.at FM16 kd_41 rfl]) (by rw [Fr.at FM32 kd_76 rfl, Fr.at FM16 kd_76 rfl]) (by rw [Fr.at FM32 kd_109 rfl, Fr.at FM16 kd_109 rfl]) (by rw [Fr.at FM32 kd_308 rfl, Fr.at FM16 kd_308 rfl]) (by rw [Fr.at FM32 kd_299 rfl, Fr.at FM16 kd_299 rfl]), fe⟩
  refine PW.pop q_284_297 rfl ?_
  refine PW.goto q_284_298 rfl ?_
  refine PW.incN q_284_1546 rfl (by decide) (by decide) (by omega) (by omega) fun x33 hx33 => ?_
  refine PW.goto q_284_1549 rfl ?_
  refine PW.cs (ce' := 311 + c) (sl' := 8628 + 6 * c) (by show 311 + c + 0 + 0 = _; omega) (by show 8628 + 6 * c + 0 + 0 = _; omega) ?_
  refine PW.lvS (lv' := law_lv x33) (lk1 rfl (lk1 rfl (lk1 rfl (lk1 rfl (lk1 rfl lk0))))) ?_
  exact PW.exit (kk M32 c x33 JM32 (by omega) (by omega))
set_option maxRecDepth 100000 in
set_option maxHeartbeats 4000000 in
theorem law_end (G : pG) : law_C G 301 := by
  intro i M c h0 h6 hL J hc kk
  refine PX.run ?_
  refine PW.aload_n q_284_301 rfl ?_
  refine PW.aload_n q_284_302 rfl ?_
  refine PW.iload q_284_303 rfl ?_
  refine PW.cI q_284_305 (by decide) fun c1 hc1 => ?_
  refine PW.addN q_284_306 (by omega) (by omega) fun x2 hx2 => ?_
  refine PW.sld q_284_307 (vp_in_iff.mpr ⟨by omega, by omega⟩) ?_
  refine PW.nmI ?_; intro a3 ea3
  refine PW.cV (as := [_]) (rest := []) q_284_308 t_mv_284_39 kd_0 J.1.1 (by decide) rfl (by decide) rfl rfl (Nat.le_of_ble_eq_true rfl) (Nat.le_of_ble_eq_true rfl) (by show 311 + c + 0 ≤ 1000; omega) (by show 8628 + 6 * c + 0 ≤ 13000; omega) ?_
  refine PW.up (by decide) (c_X11_end_l G _ M J.1 a3 fun y4 M4 IM4 FM4 _ _ pM4 => ?_)
  refine PW.pop q_284_311 rfl ?_
  refine PW.aload_n q_284_312 rfl ?_
  refine PW.aload_n q_284_313 rfl ?_
  refine PW.iload q_284_314 rfl ?_
  refine PW.cI q_284_316 (by decide) fun c5 hc5 => ?_
  refine PW.addN q_284_317 (by omega) (by omega) fun x6 hx6 => ?_
  refine PW.sld q_284_318 (vp_in_iff.mpr ⟨by omega, by omega⟩) ?_
  refine PW.nmI ?_; intro a7 ea7
  refine PW.cV (as := [_]) (rest := []) q_284_319 t_mv_284_43 kd_294 IM4.1 (by decide) rfl (by decide) rfl rfl (Nat.le_of_ble_eq_true rfl) (Nat.le_of_ble_eq_true rfl) (by show 311 + c + 0 + 0 ≤ 1000; omega) (by show 8628 + 6 * c + 0 + 0 ≤ 13000; omega) ?_
  refine PW.up (by decide) (c_X12_end gTT Stab0 G _ M4 IM4 a7 fun y8 M8 IM8 FM8 _ _ pM8 lM8 => ?_)
  have e1 : o_i (M4 294) 2 = o_i (M 294) 2 := by rw [Fr.at FM4 kd_294 rfl]
  have e2 : o_i (M8 1) 1 = o_i (M4 1) 1 := by rw [Fr.at FM8 kd_1 rfl]
  have ei : x2 = x6 := n_eq.mpr (by omega)
  have ez : a3.toInt = a7.toInt := by rw [ea3, ea7, ei]
  have k0 := J.2.2.1
  have b0 := J.len0
  have f0 : o_i (M8 0) 10 = o_i (M 0) 10 := by rw [(Fr.at FM8 kd_0 rfl), (Fr.at FM4 kd_0 rfl)]
  have f1 : o_i (M8 294) 15 = o_i (M4 294) 15 := lM8.2.2
  have f2 : o_i (M4 294) 15 = o_i (M 294) 15 := by rw [(Fr.at FM4 kd_294 rfl)]
  have fj : o_i (M 0) 10 = o_i (M 294) 15 := J.2.2.2.2.2.2.2.2
  have fe : FE M8 := by unfold FE; omega
  have JM8 : LI M8 := ⟨IM8, by rw [Fr.at FM8 kd_310 rfl, Fr.at FM4 kd_310 rfl]; exact J.2.1, by omega, J.2.2.2.1.cg (by rw [Fr.at FM8 kd_2 rfl, Fr.at FM4 kd_2 rfl]) (by rw [Fr.at FM8 kd_295 rfl, Fr.at FM4 kd_295 rfl]) (by omega), J.2.2.2.2.1.cg (by rw [Fr.at FM8 kd_300 rfl, Fr.at FM4 kd_300 rfl]), J.2.2.2.2.2.1.cg (by rw [Fr.at FM8 kd_109 rfl, Fr.at FM4 kd_109 rfl]) (by rw [Fr.at FM8 kd_309 rfl, Fr.at FM4 kd_309 rfl]), J.2.2.2.2.2.2.1.cg (by rw [Fr.at FM8 kd_4 rfl, Fr.at FM4 kd_4 rfl]) (by rw [Fr.at FM8 kd_40 rfl, Fr.at FM4 kd_40 rfl]) (by rw [Fr.at FM8 kd_75 rfl, Fr.at FM4 kd_75 rfl]) (by rw [Fr.at FM8 kd_109 rfl, Fr.at FM4 kd_109 rfl]) (by rw [Fr.at FM8 kd_307 rfl, Fr.at FM4 kd_307 rfl]) (gHs.cg gHs.refl (by rw [Fr.at FM8 kd_296 rfl, Fr.at FM4 kd_296 rfl])), J.2.2.2.2.2.2.2.1.cg (by rw [Fr.at FM8 kd_4 rfl, Fr.at FM4 kd_4 rfl]) (by rw [Fr.at FM8 kd_40 rfl, Fr.at FM4 kd_40 rfl]) (by rw [Fr.at FM8 kd_75 rfl, Fr.at FM4 kd_75 rfl]) (by rw [Fr.at FM8 kd_5 rfl, Fr.at FM4 kd_5 rfl]) (by rw [Fr.at FM8 kd_41 rfl, Fr.at FM4 kd_41 rfl]) (by rw [Fr.at FM8 kd_76 rfl, Fr.at FM4 kd_76 rfl]) (by rw [Fr.at FM8 kd_109 rfl, Fr.at FM4 kd_109 rfl]) (by rw [Fr.at FM8 kd_308 rfl, Fr.at FM4 kd_308 rfl]) (by rw [Fr.at FM8 kd_299 rfl, Fr.at FM4 kd_299 rfl]), fe⟩
  refine PW.pop q_284_322 rfl ?_
  refine PW.goto q_284_323 rfl ?_
  refine PW.incN q_284_1546 rfl (by decide) (by decide) (by omega) (by omega) fun x9 hx9 => ?_
  refine PW.goto q_284_1549 rfl ?_
  refine PW.cs (ce' := 311 + c) (sl' := 8628 + 6 * c) (by show 311 + c + 0 + 0 = _; omega) (by show 8628 + 6 * c + 0 + 0 = _; omega) ?_
  refine PW.lvS (lv' := law_lv x9) (lk1 rfl (lk1 rfl (lk1 rfl (lk1 rfl (lk1 rfl lk0))))) ?_
  exact PW.exit (kk M8 c x9 JM8 (by omega) (by omega))
set_option maxRecDepth 100000 in
set_option maxHeartbeats 4000000 in
theorem law_beach (G : pG) : law_C G 326 := by
  intro i M c h0 h6 hL J hc kk
  refine PX.run ?_
  refine PW.aload_n q_284_326 rfl ?_
  refine PW.cV (as := []) (rest := []) q_284_327 t_mv_284_44 kd_0 J.1.1 (by decide) rfl (by decide) rfl rfl (Nat.le_of_ble_eq_true rfl) (Nat.le_of_ble_eq_true rfl) (by show 311 + c + 0 ≤ 1000; omega) (by show 8628 + 6 * c + 0 ≤ 13000; omega) ?_
  refine PW.up (by decide) (c_X11_beach_vk G _ M J.1  (k_y M) J.tp rfl fun y1 M1 IM1 FM1 pM1 => ?_)
  refine PW.pop q_284_330 rfl ?_
  refine PW.aload_n q_284_331 rfl ?_
  refine PW.cV (as := []) (rest := []) q_284_332 t_mv_284_48 kd_294 IM1.1 (by decide) rfl (by decide) rfl rfl (Nat.le_of_ble_eq_true rfl) (Nat.le_of_ble_eq_true rfl) (by show 311 + c + 0 + 0 ≤ 1000; omega) (by show 8628 + 6 * c + 0 + 0 ≤ 13000; omega) ?_
  refine PW.up (by decide) (c_X12_beach_vk G _ M1 IM1  (k_y M) (J.rtp FM1 rfl rfl rfl) rfl J.y940 fun y2 M2 IM2 FM2 pM2 => ?_)
  have e1 : o_i (M1 294) 2 = o_i (M 294) 2 := by rw [Fr.at FM1 kd_294 rfl]
  have e2 : o_i (M2 1) 1 = o_i (M1 1) 1 := by rw [Fr.at FM2 kd_1 rfl]
  have k0 := J.2.2.1
  have b0 := J.len0
  have fe : FE M2 := by unfold FE; rw [(Fr.at FM2 kd_0 rfl)]; exact pM1.2.2.2.2.trans pM2.2.2.2.2.symm
  have JM2 : LI M2 := ⟨IM2, by rw [Fr.at FM2 kd_310 rfl, Fr.at FM1 kd_310 rfl]; exact J.2.1, by omega, J.2.2.2.1.cg (by rw [Fr.at FM2 kd_2 rfl, Fr.at FM1 kd_2 rfl]) (by rw [Fr.at FM2 kd_295 rfl, Fr.at FM1 kd_295 rfl]) (by omega), J.2.2.2.2.1.cg (by rw [Fr.at FM2 kd_300 rfl, Fr.at FM1 kd_300 rfl]), J.2.2.2.2.2.1.cg (by rw [Fr.at FM2 kd_109 rfl, Fr.at FM1 kd_109 rfl]) (by rw [Fr.at FM2 kd_309 rfl, Fr.at FM1 kd_309 rfl]), J.2.2.2.2.2.2.1.be pM1.2.2.1 pM2.2.2.1 (Fr.at FM1 kd_296 rfl) (Fr.at FM2 kd_4 rfl) (Fr.at FM2 kd_40 rfl) (Fr.at FM2 kd_75 rfl) (by rw [Fr.at FM2 kd_109 rfl, Fr.at FM1 kd_109 rfl]) (by rw [Fr.at FM2 kd_307 rfl, Fr.at FM1 kd_307 rfl]), J.2.2.2.2.2.2.2.1.be J.1.1 pM1.2.2.1 pM1.2.2.2.1 pM2.2.2.2.1 (Fr.at FM2 kd_4 rfl) (Fr.at FM2 kd_40 rfl) (Fr.at FM2 kd_75 rfl) (Fr.at FM2 kd_5 rfl) (Fr.at FM2 kd_41 rfl) (Fr.at FM2 kd_76 rfl) (by rw [Fr.at FM2 kd_109 rfl, Fr.at FM1 kd_109 rfl]) (by rw [Fr.at FM2 kd_308 rfl, Fr.at FM1 kd_308 rfl]) (Fr.at FM1 kd_299 rfl), fe⟩
  refine PW.pop q_284_335 rfl ?_
  refine PW.goto q_284_336 rfl ?_
  refine PW.incN q_284_1546 rfl (by decide) (by decide) (by omega) (by omega) fun x3 hx3 => ?_
  refine PW.goto q_284_1549 rfl ?_
  refine PW.cs (ce' := 311 + c) (sl' := 8628 + 6 * c) (by show 311 + c + 0 + 0 = _; omega) (by show 8628 + 6 * c + 0 + 0 = _; omega) ?_
  refine PW.lvS (lv' := law_lv x3) (lk1 rfl (lk1 rfl (lk1 rfl (lk1 rfl (lk1 rfl lk0))))) ?_
  exact PW.exit (kk M2 c x3 JM2 (by omega) (by omega))
set_option maxRecDepth 100000 in
set_option maxHeartbeats 4000000 in
theorem law_fault (G : pG) : law_C G 339 := by
  intro i M c h0 h6 hL J hc kk
  refine PX.run ?_
  refine PW.aload_n q_284_339 rfl ?_
  refine PW.cV (as := []) (rest := []) q_284_340 t_mv_284_49 kd_0 J.1.1 (by decide) rfl (by decide) rfl rfl (Nat.le_of_ble_eq_true rfl) (Nat.le_of_ble_eq_true rfl) (by show 311 + c + 0 ≤ 1000; omega) (by show 8628 + 6 * c + 0 ≤ 13000; omega) ?_
  refine PW.up (by decide) (c_X11_fault_vk G _ M J.1  fun y1 M1 IM1 FM1 pM1 => ?_)
  refine PW.aload_n q_284_343 rfl ?_
  refine PW.cV (as := []) (rest := [_]) q_284_344 t_mv_284_52 kd_294 IM1.1 (by decide) rfl (by decide) rfl rfl (Nat.le_of_ble_eq_true rfl) (Nat.le_of_ble_eq_true rfl) (by show 311 + c + 0 + 0 ≤ 1000; omega) (by show 8628 + 6 * c + 0 + 0 ≤ 13000; omega) ?_
  refine PW.up (by decide) (c_X12_fault_vk G _ M1 IM1  fun y2 M2 IM2 FM2 pM2 => ?_)
  have e1 : o_i (M1 294) 2 = o_i (M 294) 2 := by rw [Fr.at FM1 kd_294 rfl]
  have e3 : o_i (M1 1) 1 = o_i (M 1) 1 := by rw [Fr.at FM1 kd_1 rfl]
  have e2 : o_i (M2 1) 1 = o_i (M1 1) 1 := by rw [Fr.at FM2 kd_1 rfl]
  have k0 := J.2.2.1
  have b0 := J.len0
  have lf : o_i (M2 294) 2 = o_i (M1 294) 2 := pM2.1.i 2 rfl
  have f0 : o_i (M2 0) 10 = o_i (M 0) 10 := by rw [(Fr.at FM2 kd_0 rfl), (Fr.at FM1 kd_0 rfl)]
  have f1 : o_i (M2 294) 15 = o_i (M1 294) 15 := pM2.1.i 15 rfl
  have f2 : o_i (M1 294) 15 = o_i (M 294) 15 := by rw [(Fr.at FM1 kd_294 rfl)]
  have fj : o_i (M 0) 10 = o_i (M 294) 15 := J.2.2.2.2.2.2.2.2
  have fe : FE M2 := by unfold FE; omega
  have JM2 : LI M2 := ⟨IM2, by rw [Fr.at FM2 kd_310 rfl, Fr.at FM1 kd_310 rfl]; exact J.2.1, by omega, J.2.2.2.1.cg (by rw [Fr.at FM2 kd_2 rfl, Fr.at FM1 kd_2 rfl]) (by rw [Fr.at FM2 kd_295 rfl, Fr.at FM1 kd_295 rfl]) (by omega), J.2.2.2.2.1.cg (by rw [Fr.at FM2 kd_300 rfl, Fr.at FM1 kd_300 rfl]), J.2.2.2.2.2.1.cg (by rw [Fr.at FM2 kd_109 rfl, Fr.at FM1 kd_109 rfl]) (by rw [Fr.at FM2 kd_309 rfl, Fr.at FM1 kd_309 rfl]), J.2.2.2.2.2.2.1.cg (by rw [Fr.at FM2 kd_4 rfl, Fr.at FM1 kd_4 rfl]) (by rw [Fr.at FM2 kd_40 rfl, Fr.at FM1 kd_40 rfl]) (by rw [Fr.at FM2 kd_75 rfl, Fr.at FM1 kd_75 rfl]) (by rw [Fr.at FM2 kd_109 rfl, Fr.at FM1 kd_109 rfl]) (by rw [Fr.at FM2 kd_307 rfl, Fr.at FM1 kd_307 rfl]) (gHs.cg gHs.refl (by rw [Fr.at FM2 kd_296 rfl, Fr.at FM1 kd_296 rfl])), J.2.2.2.2.2.2.2.1.cg (by rw [Fr.at FM2 kd_4 rfl, Fr.at FM1 kd_4 rfl]) (by rw [Fr.at FM2 kd_40 rfl, Fr.at FM1 kd_40 rfl]) (by rw [Fr.at FM2 kd_75 rfl, Fr.at FM1 kd_75 rfl]) (by rw [Fr.at FM2 kd_5 rfl, Fr.at FM1 kd_5 rfl]) (by rw [Fr.at FM2 kd_41 rfl, Fr.at FM1 kd_41 rfl]) (by rw [Fr.at FM2 kd_76 rfl, Fr.at FM1 kd_76 rfl]) (by rw [Fr.at FM2 kd_109 rfl, Fr.at FM1 kd_109 rfl]) (by rw [Fr.at FM2 kd_308 rfl, Fr.at FM1 kd_308 rfl]) (by rw [Fr.at FM2 kd_299 rfl, Fr.at FM1 kd_299 rfl]), fe⟩
  have p1 := pM1.1
  have p2 := pM2.2
  refine PW.jc_eq q_284_347 rfl (fun hj => ?_) (fun hj => False.elim (by omega))
  refine PW.incN q_284_1546 rfl (by decide) (by decide) (by omega) (by omega) fun x3 hx3 => ?_
  refine PW.goto q_284_1549 rfl ?_
  refine PW.cs (ce' := 311 + c) (sl' := 8628 + 6 * c) (by show 311 + c + 0 + 0 = _; omega) (by show 8628 + 6 * c + 0 + 0 = _; omega) ?_
  refine PW.lvS (lv' := law_lv x3) (lk1 rfl (lk1 rfl (lk1 rfl (lk1 rfl (lk1 rfl lk0))))) ?_
  exact PW.exit (kk M2 c x3 JM2 (by omega) (by omega))
set_option maxRecDepth 100000 in
set_option maxHeartbeats 4000000 in
theorem law_walker (G : pG) : law_C G 352 := by
  intro i M c h0 h6 hL J hc kk
  refine PX.run ?_
  refine PW.aload_n q_284_352 rfl ?_
  refine PW.aload_n q_284_353 rfl ?_
  refine PW.iload q_284_354 rfl ?_
  refine PW.cI q_284_356 (by decide) fun c1 hc1 => ?_
  refine PW.addN q_284_357 (by omega) (by omega) fun x2 hx2 => ?_
  refine PW.sld q_284_358 (vp_in_iff.mpr ⟨by omega, by omega⟩) ?_
  refine PW.hvI fun a3 => ?_
  refine PW.aload_n q_284_359 rfl ?_
  refine PW.iload q_284_360 rfl ?_
  refine PW.cI q_284_362 (by decide) fun c4 hc4 => ?_
  refine PW.addN q_284_363 (by omega) (by omega) fun x5 hx5 => ?_
  refine PW.sld q_284_364 (vp_in_iff.mpr ⟨by omega, by omega⟩) ?_
  refine PW.hvI fun a6 => ?_
  refine PW.aload_n q_284_365 rfl ?_
  refine PW.exit ?_
  refine PX.callX (as := [.ref 0, .int a3, .int a6, .ref 310]) (rest := []) q_284_366 t_ms_284_53 wc_walker wc_ini ⟨by decide +kernel, by decide +kernel⟩ (show (parseMethodDescriptor (p_mY 279).desc).map (fun d => d.parameters.length) = some 4 from by decide +kernel) (by decide +kernel) (Nat.le_of_ble_eq_true rfl) (by show 311 + c + 1 ≤ 1000; omega) (by show 8628 + 6 * c + 6 ≤ 13000; omega) (met_walker G a3 a6 M J) ?_
  intro vM7 NM7 M7 hvM7
  obtain ⟨⟨yM7, rfl⟩, rfl, JM7⟩ := hvM7
  refine PX.run ?_
  refine PW.istore q_284_369 (by decide) ?_
  refine PW.aload_n q_284_371 rfl ?_
  refine PW.aload_n q_284_372 rfl ?_
  refine PW.iload q_284_373 rfl ?_
  refine PW.cI q_284_375 (by decide) fun c8 hc8 => ?_
  refine PW.addN q_284_376 (by omega) (by omega) fun x9 hx9 => ?_
  refine PW.sld q_284_377 (vp_in_iff.mpr ⟨by omega, by omega⟩) ?_
  refine PW.hvI fun a10 => ?_
  refine PW.aload_n q_284_378 rfl ?_
  refine PW.iload q_284_379 rfl ?_
  refine PW.cI q_284_381 (by decide) fun c11 hc11 => ?_
  refine PW.addN q_284_382 (by omega) (by omega) fun x12 hx12 => ?_
  refine PW.sld q_284_383 (vp_in_iff.mpr ⟨by omega, by omega⟩) ?_
  refine PW.hvI fun a13 => ?_
  refine PW.cV (as := [_, _]) (rest := []) q_284_384 t_mv_284_58 kd_294 JM7.1.1 (by decide) rfl (by decide) rfl rfl (Nat.le_of_ble_eq_true rfl) (Nat.le_of_ble_eq_true rfl) (by show 311 + c + 1 + 0 ≤ 1000; omega) (by show 8628 + 6 * c + 6 + 0 ≤ 13000; omega) ?_
  refine PW.up (by decide) (c_X12_walker G _ M7 JM7.1 a10 a13 fun y14 M14 IM14 FM14 lM14 => ?_)
  have e2 : o_i (M14 1) 1 = o_i (M7 1) 1 := by rw [Fr.at FM14 kd_1 rfl]
  have lf : o_i (M14 294) 2 = o_i (M7 294) 2 := lM14.1
  have k0 := JM7.2.2.1
  have b0 := JM7.len0
  have f0 : o_i (M14 0) 10 = o_i (M7 0) 10 := by rw [(Fr.at FM14 kd_0 rfl)]
  have f1 : o_i (M14 294) 15 = o_i (M7 294) 15 := lM14.2.2
  have fj : o_i (M7 0) 10 = o_i (M7 294) 15 := JM7.2.2.2.2.2.2.2.2
  have fe : FE M14 := by unfold FE; omega
  have JM14 : LI M14 := ⟨IM14, by rw [Fr.at FM14 kd_310 rfl]; exact JM7.2.1, by omega, JM7.2.2.2.1.cg (by rw [Fr.at FM14 kd_2 rfl]) (by rw [Fr.at FM14 kd_295 rfl]) (by omega), JM7.2.2.2.2.1.cg (by rw [Fr.at FM14 kd_300 rfl]), JM7.2.2.2.2.2.1.cg (by rw [Fr.at FM14 kd_109 rfl]) (by rw [Fr.at FM14 kd_309 rfl]), JM7.2.2.2.2.2.2.1.cg (by rw [Fr.at FM14 kd_4 rfl]) (by rw [Fr.at FM14 kd_40 rfl]) (by rw [Fr.at FM14 kd_75 rfl]) (by rw [Fr.at FM14 kd_109 rfl]) (by rw [Fr.at FM14 kd_307 rfl]) (gHs.cg gHs.refl (by rw [Fr.at FM14 kd_296 rfl])), JM7.2.2.2.2.2.2.2.1.cg (by rw [Fr.at FM14 kd_4 rfl]) (by rw [Fr.at FM14 kd_40 rfl]) (by rw [Fr.at FM14 kd_75 rfl]) (by rw [Fr.at FM14 kd_5 rfl]) (by rw [Fr.at FM14 kd_41 rfl]) (by rw [Fr.at FM14 kd_76 rfl]) (by rw [Fr.at FM14 kd_109 rfl]) (by rw [Fr.at FM14 kd_308 rfl]) (by rw [Fr.at FM14 kd_299 rfl]), fe⟩
  refine PW.istore q_284_387 (by decide) ?_
  refine PW.goto q_284_389 rfl ?_
  refine PW.incN q_284_1546 rfl (by decide) (by decide) (by omega) (by omega) fun x15 hx15 => ?_
  refine PW.goto q_284_1549 rfl ?_
  refine PW.cs (ce' := 311 + (c + 1)) (sl' := 8628 + 6 * (c + 1)) (by show 311 + c + 1 + 0 = _; omega) (by show 8628 + 6 * c + 6 + 0 = _; omega) ?_
  refine PW.lvS (lv' := law_lv x15) (lk1 rfl (lk1 rfl (lk1 rfl (lk1 rfl (lk1 rfl lk0))))) ?_
  exact PW.exit (kk M14 (c + 1) x15 JM14 (by omega) (by omega))
set_option maxRecDepth 100000 in
set_option maxHeartbeats 4000000 in
theorem law_dog (G : pG) : law_C G 392 := by
  intro i M c h0 h6 hL J hc kk
  refine PX.run ?_
  refine PW.aload_n q_284_392 rfl ?_
  refine PW.aload_n q_284_393 rfl ?_
  refine PW.iload q_284_394 rfl ?_
  refine PW.cI q_284_396 (by decide) fun c1 hc1 => ?_
  refine PW.addN q_284_397 (by omega) (by omega) fun x2 hx2 => ?_
  refine PW.sld q_284_398 (vp_in_iff.mpr ⟨by omega, by omega⟩) ?_
  refine PW.hvI fun a3 => ?_
  refine PW.aload_n q_284_399 rfl ?_
  refine PW.iload q_284_400 rfl ?_
  refine PW.cI q_284_402 (by decide) fun c4 hc4 => ?_
  refine PW.addN q_284_403 (by omega) (by omega) fun x5 hx5 => ?_
  refine PW.sld q_284_404 (vp_in_iff.mpr ⟨by omega, by omega⟩) ?_
  refine PW.hvI fun a6 => ?_
  refine PW.aload_n q_284_405 rfl ?_
  refine PW.exit ?_
  refine PX.callX (as := [.ref 0, .int a3, .int a6, .ref 310]) (rest := []) q_284_406 t_ms_284_59 wc_dog wc_ini ⟨by decide +kernel, by decide +kernel⟩ (show (parseMethodDescriptor (p_mY 280).desc).map (fun d => d.parameters.length) = some 4 from by decide +kernel) (by decide +kernel) (Nat.le_of_ble_eq_true rfl) (by show 311 + c + 1 ≤ 1000; omega) (by show 8628 + 6 * c + 6 ≤ 13000; omega) (met_dog G a3 a6 M J) ?_
  intro vM7 NM7 M7 hvM7
  obtain ⟨⟨yM7, rfl⟩, rfl, JM7⟩ := hvM7
  refine PX.run ?_
  refine PW.istore q_284_409 (by decide) ?_
  refine PW.aload_n q_284_411 rfl ?_
  refine PW.aload_n q_284_412 rfl ?_
  refine PW.iload q_284_413 rfl ?_
  refine PW.cI q_284_415 (by decide) fun c8 hc8 => ?_
  refine PW.addN q_284_416 (by omega) (by omega) fun x9 hx9 => ?_
  refine PW.sld q_284_417 (vp_in_iff.mpr ⟨by omega, by omega⟩) ?_
  refine PW.hvI fun a10 => ?_
  refine PW.aload_n q_284_418 rfl ?_
  refine PW.iload q_284_419 rfl ?_
  refine PW.cI q_284_421 (by decide) fun c11 hc11 => ?_
  refine PW.addN q_284_422 (by omega) (by omega) fun x12 hx12 => ?_
  refine PW.sld q_284_423 (vp_in_iff.mpr ⟨by omega, by omega⟩) ?_
  refine PW.hvI fun a13 => ?_
  refine PW.cV (as := [_, _]) (rest := []) q_284_424 t_mv_284_61 kd_294 JM7.1.1 (by decide) rfl (by decide) rfl rfl (Nat.le_of_ble_eq_true rfl) (Nat.le_of_ble_eq_true rfl) (by show 311 + c + 1 + 0 ≤ 1000; omega) (by show 8628 + 6 * c + 6 + 0 ≤ 13000; omega) ?_
  refine PW.up (by decide) (c_X12_dog G _ M7 JM7.1 a10 a13 fun y14 M14 IM14 FM14 lM14 => ?_)
  have e2 : o_i (M14 1) 1 = o_i (M7 1) 1 := by rw [Fr.at FM14 kd_1 rfl]
  have lf : o_i (M14 294) 2 = o_i (M7 294) 2 := lM14.1
  have k0 := JM7.2.2.1
  have b0 := JM7.len0
  have f0 : o_i (M14 0) 10 = o_i (M7 0) 10 := by rw [(Fr.at FM14 kd_0 rfl)]
  have f1 : o_i (M14 294) 15 = o_i (M7 294) 15 := lM14.2.2
  have fj : o_i (M7 0) 10 = o_i (M7 294) 15 := JM7.2.2.2.2.2.2.2.2
  have fe : FE M14 := by unfold FE; omega
  have JM14 : LI M14 := ⟨IM14, by rw [Fr.at FM14 kd_310 rfl]; exact JM7.2.1, by omega, JM7.2.2.2.1.cg (by rw [Fr.at FM14 kd_2 rfl]) (by rw [Fr.at FM14 kd_295 rfl]) (by omega), JM7.2.2.2.2.1.cg (by rw [Fr.at FM14 kd_300 rfl]), JM7.2.2.2.2.2.1.cg (by rw [Fr.at FM14 kd_109 rfl]) (by rw [Fr.at FM14 kd_309 rfl]), JM7.2.2.2.2.2.2.1.cg (by rw [Fr.at FM14 kd_4 rfl]) (by rw [Fr.at FM14 kd_40 rfl]) (by rw [Fr.at FM14 kd_75 rfl]) (by rw [Fr.at FM14 kd_109 rfl]) (by rw [Fr.at FM14 kd_307 rfl]) (gHs.cg gHs.refl (by rw [Fr.at FM14 kd_296 rfl])), JM7.2.2.2.2.2.2.2.1.cg (by rw [Fr.at FM14 kd_4 rfl]) (by rw [Fr.at FM14 kd_40 rfl]) (by rw [Fr.at FM14 kd_75 rfl]) (by rw [Fr.at FM14 kd_5 rfl]) (by rw [Fr.at FM14 kd_41 rfl]) (by rw [Fr.at FM14 kd_76 rfl]) (by rw [Fr.at FM14 kd_109 rfl]) (by rw [Fr.at FM14 kd_308 rfl]) (by rw [Fr.at FM14 kd_299 rfl]), fe⟩
  refine PW.istore q_284_427 (by decide) ?_
  refine PW.goto q_284_429 rfl ?_
  refine PW.incN q_284_1546 rfl (by decide) (by decide) (by omega) (by omega) fun x15 hx15 => ?_
  refine PW.goto q_284_1549 rfl ?_
  refine PW.cs (ce' := 311 + (c + 1)) (sl' := 8628 + 6 * (c + 1)) (by show 311 + c + 1 + 0 = _; omega) (by show 8628 + 6 * c + 6 + 0 = _; omega) ?_
  refine PW.lvS (lv' := law_lv x15) (lk1 rfl (lk1 rfl (lk1 rfl (lk1 rfl (lk1 rfl lk0))))) ?_
  exact PW.exit (kk M14 (c + 1) x15 JM14 (by omega) (by omega))
set_option maxRecDepth 100000 in
set_option maxHeartbeats 4000000 in
theorem law_now (G : pG) : law_C G 432 := by
  intro i M c h0 h6 hL J hc kk
  refine PX.run ?_
  refine PW.aload_n q_284_432 rfl ?_
  refine PW.aload_n q_284_433 rfl ?_
  refine PW.iload q_284_434 rfl ?_
  refine PW.cI q_284_436 (by decide) fun c1 hc1 => ?_
  refine PW.addN q_284_437 (by omega) (by omega) fun x2 hx2 => ?_
  refine PW.sld q_284_438 (vp_in_iff.mpr ⟨by omega, by omega⟩) ?_
  refine PW.hvI fun a3 => ?_
  refine PW.cV (as := [_]) (rest := []) q_284_439 t_mv_284_62 kd_0 J.1.1 (by decide) rfl (by decide) rfl rfl (Nat.le_of_ble_eq_true rfl) (Nat.le_of_ble_eq_true rfl) (by show 311 + c + 0 ≤ 1000; omega) (by show 8628 + 6 * c + 0 ≤ 13000; omega) ?_
  refine PW.up (by decide) (c_X11_now G _ M J.1 a3 fun y4 M4 IM4 FM4 => ?_)
  refine PW.pop q_284_442 rfl ?_
  refine PW.aload_n q_284_443 rfl ?_
  refine PW.aload_n q_284_444 rfl ?_
  refine PW.iload q_284_445 rfl ?_
  refine PW.cI q_284_447 (by decide) fun c5 hc5 => ?_
  refine PW.addN q_284_448 (by omega) (by omega) fun x6 hx6 => ?_
  refine PW.sld q_284_449 (vp_in_iff.mpr ⟨by omega, by omega⟩) ?_
  refine PW.hvI fun a7 => ?_
  refine PW.cV (as := [_]) (rest := []) q_284_450 t_mv_284_66 kd_294 IM4.1 (by decide) rfl (by decide) rfl rfl (Nat.le_of_ble_eq_true rfl) (Nat.le_of_ble_eq_true rfl) (by show 311 + c + 0 + 0 ≤ 1000; omega) (by show 8628 + 6 * c + 0 + 0 ≤ 13000; omega) ?_
  refine PW.up (by decide) (c_X12_now G _ M4 IM4 a7 fun y8 M8 IM8 FM8 lM8 => ?_)
  have e1 : o_i (M4 294) 2 = o_i (M 294) 2 := by rw [Fr.at FM4 kd_294 rfl]
  have e3 : o_i (M4 1) 1 = o_i (M 1) 1 := by rw [Fr.at FM4 kd_1 rfl]
  have e2 : o_i (M8 1) 1 = o_i (M4 1) 1 := by rw [Fr.at FM8 kd_1 rfl]
  have lf : o_i (M8 294) 2 = o_i (M4 294) 2 := lM8.1
  have k0 := J.2.2.1
  have b0 := J.len0
  have f0 : o_i (M8 0) 10 = o_i (M 0) 10 := by rw [(Fr.at FM8 kd_0 rfl), (Fr.at FM4 kd_0 rfl)]
  have f1 : o_i (M8 294) 15 = o_i (M4 294) 15 := lM8.2.2
  have f2 : o_i (M4 294) 15 = o_i (M 294) 15 := by rw [(Fr.at FM4 kd_294 rfl)]
  have fj : o_i (M 0) 10 = o_i (M 294) 15 := J.2.2.2.2.2.2.2.2
  have fe : FE M8 := by unfold FE; omega
  have JM8 : LI M8 := ⟨IM8, by rw [Fr.at FM8 kd_310 rfl, Fr.at FM4 kd_310 rfl]; exact J.2.1, by omega, J.2.2.2.1.cg (by rw [Fr.at FM8 kd_2 rfl, Fr.at FM4 kd_2 rfl]) (by rw [Fr.at FM8 kd_295 rfl, Fr.at FM4 kd_295 rfl]) (by omega), J.2.2.2.2.1.cg (by rw [Fr.at FM8 kd_300 rfl, Fr.at FM4 kd_300 rfl]), J.2.2.2.2.2.1.cg (by rw [Fr.at FM8 kd_109 rfl, Fr.at FM4 kd_109 rfl]) (by rw [Fr.at FM8 kd_309 rfl, Fr.at FM4 kd_309 rfl]), J.2.2.2.2.2.2.1.cg (by rw [Fr.at FM8 kd_4 rfl, Fr.at FM4 kd_4 rfl]) (by rw [Fr.at FM8 kd_40 rfl, Fr.at FM4 kd_40 rfl]) (by rw [Fr.at FM8 kd_75 rfl, Fr.at FM4 kd_75 rfl]) (by rw [Fr.at FM8 kd_109 rfl, Fr.at FM4 kd_109 rfl]) (by rw [Fr.at FM8 kd_307 rfl, Fr.at FM4 kd_307 rfl]) (gHs.cg gHs.refl (by rw [Fr.at FM8 kd_296 rfl, Fr.at FM4 kd_296 rfl])), J.2.2.2.2.2.2.2.1.cg (by rw [Fr.at FM8 kd_4 rfl, Fr.at FM4 kd_4 rfl]) (by rw [Fr.at FM8 kd_40 rfl, Fr.at FM4 kd_40 rfl]) (by rw [Fr.at FM8 kd_75 rfl, Fr.at FM4 kd_75 rfl]) (by rw [Fr.at FM8 kd_5 rfl, Fr.at FM4 kd_5 rfl]) (by rw [Fr.at FM8 kd_41 rfl, Fr.at FM4 kd_41 rfl]) (by rw [Fr.at FM8 kd_76 rfl, Fr.at FM4 kd_76 rfl]) (by rw [Fr.at FM8 kd_109 rfl, Fr.at FM4 kd_109 rfl]) (by rw [Fr.at FM8 kd_308 rfl, Fr.at FM4 kd_308 rfl]) (by rw [Fr.at FM8 kd_299 rfl, Fr.at FM4 kd_299 rfl]), fe⟩
  refine PW.pop q_284_453 rfl ?_
  refine PW.goto q_284_454 rfl ?_
  refine PW.incN q_284_1546 rfl (by decide) (by decide) (by omega) (by omega) fun x9 hx9 => ?_
  refine PW.goto q_284_1549 rfl ?_
  refine PW.cs (ce' := 311 + c) (sl' := 8628 + 6 * c) (by show 311 + c + 0 + 0 = _; omega) (by show 8628 + 6 * c + 0 + 0 = _; omega) ?_
  refine PW.lvS (lv' := law_lv x9) (lk1 rfl (lk1 rfl (lk1 rfl (lk1 rfl (lk1 rfl lk0))))) ?_
  exact PW.exit (kk M8 c x9 JM8 (by omega) (by omega))
set_option maxRecDepth 100000 in
set_option maxHeartbeats 4000000 in
theorem law_stop (G : pG) : law_C G 457 := by
  intro i M c h0 h6 hL J hc kk
  refine PX.run ?_
  refine PW.aload_n q_284_457 rfl ?_
  refine PW.aload_n q_284_458 rfl ?_
  refine PW.iload q_284_459 rfl ?_
  refine PW.cI q_284_461 (by decide) fun c1 hc1 => ?_
  refine PW.addN q_284_462 (by omega) (by omega) fun x2 hx2 => ?_
  refine PW.sld q_284_463 (vp_in_iff.mpr ⟨by omega, by omega⟩) ?_
  refine PW.hvI fun a3 => ?_
  refine PW.cV (as := [_]) (rest := []) q_284_464 t_mv_284_67 kd_0 J.1.1 (by decide) rfl (by decide) rfl rfl (Nat.le_of_ble_eq_true rfl) (Nat.le_of_ble_eq_true rfl) (by show 311 + c + 0 ≤ 1000; omega) (by show 8628 + 6 * c + 0 ≤ 13000; omega) ?_
  refine PW.up (by decide) (c_X11_stop G _ M J.1 a3 fun y4 M4 IM4 FM4 => ?_)
  refine PW.pop q_284_467 rfl ?_
  refine PW.aload_n q_284_468 rfl ?_
  refine PW.aload_n q_284_469 rfl ?_
  refine PW.iload q_284_470 rfl ?_
  refine PW.cI q_284_472 (by decide) fun c5 hc5 => ?_
  refine PW.addN q_284_473 (by omega) (by omega) fun x6 hx6 => ?_
  refine PW.sld q_284_474 (vp_in_iff.mpr ⟨by omega, by omega⟩) ?_
  refine PW.hvI fun a7 => ?_
  refine PW.cV (as := [_]) (rest := []) q_284_475 t_mv_284_70 kd_294 IM4.1 (by decide) rfl (by decide) rfl rfl (Nat.le_of_ble_eq_true rfl) (Nat.le_of_ble_eq_true rfl) (by show 311 + c + 0 + 0 ≤ 1000; omega) (by show 8628 + 6 * c + 0 + 0 ≤ 13000; omega) ?_
  refine PW.up (by decide) (c_X12_stop G _ M4 IM4 a7 fun y8 M8 IM8 FM8 lM8 => ?_)
  have e1 : o_i (M4 294) 2 = o_i (M 294) 2 := by rw [Fr.at FM4 kd_294 rfl]
  have e3 : o_i (M4 1) 1 = o_i (M 1) 1 := by rw [Fr.at FM4 kd_1 rfl]
  have e2 : o_i (M8 1) 1 = o_i (M4 1) 1 := by rw [Fr.at FM8 kd_1 rfl]
  have lf : o_i (M8 294) 2 = o_i (M4 294) 2 := lM8.1
  have k0 := J.2.2.1
  have b0 := J.len0
  have f0 : o_i (M8 0) 10 = o_i (M 0) 10 := by rw [(Fr.at FM8 kd_0 rfl), (Fr.at FM4 kd_0 rfl)]
  have f1 : o_i (M8 294) 15 = o_i (M4 294) 15 := lM8.2.2
  have f2 : o_i (M4 294) 15 = o_i (M 294) 15 := by rw [(Fr.at FM4 kd_294 rfl)]
  have fj : o_i (M 0) 10 = o_i (M 294) 15 := J.2.2.2.2.2.2.2.2
  have fe : FE M8 := by unfold FE; omega
  have JM8 : LI M8 := ⟨IM8, by rw [Fr.at FM8 kd_310 rfl, Fr.at FM4 kd_310 rfl]; exact J.2.1, by omega, J.2.2.2.1.cg (by rw [Fr.at FM8 kd_2 rfl, Fr.at FM4 kd_2 rfl]) (by rw [Fr.at FM8 kd_295 rfl, Fr.at FM4 kd_295 rfl]) (by omega), J.2.2.2.2.1.cg (by rw [Fr.at FM8 kd_300 rfl, Fr.at FM4 kd_300 rfl]), J.2.2.2.2.2.1.cg (by rw [Fr.at FM8 kd_109 rfl, Fr.at FM4 kd_109 rfl]) (by rw [Fr.at FM8 kd_309 rfl, Fr.at FM4 kd_309 rfl]), J.2.2.2.2.2.2.1.cg (by rw [Fr.at FM8 kd_4 rfl, Fr.at FM4 kd_4 rfl]) (by rw [Fr.at FM8 kd_40 rfl, Fr.at FM4 kd_40 rfl]) (by rw [Fr.at FM8 kd_75 rfl, Fr.at FM4 kd_75 rfl]) (by rw [Fr.at FM8 kd_109 rfl, Fr.at FM4 kd_109 rfl]) (by rw [Fr.at FM8 kd_307 rfl, Fr.at FM4 kd_307 rfl]) (gHs.tr (gHs.cg gHs.refl (Fr.at FM4 kd_296 rfl)) lM8.2.1), J.2.2.2.2.2.2.2.1.cg (by rw [Fr.at FM8 kd_4 rfl, Fr.at FM4 kd_4 rfl]) (by rw [Fr.at FM8 kd_40 rfl, Fr.at FM4 kd_40 rfl]) (by rw [Fr.at FM8 kd_75 rfl, Fr.at FM4 kd_75 rfl]) (by rw [Fr.at FM8 kd_5 rfl, Fr.at FM4 kd_5 rfl]) (by rw [Fr.at FM8 kd_41 rfl, Fr.at FM4 kd_41 rfl]) (by rw [Fr.at FM8 kd_76 rfl, Fr.at FM4 kd_76 rfl]) (by rw [Fr.at FM8 kd_109 rfl, Fr.at FM4 kd_109 rfl]) (by rw [Fr.at FM8 kd_308 rfl, Fr.at FM4 kd_308 rfl]) (by rw [Fr.at FM8 kd_299 rfl, Fr.at FM4 kd_299 rfl]), fe⟩
  refine PW.pop q_284_478 rfl ?_
  refine PW.goto q_284_479 rfl ?_
  refine PW.incN q_284_1546 rfl (by decide) (by decide) (by omega) (by omega) fun x9 hx9 => ?_
  refine PW.goto q_284_1549 rfl ?_
  refine PW.cs (ce' := 311 + c) (sl' := 8628 + 6 * c) (by show 311 + c + 0 + 0 = _; omega) (by show 8628 + 6 * c + 0 + 0 = _; omega) ?_
  refine PW.lvS (lv' := law_lv x9) (lk1 rfl (lk1 rfl (lk1 rfl (lk1 rfl (lk1 rfl lk0))))) ?_
  exact PW.exit (kk M8 c x9 JM8 (by omega) (by omega))
set_option maxRecDepth 100000 in
set_option maxHeartbeats 4000000 in
theorem law_walk (G : pG) : law_C G 482 := by
  intro i M c h0 h6 hL J hc kk
  refine PX.run ?_
  refine PW.aload_n q_284_482 rfl ?_
  refine PW.aload_n q_284_483 rfl ?_
  refine PW.iload q_284_484 rfl ?_
  refine PW.cI q_284_486 (by decide) fun c1 hc1 => ?_
  refine PW.addN q_284_487 (by omega) (by omega) fun x2 hx2 => ?_
  refine PW.sld q_284_488 (vp_in_iff.mpr ⟨by omega, by omega⟩) ?_
  refine PW.hvI fun a3 => ?_
  refine PW.cV (as := [_]) (rest := []) q_284_489 t_mv_284_71 kd_0 J.1.1 (by decide) rfl (by decide) rfl rfl (Nat.le_of_ble_eq_true rfl) (Nat.le_of_ble_eq_true rfl) (by show 311 + c + 0 ≤ 1000; omega) (by show 8628 + 6 * c + 0 ≤ 13000; omega) ?_
  refine PW.up (by decide) (c_X11_walk G _ M J.1 a3 fun y4 M4 IM4 FM4 => ?_)
  refine PW.pop q_284_492 rfl ?_
  refine PW.aload_n q_284_493 rfl ?_
  refine PW.aload_n q_284_494 rfl ?_
  refine PW.iload q_284_495 rfl ?_
  refine PW.cI q_284_497 (by decide) fun c5 hc5 => ?_
  refine PW.addN q_284_498 (by omega) (by omega) fun x6 hx6 => ?_
  refine PW.sld q_284_499 (vp_in_iff.mpr ⟨by omega, by omega⟩) ?_
  refine PW.hvI fun a7 => ?_
  refine PW.cV (as := [_]) (rest := []) q_284_500 t_mv_284_74 kd_294 IM4.1 (by decide) rfl (by decide) rfl rfl (Nat.le_of_ble_eq_true rfl) (Nat.le_of_ble_eq_true rfl) (by show 311 + c + 0 + 0 ≤ 1000; omega) (by show 8628 + 6 * c + 0 + 0 ≤ 13000; omega) ?_
  refine PW.up (by decide) (c_X12_walk G _ M4 IM4 a7 fun y8 M8 IM8 FM8 lM8 => ?_)
  have e1 : o_i (M4 294) 2 = o_i (M 294) 2 := by rw [Fr.at FM4 kd_294 rfl]
  have e3 : o_i (M4 1) 1 = o_i (M 1) 1 := by rw [Fr.at FM4 kd_1 rfl]
  have e2 : o_i (M8 1) 1 = o_i (M4 1) 1 := by rw [Fr.at FM8 kd_1 rfl]
  have lf : o_i (M8 294) 2 = o_i (M4 294) 2 := lM8.1
  have k0 := J.2.2.1
  have b0 := J.len0
  have f0 : o_i (M8 0) 10 = o_i (M 0) 10 := by rw [(Fr.at FM8 kd_0 rfl), (Fr.at FM4 kd_0 rfl)]
  have f1 : o_i (M8 294) 15 = o_i (M4 294) 15 := lM8.2.2
  have f2 : o_i (M4 294) 15 = o_i (M 294) 15 := by rw [(Fr.at FM4 kd_294 rfl)]
  have fj : o_i (M 0) 10 = o_i (M 294) 15 := J.2.2.2.2.2.2.2.2
  have fe : FE M8 := by unfold FE; omega
  have JM8 : LI M8 := ⟨IM8, by rw [Fr.at FM8 kd_310 rfl, Fr.at FM4 kd_310 rfl]; exact J.2.1, by omega, J.2.2.2.1.cg (by rw [Fr.at FM8 kd_2 rfl, Fr.at FM4 kd_2 rfl]) (by rw [Fr.at FM8 kd_295 rfl, Fr.at FM4 kd_295 rfl]) (by omega), J.2.2.2.2.1.cg (by rw [Fr.at FM8 kd_300 rfl, Fr.at FM4 kd_300 rfl]), J.2.2.2.2.2.1.cg (by rw [Fr.at FM8 kd_109 rfl, Fr.at FM4 kd_109 rfl]) (by rw [Fr.at FM8 kd_309 rfl, Fr.at FM4 kd_309 rfl]), J.2.2.2.2.2.2.1.cg (by rw [Fr.at FM8 kd_4 rfl, Fr.at FM4 kd_4 rfl]) (by rw [Fr.at FM8 kd_40 rfl, Fr.at FM4 kd_40 rfl]) (by rw [Fr.at FM8 kd_75 rfl, Fr.at FM4 kd_75 rfl]) (by rw [Fr.at FM8 kd_109 rfl, Fr.at FM4 kd_109 rfl]) (by rw [Fr.at FM8 kd_307 rfl, Fr.at FM4 kd_307 rfl]) (gHs.tr (gHs.cg gHs.refl (Fr.at FM4 kd_296 rfl)) lM8.2.1), J.2.2.2.2.2.2.2.1.cg (by rw [Fr.at FM8 kd_4 rfl, Fr.at FM4 kd_4 rfl]) (by rw [Fr.at FM8 kd_40 rfl, Fr.at FM4 kd_40 rfl]) (by rw [Fr.at FM8 kd_75 rfl, Fr.at FM4 kd_75 rfl]) (by rw [Fr.at FM8 kd_5 rfl, Fr.at FM4 kd_5 rfl]) (by rw [Fr.at FM8 kd_41 rfl, Fr.at FM4 kd_41 rfl]) (by rw [Fr.at FM8 kd_76 rfl, Fr.at FM4 kd_76 rfl]) (by rw [Fr.at FM8 kd_109 rfl, Fr.at FM4 kd_109 rfl]) (by rw [Fr.at FM8 kd_308 rfl, Fr.at FM4 kd_308 rfl]) (by rw [Fr.at FM8 kd_299 rfl, Fr.at FM4 kd_299 rfl]), fe⟩
  refine PW.pop q_284_503 rfl ?_
  refine PW.goto q_284_504 rfl ?_
  refine PW.incN q_284_1546 rfl (by decide) (by decide) (by omega) (by omega) fun x9 hx9 => ?_
  refine PW.goto q_284_1549 rfl ?_
  refine PW.cs (ce' := 311 + c) (sl' := 8628 + 6 * c) (by show 311 + c + 0 + 0 = _; omega) (by show 8628 + 6 * c + 0 + 0 = _; omega) ?_
  refine PW.lvS (lv' := law_lv x9) (lk1 rfl (lk1 rfl (lk1 rfl (lk1 rfl (lk1 rfl lk0))))) ?_
  exact PW.exit (kk M8 c x9 JM8 (by omega) (by omega))
set_option maxRecDepth 100000 in
set_option maxHeartbeats 4000000 in
theorem law_turn (G : pG) : law_C G 507 := by
  intro i M c h0 h6 hL J hc kk
  refine PX.run ?_
  refine PW.aload_n q_284_507 rfl ?_
  refine PW.aload_n q_284_508 rfl ?_
  refine PW.iload q_284_509 rfl ?_
  refine PW.cI q_284_511 (by decide) fun c1 hc1 => ?_
  refine PW.addN q_284_512 (by omega) (by omega) fun x2 hx2 => ?_
  refine PW.sld q_284_513 (vp_in_iff.mpr ⟨by omega, by omega⟩) ?_
  refine PW.hvI fun a3 => ?_
  refine PW.cV (as := [_]) (rest := []) q_284_514 t_mv_284_75 kd_0 J.1.1 (by decide) rfl (by decide) rfl rfl (Nat.le_of_ble_eq_true rfl) (Nat.le_of_ble_eq_true rfl) (by show 311 + c + 0 ≤ 1000; omega) (by show 8628 + 6 * c + 0 ≤ 13000; omega) ?_
  refine PW.up (by decide) (c_X11_turn G _ M J.1 a3 fun y4 M4 IM4 FM4 => ?_)
  refine PW.pop q_284_517 rfl ?_
  refine PW.aload_n q_284_518 rfl ?_
  refine PW.aload_n q_284_519 rfl ?_
  refine PW.iload q_284_520 rfl ?_
  refine PW.cI q_284_522 (by decide) fun c5 hc5 => ?_
  refine PW.addN q_284_523 (by omega) (by omega) fun x6 hx6 => ?_
  refine PW.sld q_284_524 (vp_in_iff.mpr ⟨by omega, by omega⟩) ?_
  refine PW.hvI fun a7 => ?_
  refine PW.cV (as := [_]) (rest := []) q_284_525 t_mv_284_78 kd_294 IM4.1 (by decide) rfl (by decide) rfl rfl (Nat.le_of_ble_eq_true rfl) (Nat.le_of_ble_eq_true rfl) (by show 311 + c + 0 + 0 ≤ 1000; omega) (by show 8628 + 6 * c + 0 + 0 ≤ 13000; omega) ?_
  refine PW.up (by decide) (c_X12_turn G _ M4 IM4 a7 fun y8 M8 IM8 FM8 lM8 => ?_)
  have e1 : o_i (M4 294) 2 = o_i (M 294) 2 := by rw [Fr.at FM4 kd_294 rfl]
  have e3 : o_i (M4 1) 1 = o_i (M 1) 1 := by rw [Fr.at FM4 kd_1 rfl]
  have e2 : o_i (M8 1) 1 = o_i (M4 1) 1 := by rw [Fr.at FM8 kd_1 rfl]
  have lf : o_i (M8 294) 2 = o_i (M4 294) 2 := lM8.1
  have k0 := J.2.2.1
  have b0 := J.len0
  have f0 : o_i (M8 0) 10 = o_i (M 0) 10 := by rw [(Fr.at FM8 kd_0 rfl), (Fr.at FM4 kd_0 rfl)]
  have f1 : o_i (M8 294) 15 = o_i (M4 294) 15 := lM8.2.2
  have f2 : o_i (M4 294) 15 = o_i (M 294) 15 := by rw [(Fr.at FM4 kd_294 rfl)]
  have fj : o_i (M 0) 10 = o_i (M 294) 15 := J.2.2.2.2.2.2.2.2
  have fe : FE M8 := by unfold FE; omega
  have JM8 : LI M8 := ⟨IM8, by rw [Fr.at FM8 kd_310 rfl, Fr.at FM4 kd_310 rfl]; exact J.2.1, by omega, J.2.2.2.1.cg (by rw [Fr.at FM8 kd_2 rfl, Fr.at FM4 kd_2 rfl]) (by rw [Fr.at FM8 kd_295 rfl, Fr.at FM4 kd_295 rfl]) (by omega), J.2.2.2.2.1.cg (by rw [Fr.at FM8 kd_300 rfl, Fr.at FM4 kd_300 rfl]), J.2.2.2.2.2.1.cg (by rw [Fr.at FM8 kd_109 rfl, Fr.at FM4 kd_109 rfl]) (by rw [Fr.at FM8 kd_309 rfl, Fr.at FM4 kd_309 rfl]), J.2.2.2.2.2.2.1.cg (by rw [Fr.at FM8 kd_4 rfl, Fr.at FM4 kd_4 rfl]) (by rw [Fr.at FM8 kd_40 rfl, Fr.at FM4 kd_40 rfl]) (by rw [Fr.at FM8 kd_75 rfl, Fr.at FM4 kd_75 rfl]) (by rw [Fr.at FM8 kd_109 rfl, Fr.at FM4 kd_109 rfl]) (by rw [Fr.at FM8 kd_307 rfl, Fr.at FM4 kd_307 rfl]) (gHs.tr (gHs.cg gHs.refl (Fr.at FM4 kd_296 rfl)) lM8.2.1), J.2.2.2.2.2.2.2.1.cg (by rw [Fr.at FM8 kd_4 rfl, Fr.at FM4 kd_4 rfl]) (by rw [Fr.at FM8 kd_40 rfl, Fr.at FM4 kd_40 rfl]) (by rw [Fr.at FM8 kd_75 rfl, Fr.at FM4 kd_75 rfl]) (by rw [Fr.at FM8 kd_5 rfl, Fr.at FM4 kd_5 rfl]) (by rw [Fr.at FM8 kd_41 rfl, Fr.at FM4 kd_41 rfl]) (by rw [Fr.at FM8 kd_76 rfl, Fr.at FM4 kd_76 rfl]) (by rw [Fr.at FM8 kd_109 rfl, Fr.at FM4 kd_109 rfl]) (by rw [Fr.at FM8 kd_308 rfl, Fr.at FM4 kd_308 rfl]) (by rw [Fr.at FM8 kd_299 rfl, Fr.at FM4 kd_299 rfl]), fe⟩
  refine PW.pop q_284_528 rfl ?_
  refine PW.goto q_284_529 rfl ?_
  refine PW.incN q_284_1546 rfl (by decide) (by decide) (by omega) (by omega) fun x9 hx9 => ?_
  refine PW.goto q_284_1549 rfl ?_
  refine PW.cs (ce' := 311 + c) (sl' := 8628 + 6 * c) (by show 311 + c + 0 + 0 = _; omega) (by show 8628 + 6 * c + 0 + 0 = _; omega) ?_
  refine PW.lvS (lv' := law_lv x9) (lk1 rfl (lk1 rfl (lk1 rfl (lk1 rfl (lk1 rfl lk0))))) ?_
  exact PW.exit (kk M8 c x9 JM8 (by omega) (by omega))
set_option maxRecDepth 100000 in
set_option maxHeartbeats 4000000 in
theorem law_call (G : pG) : law_C G 532 := by
  intro i M c h0 h6 hL J hc kk
  refine PX.run ?_
  refine PW.aload_n q_284_532 rfl ?_
  refine PW.aload_n q_284_533 rfl ?_
  refine PW.iload q_284_534 rfl ?_
  refine PW.cI q_284_536 (by decide) fun c1 hc1 => ?_
  refine PW.addN q_284_537 (by omega) (by omega) fun x2 hx2 => ?_
  refine PW.sld q_284_538 (vp_in_iff.mpr ⟨by omega, by omega⟩) ?_
  refine PW.hvI fun a3 => ?_
  refine PW.cV (as := [_]) (rest := []) q_284_539 t_mv_284_79 kd_0 J.1.1 (by decide) rfl (by decide) rfl rfl (Nat.le_of_ble_eq_true rfl) (Nat.le_of_ble_eq_true rfl) (by show 311 + c + 0 ≤ 1000; omega) (by show 8628 + 6 * c + 0 ≤ 13000; omega) ?_
  refine PW.up (by decide) (c_X11_call G _ M J.1 a3 fun y4 M4 IM4 FM4 => ?_)
  refine PW.pop q_284_542 rfl ?_
  refine PW.aload_n q_284_543 rfl ?_
  refine PW.aload_n q_284_544 rfl ?_
  refine PW.iload q_284_545 rfl ?_
  refine PW.cI q_284_547 (by decide) fun c5 hc5 => ?_
  refine PW.addN q_284_548 (by omega) (by omega) fun x6 hx6 => ?_
  refine PW.sld q_284_549 (vp_in_iff.mpr ⟨by omega, by omega⟩) ?_
  refine PW.hvI fun a7 => ?_
  refine PW.cV (as := [_]) (rest := []) q_284_550 t_mv_284_82 kd_294 IM4.1 (by decide) rfl (by decide) rfl rfl (Nat.le_of_ble_eq_true rfl) (Nat.le_of_ble_eq_true rfl) (by show 311 + c + 0 + 0 ≤ 1000; omega) (by show 8628 + 6 * c + 0 + 0 ≤ 13000; omega) ?_
  refine PW.up (by decide) (c_X12_call G _ M4 IM4 a7 fun y8 M8 IM8 FM8 lM8 => ?_)
  have e1 : o_i (M4 294) 2 = o_i (M 294) 2 := by rw [Fr.at FM4 kd_294 rfl]
  have e3 : o_i (M4 1) 1 = o_i (M 1) 1 := by rw [Fr.at FM4 kd_1 rfl]
  have e2 : o_i (M8 1) 1 = o_i (M4 1) 1 := by rw [Fr.at FM8 kd_1 rfl]
  have lf : o_i (M8 294) 2 = o_i (M4 294) 2 := lM8.1
  have k0 := J.2.2.1
  have b0 := J.len0
  have f0 : o_i (M8 0) 10 = o_i (M 0) 10 := by rw [(Fr.at FM8 kd_0 rfl), (Fr.at FM4 kd_0 rfl)]
  have f1 : o_i (M8 294) 15 = o_i (M4 294) 15 := lM8.2.2
  have f2 : o_i (M4 294) 15 = o_i (M 294) 15 := by rw [(Fr.at FM4 kd_294 rfl)]
  have fj : o_i (M 0) 10 = o_i (M 294) 15 := J.2.2.2.2.2.2.2.2
  have fe : FE M8 := by unfold FE; omega
  have JM8 : LI M8 := ⟨IM8, by rw [Fr.at FM8 kd_310 rfl, Fr.at FM4 kd_310 rfl]; exact J.2.1, by omega, J.2.2.2.1.cg (by rw [Fr.at FM8 kd_2 rfl, Fr.at FM4 kd_2 rfl]) (by rw [Fr.at FM8 kd_295 rfl, Fr.at FM4 kd_295 rfl]) (by omega), J.2.2.2.2.1.cg (by rw [Fr.at FM8 kd_300 rfl, Fr.at FM4 kd_300 rfl]), J.2.2.2.2.2.1.cg (by rw [Fr.at FM8 kd_109 rfl, Fr.at FM4 kd_109 rfl]) (by rw [Fr.at FM8 kd_309 rfl, Fr.at FM4 kd_309 rfl]), J.2.2.2.2.2.2.1.cg (by rw [Fr.at FM8 kd_4 rfl, Fr.at FM4 kd_4 rfl]) (by rw [Fr.at FM8 kd_40 rfl, Fr.at FM4 kd_40 rfl]) (by rw [Fr.at FM8 kd_75 rfl, Fr.at FM4 kd_75 rfl]) (by rw [Fr.at FM8 kd_109 rfl, Fr.at FM4 kd_109 rfl]) (by rw [Fr.at FM8 kd_307 rfl, Fr.at FM4 kd_307 rfl]) (gHs.tr (gHs.cg gHs.refl (Fr.at FM4 kd_296 rfl)) lM8.2.1), J.2.2.2.2.2.2.2.1.cg (by rw [Fr.at FM8 kd_4 rfl, Fr.at FM4 kd_4 rfl]) (by rw [Fr.at FM8 kd_40 rfl, Fr.at FM4 kd_40 rfl]) (by rw [Fr.at FM8 kd_75 rfl, Fr.at FM4 kd_75 rfl]) (by rw [Fr.at FM8 kd_5 rfl, Fr.at FM4 kd_5 rfl]) (by rw [Fr.at FM8 kd_41 rfl, Fr.at FM4 kd_41 rfl]) (by rw [Fr.at FM8 kd_76 rfl, Fr.at FM4 kd_76 rfl]) (by rw [Fr.at FM8 kd_109 rfl, Fr.at FM4 kd_109 rfl]) (by rw [Fr.at FM8 kd_308 rfl, Fr.at FM4 kd_308 rfl]) (by rw [Fr.at FM8 kd_299 rfl, Fr.at FM4 kd_299 rfl]), fe⟩
  refine PW.pop q_284_553 rfl ?_
  refine PW.goto q_284_554 rfl ?_
  refine PW.incN q_284_1546 rfl (by decide) (by decide) (by omega) (by omega) fun x9 hx9 => ?_
  refine PW.goto q_284_1549 rfl ?_
  refine PW.cs (ce' := 311 + c) (sl' := 8628 + 6 * c) (by show 311 + c + 0 + 0 = _; omega) (by show 8628 + 6 * c + 0 + 0 = _; omega) ?_
  refine PW.lvS (lv' := law_lv x9) (lk1 rfl (lk1 rfl (lk1 rfl (lk1 rfl (lk1 rfl lk0))))) ?_
  exact PW.exit (kk M8 c x9 JM8 (by omega) (by omega))
set_option maxRecDepth 100000 in
set_option maxHeartbeats 4000000 in
theorem law_throwStick (G : pG) : law_C G 557 := by
  intro i M c h0 h6 hL J hc kk
  refine PX.run ?_
  refine PW.aload_n q_284_557 rfl ?_
  refine PW.aload_n q_284_558 rfl ?_
  refine PW.iload q_284_559 rfl ?_
  refine PW.cI q_284_561 (by decide) fun c1 hc1 => ?_
  refine PW.addN q_284_562 (by omega) (by omega) fun x2 hx2 => ?_
  refine PW.sld q_284_563 (vp_in_iff.mpr ⟨by omega, by omega⟩) ?_
  refine PW.hvI fun a3 => ?_
  refine PW.cV (as := [_]) (rest := []) q_284_564 t_mv_284_83 kd_0 J.1.1 (by decide) rfl (by decide) rfl rfl (Nat.le_of_ble_eq_true rfl) (Nat.le_of_ble_eq_true rfl) (by show 311 + c + 0 ≤ 1000; omega) (by show 8628 + 6 * c + 0 ≤ 13000; omega) ?_
  refine PW.up (by decide) (c_X11_throwStick G _ M J.1 a3 fun y4 M4 IM4 FM4 => ?_)
  refine PW.pop q_284_567 rfl ?_
  refine PW.aload_n q_284_568 rfl ?_
  refine PW.aload_n q_284_569 rfl ?_
  refine PW.iload q_284_570 rfl ?_
  refine PW.cI q_284_572 (by decide) fun c5 hc5 => ?_
  refine PW.addN q_284_573 (by omega) (by omega) fun x6 hx6 => ?_
  refine PW.sld q_284_574 (vp_in_iff.mpr ⟨by omega, by omega⟩) ?_
  refine PW.hvI fun a7 => ?_
  refine PW.cV (as := [_]) (rest := []) q_284_575 t_mv_284_86 kd_294 IM4.1 (by decide) rfl (by decide) rfl rfl (Nat.le_of_ble_eq_true rfl) (Nat.le_of_ble_eq_true rfl) (by show 311 + c + 0 + 0 ≤ 1000; omega) (by show 8628 + 6 * c + 0 + 0 ≤ 13000; omega) ?_
  refine PW.up (by decide) (c_X12_throwStick G _ M4 IM4 a7 fun y8 M8 IM8 FM8 lM8 => ?_)
  have e1 : o_i (M4 294) 2 = o_i (M 294) 2 := by rw [Fr.at FM4 kd_294 rfl]
  have e3 : o_i (M4 1) 1 = o_i (M 1) 1 := by rw [Fr.at FM4 kd_1 rfl]
  have e2 : o_i (M8 1) 1 = o_i (M4 1) 1 := by rw [Fr.at FM8 kd_1 rfl]
  have lf : o_i (M8 294) 2 = o_i (M4 294) 2 := lM8.1
  have k0 := J.2.2.1
  have b0 := J.len0
  have f0 : o_i (M8 0) 10 = o_i (M 0) 10 := by rw [(Fr.at FM8 kd_0 rfl), (Fr.at FM4 kd_0 rfl)]
  have f1 : o_i (M8 294) 15 = o_i (M4 294) 15 := lM8.2.2
  have f2 : o_i (M4 294) 15 = o_i (M 294) 15 := by rw [(Fr.at FM4 kd_294 rfl)]
  have fj : o_i (M 0) 10 = o_i (M 294) 15 := J.2.2.2.2.2.2.2.2
  have fe : FE M8 := by unfold FE; omega
  have JM8 : LI M8 := ⟨IM8, by rw [Fr.at FM8 kd_310 rfl, Fr.at FM4 kd_310 rfl]; exact J.2.1, by omega, J.2.2.2.1.cg (by rw [Fr.at FM8 kd_2 rfl, Fr.at FM4 kd_2 rfl]) (by rw [Fr.at FM8 kd_295 rfl, Fr.at FM4 kd_295 rfl]) (by omega), J.2.2.2.2.1.cg (by rw [Fr.at FM8 kd_300 rfl, Fr.at FM4 kd_300 rfl]), J.2.2.2.2.2.1.cg (by rw [Fr.at FM8 kd_109 rfl, Fr.at FM4 kd_109 rfl]) (by rw [Fr.at FM8 kd_309 rfl, Fr.at FM4 kd_309 rfl]), J.2.2.2.2.2.2.1.cg (by rw [Fr.at FM8 kd_4 rfl, Fr.at FM4 kd_4 rfl]) (by rw [Fr.at FM8 kd_40 rfl, Fr.at FM4 kd_40 rfl]) (by rw [Fr.at FM8 kd_75 rfl, Fr.at FM4 kd_75 rfl]) (by rw [Fr.at FM8 kd_109 rfl, Fr.at FM4 kd_109 rfl]) (by rw [Fr.at FM8 kd_307 rfl, Fr.at FM4 kd_307 rfl]) (gHs.tr (gHs.cg gHs.refl (Fr.at FM4 kd_296 rfl)) lM8.2.1), J.2.2.2.2.2.2.2.1.cg (by rw [Fr.at FM8 kd_4 rfl, Fr.at FM4 kd_4 rfl]) (by rw [Fr.at FM8 kd_40 rfl, Fr.at FM4 kd_40 rfl]) (by rw [Fr.at FM8 kd_75 rfl, Fr.at FM4 kd_75 rfl]) (by rw [Fr.at FM8 kd_5 rfl, Fr.at FM4 kd_5 rfl]) (by rw [Fr.at FM8 kd_41 rfl, Fr.at FM4 kd_41 rfl]) (by rw [Fr.at FM8 kd_76 rfl, Fr.at FM4 kd_76 rfl]) (by rw [Fr.at FM8 kd_109 rfl, Fr.at FM4 kd_109 rfl]) (by rw [Fr.at FM8 kd_308 rfl, Fr.at FM4 kd_308 rfl]) (by rw [Fr.at FM8 kd_299 rfl, Fr.at FM4 kd_299 rfl]), fe⟩
  refine PW.pop q_284_578 rfl ?_
  refine PW.goto q_284_579 rfl ?_
  refine PW.incN q_284_1546 rfl (by decide) (by decide) (by omega) (by omega) fun x9 hx9 => ?_
  refine PW.goto q_284_1549 rfl ?_
  refine PW.cs (ce' := 311 + c) (sl' := 8628 + 6 * c) (by show 311 + c + 0 + 0 = _; omega) (by show 8628 + 6 * c + 0 + 0 = _; omega) ?_
  refine PW.lvS (lv' := law_lv x9) (lk1 rfl (lk1 rfl (lk1 rfl (lk1 rfl (lk1 rfl lk0))))) ?_
  exact PW.exit (kk M8 c x9 JM8 (by omega) (by omega))
set_option maxRecDepth 100000 in
set_option maxHeartbeats 4000000 in
theorem law_seconds (G : pG) : law_C G 582 := by
  intro i M c h0 h6 hL J hc kk
  refine PX.run ?_
  refine PW.aload_n q_284_582 rfl ?_
  refine PW.aload_n q_284_583 rfl ?_
  refine PW.iload q_284_584 rfl ?_
  refine PW.cI q_284_586 (by decide) fun c1 hc1 => ?_
  refine PW.addN q_284_587 (by omega) (by omega) fun x2 hx2 => ?_
  refine PW.sld q_284_588 (vp_in_iff.mpr ⟨by omega, by omega⟩) ?_
  refine PW.hvI fun a3 => ?_
  refine PW.cV (as := [_]) (rest := []) q_284_589 t_mv_284_87 kd_0 J.1.1 (by decide) rfl (by decide) rfl rfl (Nat.le_of_ble_eq_true rfl) (Nat.le_of_ble_eq_true rfl) (by show 311 + c + 0 ≤ 1000; omega) (by show 8628 + 6 * c + 0 ≤ 13000; omega) ?_
  refine PW.up (by decide) (c_X11_seconds G _ M J.1 a3 fun y4 M4 IM4 FM4 => ?_)
  refine PW.pop q_284_592 rfl ?_
  refine PW.aload_n q_284_593 rfl ?_
  refine PW.aload_n q_284_594 rfl ?_
  refine PW.iload q_284_595 rfl ?_
  refine PW.cI q_284_597 (by decide) fun c5 hc5 => ?_
  refine PW.addN q_284_598 (by omega) (by omega) fun x6 hx6 => ?_
  refine PW.sld q_284_599 (vp_in_iff.mpr ⟨by omega, by omega⟩) ?_
  refine PW.hvI fun a7 => ?_
  refine PW.cV (as := [_]) (rest := []) q_284_600 t_mv_284_90 kd_294 IM4.1 (by decide) rfl (by decide) rfl rfl (Nat.le_of_ble_eq_true rfl) (Nat.le_of_ble_eq_true rfl) (by show 311 + c + 0 + 0 ≤ 1000; omega) (by show 8628 + 6 * c + 0 + 0 ≤ 13000; omega) ?_
  refine PW.up (by decide) (c_X12_seconds G _ M4 IM4 a7 fun y8 M8 IM8 FM8 lM8 => ?_)
  have e1 : o_i (M4 294) 2 = o_i (M 294) 2 := by rw [Fr.at FM4 kd_294 rfl]
  have e3 : o_i (M4 1) 1 = o_i (M 1) 1 := by rw [Fr.at FM4 kd_1 rfl]
  have e2 : o_i (M8 1) 1 = o_i (M4 1) 1 := by rw [Fr.at FM8 kd_1 rfl]
  have lf : o_i (M8 294) 2 = o_i (M4 294) 2 := lM8.1
  have k0 := J.2.2.1
  have b0 := J.len0
  have f0 : o_i (M8 0) 10 = o_i (M 0) 10 := by rw [(Fr.at FM8 kd_0 rfl), (Fr.at FM4 kd_0 rfl)]
  have f1 : o_i (M8 294) 15 = o_i (M4 294) 15 := lM8.2.2
  have f2 : o_i (M4 294) 15 = o_i (M 294) 15 := by rw [(Fr.at FM4 kd_294 rfl)]
  have fj : o_i (M 0) 10 = o_i (M 294) 15 := J.2.2.2.2.2.2.2.2
  have fe : FE M8 := by unfold FE; omega
  have JM8 : LI M8 := ⟨IM8, by rw [Fr.at FM8 kd_310 rfl, Fr.at FM4 kd_310 rfl]; exact J.2.1, by omega, J.2.2.2.1.cg (by rw [Fr.at FM8 kd_2 rfl, Fr.at FM4 kd_2 rfl]) (by rw [Fr.at FM8 kd_295 rfl, Fr.at FM4 kd_295 rfl]) (by omega), J.2.2.2.2.1.cg (by rw [Fr.at FM8 kd_300 rfl, Fr.at FM4 kd_300 rfl]), J.2.2.2.2.2.1.cg (by rw [Fr.at FM8 kd_109 rfl, Fr.at FM4 kd_109 rfl]) (by rw [Fr.at FM8 kd_309 rfl, Fr.at FM4 kd_309 rfl]), J.2.2.2.2.2.2.1.cg (by rw [Fr.at FM8 kd_4 rfl, Fr.at FM4 kd_4 rfl]) (by rw [Fr.at FM8 kd_40 rfl, Fr.at FM4 kd_40 rfl]) (by rw [Fr.at FM8 kd_75 rfl, Fr.at FM4 kd_75 rfl]) (by rw [Fr.at FM8 kd_109 rfl, Fr.at FM4 kd_109 rfl]) (by rw [Fr.at FM8 kd_307 rfl, Fr.at FM4 kd_307 rfl]) (gHs.tr (gHs.cg gHs.refl (Fr.at FM4 kd_296 rfl)) lM8.2.1), J.2.2.2.2.2.2.2.1.cg (by rw [Fr.at FM8 kd_4 rfl, Fr.at FM4 kd_4 rfl]) (by rw [Fr.at FM8 kd_40 rfl, Fr.at FM4 kd_40 rfl]) (by rw [Fr.at FM8 kd_75 rfl, Fr.at FM4 kd_75 rfl]) (by rw [Fr.at FM8 kd_5 rfl, Fr.at FM4 kd_5 rfl]) (by rw [Fr.at FM8 kd_41 rfl, Fr.at FM4 kd_41 rfl]) (by rw [Fr.at FM8 kd_76 rfl, Fr.at FM4 kd_76 rfl]) (by rw [Fr.at FM8 kd_109 rfl, Fr.at FM4 kd_109 rfl]) (by rw [Fr.at FM8 kd_308 rfl, Fr.at FM4 kd_308 rfl]) (by rw [Fr.at FM8 kd_299 rfl, Fr.at FM4 kd_299 rfl]), fe⟩
  refine PW.pop q_284_603 rfl ?_
  refine PW.goto q_284_604 rfl ?_
  refine PW.incN q_284_1546 rfl (by decide) (by decide) (by omega) (by omega) fun x9 hx9 => ?_
  refine PW.goto q_284_1549 rfl ?_
  refine PW.cs (ce' := 311 + c) (sl' := 8628 + 6 * c) (by show 311 + c + 0 + 0 = _; omega) (by show 8628 + 6 * c + 0 + 0 = _; omega) ?_
  refine PW.lvS (lv' := law_lv x9) (lk1 rfl (lk1 rfl (lk1 rfl (lk1 rfl (lk1 rfl lk0))))) ?_
  exact PW.exit (kk M8 c x9 JM8 (by omega) (by omega))
set_option maxRecDepth 100000 in
set_option maxHeartbeats 4000000 in
theorem law_undo (G : pG) : law_C G 607 := by
  intro i M c h0 h6 hL J hc kk
  refine PX.run ?_
  refine PW.aload_n q_284_607 rfl ?_
  refine PW.cV (as := []) (rest := []) q_284_608 t_mv_284_91 kd_0 J.1.1 (by decide) rfl (by decide) rfl rfl (Nat.le_of_ble_eq_true rfl) (Nat.le_of_ble_eq_true rfl) (by show 311 + c + 0 ≤ 1000; omega) (by show 8628 + 6 * c + 0 ≤ 13000; omega) ?_
  refine PW.up (by decide) (c_X11_undo G _ M J.1  fun y1 M1 IM1 FM1 => ?_)
  refine PW.pop q_284_611 rfl ?_
  refine PW.aload_n q_284_612 rfl ?_
  refine PW.cV (as := []) (rest := []) q_284_613 t_mv_284_94 kd_294 IM1.1 (by decide) rfl (by decide) rfl rfl (Nat.le_of_ble_eq_true rfl) (Nat.le_of_ble_eq_true rfl) (by show 311 + c + 0 + 0 ≤ 1000; omega) (by show 8628 + 6 * c + 0 + 0 ≤ 13000; omega) ?_
  refine PW.up (by decide) (c_X12_undo G _ M1 IM1  fun y2 M2 IM2 FM2 lM2 => ?_)
  have e1 : o_i (M1 294) 2 = o_i (M 294) 2 := by rw [Fr.at FM1 kd_294 rfl]
  have e3 : o_i (M1 1) 1 = o_i (M 1) 1 := by rw [Fr.at FM1 kd_1 rfl]
  have e2 : o_i (M2 1) 1 = o_i (M1 1) 1 := by rw [Fr.at FM2 kd_1 rfl]
  have lf : o_i (M2 294) 2 = o_i (M1 294) 2 := lM2.1
  have k0 := J.2.2.1
  have b0 := J.len0
  have f0 : o_i (M2 0) 10 = o_i (M 0) 10 := by rw [(Fr.at FM2 kd_0 rfl), (Fr.at FM1 kd_0 rfl)]
  have f1 : o_i (M2 294) 15 = o_i (M1 294) 15 := lM2.2.2
  have f2 : o_i (M1 294) 15 = o_i (M 294) 15 := by rw [(Fr.at FM1 kd_294 rfl)]
  have fj : o_i (M 0) 10 = o_i (M 294) 15 := J.2.2.2.2.2.2.2.2
  have fe : FE M2 := by unfold FE; omega
  have JM2 : LI M2 := ⟨IM2, by rw [Fr.at FM2 kd_310 rfl, Fr.at FM1 kd_310 rfl]; exact J.2.1, by omega, J.2.2.2.1.cg (by rw [Fr.at FM2 kd_2 rfl, Fr.at FM1 kd_2 rfl]) (by rw [Fr.at FM2 kd_295 rfl, Fr.at FM1 kd_295 rfl]) (by omega), J.2.2.2.2.1.cg (by rw [Fr.at FM2 kd_300 rfl, Fr.at FM1 kd_300 rfl]), J.2.2.2.2.2.1.cg (by rw [Fr.at FM2 kd_109 rfl, Fr.at FM1 kd_109 rfl]) (by rw [Fr.at FM2 kd_309 rfl, Fr.at FM1 kd_309 rfl]), J.2.2.2.2.2.2.1.cg (by rw [Fr.at FM2 kd_4 rfl, Fr.at FM1 kd_4 rfl]) (by rw [Fr.at FM2 kd_40 rfl, Fr.at FM1 kd_40 rfl]) (by rw [Fr.at FM2 kd_75 rfl, Fr.at FM1 kd_75 rfl]) (by rw [Fr.at FM2 kd_109 rfl, Fr.at FM1 kd_109 rfl]) (by rw [Fr.at FM2 kd_307 rfl, Fr.at FM1 kd_307 rfl]) (gHs.tr (gHs.cg gHs.refl (Fr.at FM1 kd_296 rfl)) lM2.2.1), J.2.2.2.2.2.2.2.1.cg (by rw [Fr.at FM2 kd_4 rfl, Fr.at FM1 kd_4 rfl]) (by rw [Fr.at FM2 kd_40 rfl, Fr.at FM1 kd_40 rfl]) (by rw [Fr.at FM2 kd_75 rfl, Fr.at FM1 kd_75 rfl]) (by rw [Fr.at FM2 kd_5 rfl, Fr.at FM1 kd_5 rfl]) (by rw [Fr.at FM2 kd_41 rfl, Fr.at FM1 kd_41 rfl]) (by rw [Fr.at FM2 kd_76 rfl, Fr.at FM1 kd_76 rfl]) (by rw [Fr.at FM2 kd_109 rfl, Fr.at FM1 kd_109 rfl]) (by rw [Fr.at FM2 kd_308 rfl, Fr.at FM1 kd_308 rfl]) (by rw [Fr.at FM2 kd_299 rfl, Fr.at FM1 kd_299 rfl]), fe⟩
  refine PW.pop q_284_616 rfl ?_
  refine PW.goto q_284_617 rfl ?_
  refine PW.incN q_284_1546 rfl (by decide) (by decide) (by omega) (by omega) fun x3 hx3 => ?_
  refine PW.goto q_284_1549 rfl ?_
  refine PW.cs (ce' := 311 + c) (sl' := 8628 + 6 * c) (by show 311 + c + 0 + 0 = _; omega) (by show 8628 + 6 * c + 0 + 0 = _; omega) ?_
  refine PW.lvS (lv' := law_lv x3) (lk1 rfl (lk1 rfl (lk1 rfl (lk1 rfl (lk1 rfl lk0))))) ?_
  exact PW.exit (kk M2 c x3 JM2 (by omega) (by omega))
set_option maxRecDepth 100000 in
set_option maxHeartbeats 4000000 in
theorem law_gap (G : pG) : law_C G 620 := by
  intro i M c h0 h6 hL J hc kk
  refine PX.run ?_
  refine PW.aload_n q_284_620 rfl ?_
  refine PW.aload_n q_284_621 rfl ?_
  refine PW.iload q_284_622 rfl ?_
  refine PW.cI q_284_624 (by decide) fun c1 hc1 => ?_
  refine PW.addN q_284_625 (by omega) (by omega) fun x2 hx2 => ?_
  refine PW.sld q_284_626 (vp_in_iff.mpr ⟨by omega, by omega⟩) ?_
  refine PW.hvI fun a3 => ?_
  refine PW.aload_n q_284_627 rfl ?_
  refine PW.iload q_284_628 rfl ?_
  refine PW.cI q_284_630 (by decide) fun c4 hc4 => ?_
  refine PW.addN q_284_631 (by omega) (by omega) fun x5 hx5 => ?_
  refine PW.sld q_284_632 (vp_in_iff.mpr ⟨by omega, by omega⟩) ?_
  refine PW.hvI fun a6 => ?_
  refine PW.cV (as := [_, _]) (rest := []) q_284_633 t_mv_284_95 kd_0 J.1.1 (by decide) rfl (by decide) rfl rfl (Nat.le_of_ble_eq_true rfl) (Nat.le_of_ble_eq_true rfl) (by show 311 + c + 0 ≤ 1000; omega) (by show 8628 + 6 * c + 0 ≤ 13000; omega) ?_
  refine PW.up (by decide) (c_X11_gap G _ M J.1 a3 a6 fun y7 M7 IM7 FM7 => ?_)
  refine PW.pop q_284_636 rfl ?_
  refine PW.aload_n q_284_637 rfl ?_
  refine PW.aload_n q_284_638 rfl ?_
  refine PW.iload q_284_639 rfl ?_
  refine PW.cI q_284_641 (by decide) fun c8 hc8 => ?_
  refine PW.addN q_284_642 (by omega) (by omega) fun x9 hx9 => ?_
  refine PW.sld q_284_643 (vp_in_iff.mpr ⟨by omega, by omega⟩) ?_
  refine PW.hvI fun a10 => ?_
  refine PW.aload_n q_284_644 rfl ?_
  refine PW.iload q_284_645 rfl ?_
  refine PW.cI q_284_647 (by decide) fun c11 hc11 => ?_
  refine PW.addN q_284_648 (by omega) (by omega) fun x12 hx12 => ?_
  refine PW.sld q_284_649 (vp_in_iff.mpr ⟨by omega, by omega⟩) ?_
  refine PW.hvI fun a13 => ?_
  refine PW.cV (as := [_, _]) (rest := []) q_284_650 t_mv_284_98 kd_294 IM7.1 (by decide) rfl (by decide) rfl rfl (Nat.le_of_ble_eq_true rfl) (Nat.le_of_ble_eq_true rfl) (by show 311 + c + 0 + 0 ≤ 1000; omega) (by show 8628 + 6 * c + 0 + 0 ≤ 13000; omega) ?_
  refine PW.up (by decide) (c_X12_gap G _ M7 IM7 a10 a13 fun y14 M14 IM14 FM14 lM14 => ?_)
  have e1 : o_i (M7 294) 2 = o_i (M 294) 2 := by rw [Fr.at FM7 kd_294 rfl]
  have e3 : o_i (M7 1) 1 = o_i (M 1) 1 := by rw [Fr.at FM7 kd_1 rfl]
  have e2 : o_i (M14 1) 1 = o_i (M7 1) 1 := by rw [Fr.at FM14 kd_1 rfl]
  have lf : o_i (M14 294) 2 = o_i (M7 294) 2 := lM14.1
  have k0 := J.2.2.1
  have b0 := J.len0
  have f0 : o_i (M14 0) 10 = o_i (M 0) 10 := by rw [(Fr.at FM14 kd_0 rfl), (Fr.at FM7 kd_0 rfl)]
  have f1 : o_i (M14 294) 15 = o_i (M7 294) 15 := lM14.2.2
  have f2 : o_i (M7 294) 15 = o_i (M 294) 15 := by rw [(Fr.at FM7 kd_294 rfl)]
  have fj : o_i (M 0) 10 = o_i (M 294) 15 := J.2.2.2.2.2.2.2.2
  have fe : FE M14 := by unfold FE; omega
  have JM14 : LI M14 := ⟨IM14, by rw [Fr.at FM14 kd_310 rfl, Fr.at FM7 kd_310 rfl]; exact J.2.1, by omega, J.2.2.2.1.cg (by rw [Fr.at FM14 kd_2 rfl, Fr.at FM7 kd_2 rfl]) (by rw [Fr.at FM14 kd_295 rfl, Fr.at FM7 kd_295 rfl]) (by omega), J.2.2.2.2.1.cg (by rw [Fr.at FM14 kd_300 rfl, Fr.at FM7 kd_300 rfl]), J.2.2.2.2.2.1.cg (by rw [Fr.at FM14 kd_109 rfl, Fr.at FM7 kd_109 rfl]) (by rw [Fr.at FM14 kd_309 rfl, Fr.at FM7 kd_309 rfl]), J.2.2.2.2.2.2.1.cg (by rw [Fr.at FM14 kd_4 rfl, Fr.at FM7 kd_4 rfl]) (by rw [Fr.at FM14 kd_40 rfl, Fr.at FM7 kd_40 rfl]) (by rw [Fr.at FM14 kd_75 rfl, Fr.at FM7 kd_75 rfl]) (by rw [Fr.at FM14 kd_109 rfl, Fr.at FM7 kd_109 rfl]) (by rw [Fr.at FM14 kd_307 rfl, Fr.at FM7 kd_307 rfl]) (gHs.cg gHs.refl (by rw [Fr.at FM14 kd_296 rfl, Fr.at FM7 kd_296 rfl])), J.2.2.2.2.2.2.2.1.cg (by rw [Fr.at FM14 kd_4 rfl, Fr.at FM7 kd_4 rfl]) (by rw [Fr.at FM14 kd_40 rfl, Fr.at FM7 kd_40 rfl]) (by rw [Fr.at FM14 kd_75 rfl, Fr.at FM7 kd_75 rfl]) (by rw [Fr.at FM14 kd_5 rfl, Fr.at FM7 kd_5 rfl]) (by rw [Fr.at FM14 kd_41 rfl, Fr.at FM7 kd_41 rfl]) (by rw [Fr.at FM14 kd_76 rfl, Fr.at FM7 kd_76 rfl]) (by rw [Fr.at FM14 kd_109 rfl, Fr.at FM7 kd_109 rfl]) (by rw [Fr.at FM14 kd_308 rfl, Fr.at FM7 kd_308 rfl]) (by rw [Fr.at FM14 kd_299 rfl, Fr.at FM7 kd_299 rfl]), fe⟩
  refine PW.pop q_284_653 rfl ?_
  refine PW.goto q_284_654 rfl ?_
  refine PW.incN q_284_1546 rfl (by decide) (by decide) (by omega) (by omega) fun x15 hx15 => ?_
  refine PW.goto q_284_1549 rfl ?_
  refine PW.cs (ce' := 311 + c) (sl' := 8628 + 6 * c) (by show 311 + c + 0 + 0 = _; omega) (by show 8628 + 6 * c + 0 + 0 = _; omega) ?_
  refine PW.lvS (lv' := law_lv x15) (lk1 rfl (lk1 rfl (lk1 rfl (lk1 rfl (lk1 rfl lk0))))) ?_
  exact PW.exit (kk M14 c x15 JM14 (by omega) (by omega))
set_option maxRecDepth 100000 in
set_option maxHeartbeats 4000000 in
theorem law_meet (G : pG) : law_C G 657 := by
  intro i M c h0 h6 hL J hc kk
  refine PX.run ?_
  refine PW.aload_n q_284_657 rfl ?_
  refine PW.aload_n q_284_658 rfl ?_
  refine PW.iload q_284_659 rfl ?_
  refine PW.cI q_284_661 (by decide) fun c1 hc1 => ?_
  refine PW.addN q_284_662 (by omega) (by omega) fun x2 hx2 => ?_
  refine PW.sld q_284_663 (vp_in_iff.mpr ⟨by omega, by omega⟩) ?_
  refine PW.hvI fun a3 => ?_
  refine PW.aload_n q_284_664 rfl ?_
  refine PW.iload q_284_665 rfl ?_
  refine PW.cI q_284_667 (by decide) fun c4 hc4 => ?_
  refine PW.addN q_284_668 (by omega) (by omega) fun x5 hx5 => ?_
  refine PW.sld q_284_669 (vp_in_iff.mpr ⟨by omega, by omega⟩) ?_
  refine PW.hvI fun a6 => ?_
  refine PW.cV (as := [_, _]) (rest := []) q_284_670 t_mv_284_99 kd_0 J.1.1 (by decide) rfl (by decide) rfl rfl (Nat.le_of_ble_eq_true rfl) (Nat.le_of_ble_eq_true rfl) (by show 311 + c + 0 ≤ 1000; omega) (by show 8628 + 6 * c + 0 ≤ 13000; omega) ?_
  refine PW.up (by decide) (c_X11_meet G _ M J.1 a3 a6 fun y7 M7 IM7 FM7 => ?_)
  refine PW.pop q_284_673 rfl ?_
  refine PW.aload_n q_284_674 rfl ?_
  refine PW.aload_n q_284_675 rfl ?_
  refine PW.iload q_284_676 rfl ?_
  refine PW.cI q_284_678 (by decide) fun c8 hc8 => ?_
  refine PW.addN q_284_679 (by omega) (by omega) fun x9 hx9 => ?_
  refine PW.sld q_284_680 (vp_in_iff.mpr ⟨by omega, by omega⟩) ?_
  refine PW.hvI fun a10 => ?_
  refine PW.aload_n q_284_681 rfl ?_
  refine PW.iload q_284_682 rfl ?_
  refine PW.cI q_284_684 (by decide) fun c11 hc11 => ?_
  refine PW.addN q_284_685 (by omega) (by omega) fun x12 hx12 => ?_
  refine PW.sld q_284_686 (vp_in_iff.mpr ⟨by omega, by omega⟩) ?_
  refine PW.hvI fun a13 => ?_
  refine PW.cV (as := [_, _]) (rest := []) q_284_687 t_mv_284_102 kd_294 IM7.1 (by decide) rfl (by decide) rfl rfl (Nat.le_of_ble_eq_true rfl) (Nat.le_of_ble_eq_true rfl) (by show 311 + c + 0 + 0 ≤ 1000; omega) (by show 8628 + 6 * c + 0 + 0 ≤ 13000; omega) ?_
  refine PW.up (by decide) (c_X12_meet G _ M7 IM7 a10 a13 fun y14 M14 IM14 FM14 lM14 => ?_)
  have e1 : o_i (M7 294) 2 = o_i (M 294) 2 := by rw [Fr.at FM7 kd_294 rfl]
  have e3 : o_i (M7 1) 1 = o_i (M 1) 1 := by rw [Fr.at FM7 kd_1 rfl]
  have e2 : o_i (M14 1) 1 = o_i (M7 1) 1 := by rw [Fr.at FM14 kd_1 rfl]
  have lf : o_i (M14 294) 2 = o_i (M7 294) 2 := lM14.1
  have k0 := J.2.2.1
  have b0 := J.len0
  have f0 : o_i (M14 0) 10 = o_i (M 0) 10 := by rw [(Fr.at FM14 kd_0 rfl), (Fr.at FM7 kd_0 rfl)]
  have f1 : o_i (M14 294) 15 = o_i (M7 294) 15 := lM14.2.2
  have f2 : o_i (M7 294) 15 = o_i (M 294) 15 := by rw [(Fr.at FM7 kd_294 rfl)]
  have fj : o_i (M 0) 10 = o_i (M 294) 15 := J.2.2.2.2.2.2.2.2
  have fe : FE M14 := by unfold FE; omega
  have JM14 : LI M14 := ⟨IM14, by rw [Fr.at FM14 kd_310 rfl, Fr.at FM7 kd_310 rfl]; exact J.2.1, by omega, J.2.2.2.1.cg (by rw [Fr.at FM14 kd_2 rfl, Fr.at FM7 kd_2 rfl]) (by rw [Fr.at FM14 kd_295 rfl, Fr.at FM7 kd_295 rfl]) (by omega), J.2.2.2.2.1.cg (by rw [Fr.at FM14 kd_300 rfl, Fr.at FM7 kd_300 rfl]), J.2.2.2.2.2.1.cg (by rw [Fr.at FM14 kd_109 rfl, Fr.at FM7 kd_109 rfl]) (by rw [Fr.at FM14 kd_309 rfl, Fr.at FM7 kd_309 rfl]), J.2.2.2.2.2.2.1.cg (by rw [Fr.at FM14 kd_4 rfl, Fr.at FM7 kd_4 rfl]) (by rw [Fr.at FM14 kd_40 rfl, Fr.at FM7 kd_40 rfl]) (by rw [Fr.at FM14 kd_75 rfl, Fr.at FM7 kd_75 rfl]) (by rw [Fr.at FM14 kd_109 rfl, Fr.at FM7 kd_109 rfl]) (by rw [Fr.at FM14 kd_307 rfl, Fr.at FM7 kd_307 rfl]) (gHs.tr (gHs.cg gHs.refl (Fr.at FM7 kd_296 rfl)) lM14.2.1), J.2.2.2.2.2.2.2.1.cg (by rw [Fr.at FM14 kd_4 rfl, Fr.at FM7 kd_4 rfl]) (by rw [Fr.at FM14 kd_40 rfl, Fr.at FM7 kd_40 rfl]) (by rw [Fr.at FM14 kd_75 rfl, Fr.at FM7 kd_75 rfl]) (by rw [Fr.at FM14 kd_5 rfl, Fr.at FM7 kd_5 rfl]) (by rw [Fr.at FM14 kd_41 rfl, Fr.at FM7 kd_41 rfl]) (by rw [Fr.at FM14 kd_76 rfl, Fr.at FM7 kd_76 rfl]) (by rw [Fr.at FM14 kd_109 rfl, Fr.at FM7 kd_109 rfl]) (by rw [Fr.at FM14 kd_308 rfl, Fr.at FM7 kd_308 rfl]) (by rw [Fr.at FM14 kd_299 rfl, Fr.at FM7 kd_299 rfl]), fe⟩
  refine PW.pop q_284_690 rfl ?_
  refine PW.goto q_284_691 rfl ?_
  refine PW.incN q_284_1546 rfl (by decide) (by decide) (by omega) (by omega) fun x15 hx15 => ?_
  refine PW.goto q_284_1549 rfl ?_
  refine PW.cs (ce' := 311 + c) (sl' := 8628 + 6 * c) (by show 311 + c + 0 + 0 = _; omega) (by show 8628 + 6 * c + 0 + 0 = _; omega) ?_
  refine PW.lvS (lv' := law_lv x15) (lk1 rfl (lk1 rfl (lk1 rfl (lk1 rfl (lk1 rfl lk0))))) ?_
  exact PW.exit (kk M14 c x15 JM14 (by omega) (by omega))
set_option maxRecDepth 100000 in
set_option maxHeartbeats 4000000 in
theorem law_run (G : pG) : law_C G 694 := by
  intro i M c h0 h6 hL J hc kk
  refine PX.run ?_
  refine PW.aload_n q_284_694 rfl ?_
  refine PW.aload_n q_284_695 rfl ?_
  refine PW.iload q_284_696 rfl ?_
  refine PW.cI q_284_698 (by decide) fun c1 hc1 => ?_
  refine PW.addN q_284_699 (by omega) (by omega) fun x2 hx2 => ?_
  refine PW.sld q_284_700 (vp_in_iff.mpr ⟨by omega, by omega⟩) ?_
  refine PW.hvI fun a3 => ?_
  refine PW.aload_n q_284_701 rfl ?_
  refine PW.iload q_284_702 rfl ?_
  refine PW.cI q_284_704 (by decide) fun c4 hc4 => ?_
  refine PW.addN q_284_705 (by omega) (by omega) fun x5 hx5 => ?_
  refine PW.sld q_284_706 (vp_in_iff.mpr ⟨by omega, by omega⟩) ?_
  refine PW.hvI fun a6 => ?_
  refine PW.cV (as := [_, _]) (rest := []) q_284_707 t_mv_284_103 kd_0 J.1.1 (by decide) rfl (by decide) rfl rfl (Nat.le_of_ble_eq_true rfl) (Nat.le_of_ble_eq_true rfl) (by show 311 + c + 0 ≤ 1000; omega) (by show 8628 + 6 * c + 0 ≤ 13000; omega) ?_
  refine PW.up (by decide) (c_X11_run G _ M J.1 a3 a6 fun y7 M7 IM7 FM7 => ?_)
  refine PW.pop q_284_710 rfl ?_
  refine PW.aload_n q_284_711 rfl ?_
  refine PW.aload_n q_284_712 rfl ?_
  refine PW.iload q_284_713 rfl ?_
  refine PW.cI q_284_715 (by decide) fun c8 hc8 => ?_
  refine PW.addN q_284_716 (by omega) (by omega) fun x9 hx9 => ?_
  refine PW.sld q_284_717 (vp_in_iff.mpr ⟨by omega, by omega⟩) ?_
  refine PW.hvI fun a10 => ?_
  refine PW.aload_n q_284_718 rfl ?_
  refine PW.iload q_284_719 rfl ?_
  refine PW.cI q_284_721 (by decide) fun c11 hc11 => ?_
  refine PW.addN q_284_722 (by omega) (by omega) fun x12 hx12 => ?_
  refine PW.sld q_284_723 (vp_in_iff.mpr ⟨by omega, by omega⟩) ?_
  refine PW.hvI fun a13 => ?_
  refine PW.cV (as := [_, _]) (rest := []) q_284_724 t_mv_284_106 kd_294 IM7.1 (by decide) rfl (by decide) rfl rfl (Nat.le_of_ble_eq_true rfl) (Nat.le_of_ble_eq_true rfl) (by show 311 + c + 0 + 0 ≤ 1000; omega) (by show 8628 + 6 * c + 0 + 0 ≤ 13000; omega) ?_
  refine PW.up (by decide) (c_X12_run G _ M7 IM7 a10 a13 fun y14 M14 IM14 FM14 lM14 => ?_)
  have e1 : o_i (M7 294) 2 = o_i (M 294) 2 := by rw [Fr.at FM7 kd_294 rfl]
  have e3 : o_i (M7 1) 1 = o_i (M 1) 1 := by rw [Fr.at FM7 kd_1 rfl]
  have e2 : o_i (M14 1) 1 = o_i (M7 1) 1 := by rw [Fr.at FM14 kd_1 rfl]
  have lf : o_i (M14 294) 2 = o_i (M7 294) 2 := lM14.1
  have k0 := J.2.2.1
  have b0 := J.len0
  have f0 : o_i (M14 0) 10 = o_i (M 0) 10 := by rw [(Fr.at FM14 kd_0 rfl), (Fr.at FM7 kd_0 rfl)]
  have f1 : o_i (M14 294) 15 = o_i (M7 294) 15 := lM14.2.2
  have f2 : o_i (M7 294) 15 = o_i (M 294) 15 := by rw [(Fr.at FM7 kd_294 rfl)]
  have fj : o_i (M 0) 10 = o_i (M 294) 15 := J.2.2.2.2.2.2.2.2
  have fe : FE M14 := by unfold FE; omega
  have JM14 : LI M14 := ⟨IM14, by rw [Fr.at FM14 kd_310 rfl, Fr.at FM7 kd_310 rfl]; exact J.2.1, by omega, J.2.2.2.1.cg (by rw [Fr.at FM14 kd_2 rfl, Fr.at FM7 kd_2 rfl]) (by rw [Fr.at FM14 kd_295 rfl, Fr.at FM7 kd_295 rfl]) (by omega), J.2.2.2.2.1.cg (by rw [Fr.at FM14 kd_300 rfl, Fr.at FM7 kd_300 rfl]), J.2.2.2.2.2.1.cg (by rw [Fr.at FM14 kd_109 rfl, Fr.at FM7 kd_109 rfl]) (by rw [Fr.at FM14 kd_309 rfl, Fr.at FM7 kd_309 rfl]), J.2.2.2.2.2.2.1.cg (by rw [Fr.at FM14 kd_4 rfl, Fr.at FM7 kd_4 rfl]) (by rw [Fr.at FM14 kd_40 rfl, Fr.at FM7 kd_40 rfl]) (by rw [Fr.at FM14 kd_75 rfl, Fr.at FM7 kd_75 rfl]) (by rw [Fr.at FM14 kd_109 rfl, Fr.at FM7 kd_109 rfl]) (by rw [Fr.at FM14 kd_307 rfl, Fr.at FM7 kd_307 rfl]) (gHs.tr (gHs.cg gHs.refl (Fr.at FM7 kd_296 rfl)) lM14.2.1), J.2.2.2.2.2.2.2.1.cg (by rw [Fr.at FM14 kd_4 rfl, Fr.at FM7 kd_4 rfl]) (by rw [Fr.at FM14 kd_40 rfl, Fr.at FM7 kd_40 rfl]) (by rw [Fr.at FM14 kd_75 rfl, Fr.at FM7 kd_75 rfl]) (by rw [Fr.at FM14 kd_5 rfl, Fr.at FM7 kd_5 rfl]) (by rw [Fr.at FM14 kd_41 rfl, Fr.at FM7 kd_41 rfl]) (by rw [Fr.at FM14 kd_76 rfl, Fr.at FM7 kd_76 rfl]) (by rw [Fr.at FM14 kd_109 rfl, Fr.at FM7 kd_109 rfl]) (by rw [Fr.at FM14 kd_308 rfl, Fr.at FM7 kd_308 rfl]) (by rw [Fr.at FM14 kd_299 rfl, Fr.at FM7 kd_299 rfl]), fe⟩
  refine PW.pop q_284_727 rfl ?_
  refine PW.goto q_284_728 rfl ?_
  refine PW.incN q_284_1546 rfl (by decide) (by decide) (by omega) (by omega) fun x15 hx15 => ?_
  refine PW.goto q_284_1549 rfl ?_
  refine PW.cs (ce' := 311 + c) (sl' := 8628 + 6 * c) (by show 311 + c + 0 + 0 = _; omega) (by show 8628 + 6 * c + 0 + 0 = _; omega) ?_
  refine PW.lvS (lv' := law_lv x15) (lk1 rfl (lk1 rfl (lk1 rfl (lk1 rfl (lk1 rfl lk0))))) ?_
  exact PW.exit (kk M14 c x15 JM14 (by omega) (by omega))
set_option maxRecDepth 100000 in
set_option maxHeartbeats 4000000 in
theorem law_turns (G : pG) : law_C G 731 := by
  intro i M c h0 h6 hL J hc kk
  refine PX.run ?_
  refine PW.aload_n q_284_731 rfl ?_
  refine PW.aload_n q_284_732 rfl ?_
  refine PW.iload q_284_733 rfl ?_
  refine PW.cI q_284_735 (by decide) fun c1 hc1 => ?_
  refine PW.addN q_284_736 (by omega) (by omega) fun x2 hx2 => ?_
  refine PW.sld q_284_737 (vp_in_iff.mpr ⟨by omega, by omega⟩) ?_
  refine PW.hvI fun a3 => ?_
  refine PW.aload_n q_284_738 rfl ?_
  refine PW.iload q_284_739 rfl ?_
  refine PW.cI q_284_741 (by decide) fun c4 hc4 => ?_
  refine PW.addN q_284_742 (by omega) (by omega) fun x5 hx5 => ?_
  refine PW.sld q_284_743 (vp_in_iff.mpr ⟨by omega, by omega⟩) ?_
  refine PW.hvI fun a6 => ?_
  refine PW.cV (as := [_, _]) (rest := []) q_284_744 t_mv_284_107 kd_0 J.1.1 (by decide) rfl (by decide) rfl rfl (Nat.le_of_ble_eq_true rfl) (Nat.le_of_ble_eq_true rfl) (by show 311 + c + 0 ≤ 1000; omega) (by show 8628 + 6 * c + 0 ≤ 13000; omega) ?_
  refine PW.up (by decide) (c_X11_turns G _ M J.1 a3 a6 fun y7 M7 IM7 FM7 => ?_)
  refine PW.pop q_284_747 rfl ?_
  refine PW.aload_n q_284_748 rfl ?_
  refine PW.aload_n q_284_749 rfl ?_
  refine PW.iload q_284_750 rfl ?_
  refine PW.cI q_284_752 (by decide) fun c8 hc8 => ?_
  refine PW.addN q_284_753 (by omega) (by omega) fun x9 hx9 => ?_
  refine PW.sld q_284_754 (vp_in_iff.mpr ⟨by omega, by omega⟩) ?_
  refine PW.hvI fun a10 => ?_
  refine PW.aload_n q_284_755 rfl ?_
  refine PW.iload q_284_756 rfl ?_
  refine PW.cI q_284_758 (by decide) fun c11 hc11 => ?_
  refine PW.addN q_284_759 (by omega) (by omega) fun x12 hx12 => ?_
  refine PW.sld q_284_760 (vp_in_iff.mpr ⟨by omega, by omega⟩) ?_
  refine PW.hvI fun a13 => ?_
  refine PW.cV (as := [_, _]) (rest := []) q_284_761 t_mv_284_110 kd_294 IM7.1 (by decide) rfl (by decide) rfl rfl (Nat.le_of_ble_eq_true rfl) (Nat.le_of_ble_eq_true rfl) (by show 311 + c + 0 + 0 ≤ 1000; omega) (by show 8628 + 6 * c + 0 + 0 ≤ 13000; omega) ?_
  refine PW.up (by decide) (c_X12_turns G _ M7 IM7 a10 a13 fun y14 M14 IM14 FM14 lM14 => ?_)
  have e1 : o_i (M7 294) 2 = o_i (M 294) 2 := by rw [Fr.at FM7 kd_294 rfl]
  have e3 : o_i (M7 1) 1 = o_i (M 1) 1 := by rw [Fr.at FM7 kd_1 rfl]
  have e2 : o_i (M14 1) 1 = o_i (M7 1) 1 := by rw [Fr.at FM14 kd_1 rfl]
  have lf : o_i (M14 294) 2 = o_i (M7 294) 2 := lM14.1
  have k0 := J.2.2.1
  have b0 := J.len0
  have f0 : o_i (M14 0) 10 = o_i (M 0) 10 := by rw [(Fr.at FM14 kd_0 rfl), (Fr.at FM7 kd_0 rfl)]
  have f1 : o_i (M14 294) 15 = o_i (M7 294) 15 := lM14.2.2
  have f2 : o_i (M7 294) 15 = o_i (M 294) 15 := by rw [(Fr.at FM7 kd_294 rfl)]
  have fj : o_i (M 0) 10 = o_i (M 294) 15 := J.2.2.2.2.2.2.2.2
  have fe : FE M14 := by unfold FE; omega
  have JM14 : LI M14 := ⟨IM14, by rw [Fr.at FM14 kd_310 rfl, Fr.at FM7 kd_310 rfl]; exact J.2.1, by omega, J.2.2.2.1.cg (by rw [Fr.at FM14 kd_2 rfl, Fr.at FM7 kd_2 rfl]) (by rw [Fr.at FM14 kd_295 rfl, Fr.at FM7 kd_295 rfl]) (by omega), J.2.2.2.2.1.cg (by rw [Fr.at FM14 kd_300 rfl, Fr.at FM7 kd_300 rfl]), J.2.2.2.2.2.1.cg (by rw [Fr.at FM14 kd_109 rfl, Fr.at FM7 kd_109 rfl]) (by rw [Fr.at FM14 kd_309 rfl, Fr.at FM7 kd_309 rfl]), J.2.2.2.2.2.2.1.cg (by rw [Fr.at FM14 kd_4 rfl, Fr.at FM7 kd_4 rfl]) (by rw [Fr.at FM14 kd_40 rfl, Fr.at FM7 kd_40 rfl]) (by rw [Fr.at FM14 kd_75 rfl, Fr.at FM7 kd_75 rfl]) (by rw [Fr.at FM14 kd_109 rfl, Fr.at FM7 kd_109 rfl]) (by rw [Fr.at FM14 kd_307 rfl, Fr.at FM7 kd_307 rfl]) (gHs.tr (gHs.cg gHs.refl (Fr.at FM7 kd_296 rfl)) lM14.2.1), J.2.2.2.2.2.2.2.1.cg (by rw [Fr.at FM14 kd_4 rfl, Fr.at FM7 kd_4 rfl]) (by rw [Fr.at FM14 kd_40 rfl, Fr.at FM7 kd_40 rfl]) (by rw [Fr.at FM14 kd_75 rfl, Fr.at FM7 kd_75 rfl]) (by rw [Fr.at FM14 kd_5 rfl, Fr.at FM7 kd_5 rfl]) (by rw [Fr.at FM14 kd_41 rfl, Fr.at FM7 kd_41 rfl]) (by rw [Fr.at FM14 kd_76 rfl, Fr.at FM7 kd_76 rfl]) (by rw [Fr.at FM14 kd_109 rfl, Fr.at FM7 kd_109 rfl]) (by rw [Fr.at FM14 kd_308 rfl, Fr.at FM7 kd_308 rfl]) (by rw [Fr.at FM14 kd_299 rfl, Fr.at FM7 kd_299 rfl]), fe⟩
  refine PW.pop q_284_764 rfl ?_
  refine PW.goto q_284_765 rfl ?_
  refine PW.incN q_284_1546 rfl (by decide) (by decide) (by omega) (by omega) fun x15 hx15 => ?_
  refine PW.goto q_284_1549 rfl ?_
  refine PW.cs (ce' := 311 + c) (sl' := 8628 + 6 * c) (by show 311 + c + 0 + 0 = _; omega) (by show 8628 + 6 * c + 0 + 0 = _; omega) ?_
  refine PW.lvS (lv' := law_lv x15) (lk1 rfl (lk1 rfl (lk1 rfl (lk1 rfl (lk1 rfl lk0))))) ?_
  exact PW.exit (kk M14 c x15 JM14 (by omega) (by omega))
set_option maxRecDepth 100000 in
set_option maxHeartbeats 4000000 in
theorem law_next (G : pG) : law_C G 768 := by
  intro i M c h0 h6 hL J hc kk
  refine PX.run ?_
  refine PW.aload_n q_284_768 rfl ?_
  refine PW.aload_n q_284_769 rfl ?_
  refine PW.iload q_284_770 rfl ?_
  refine PW.cI q_284_772 (by decide) fun c1 hc1 => ?_
  refine PW.addN q_284_773 (by omega) (by omega) fun x2 hx2 => ?_
  refine PW.sld q_284_774 (vp_in_iff.mpr ⟨by omega, by omega⟩) ?_
  refine PW.hvI fun a3 => ?_
  refine PW.cV (as := [_]) (rest := []) q_284_775 t_mv_284_111 kd_0 J.1.1 (by decide) rfl (by decide) rfl rfl (Nat.le_of_ble_eq_true rfl) (Nat.le_of_ble_eq_true rfl) (by show 311 + c + 0 ≤ 1000; omega) (by show 8628 + 6 * c + 0 ≤ 13000; omega) ?_
  refine PW.up (by decide) (c_X11_next G _ M J.1 a3 fun y4 M4 IM4 FM4 => ?_)
  refine PW.pop q_284_778 rfl ?_
  refine PW.aload_n q_284_779 rfl ?_
  refine PW.aload_n q_284_780 rfl ?_
  refine PW.iload q_284_781 rfl ?_
  refine PW.cI q_284_783 (by decide) fun c5 hc5 => ?_
  refine PW.addN q_284_784 (by omega) (by omega) fun x6 hx6 => ?_
  refine PW.sld q_284_785 (vp_in_iff.mpr ⟨by omega, by omega⟩) ?_
  refine PW.hvI fun a7 => ?_
  refine PW.cV (as := [_]) (rest := []) q_284_786 t_mv_284_114 kd_294 IM4.1 (by decide) rfl (by decide) rfl rfl (Nat.le_of_ble_eq_true rfl) (Nat.le_of_ble_eq_true rfl) (by show 311 + c + 0 + 0 ≤ 1000; omega) (by show 8628 + 6 * c + 0 + 0 ≤ 13000; omega) ?_
  refine PW.up (by decide) (c_X12_next G _ M4 IM4 a7 fun y8 M8 IM8 FM8 lM8 => ?_)
  have e1 : o_i (M4 294) 2 = o_i (M 294) 2 := by rw [Fr.at FM4 kd_294 rfl]
  have e3 : o_i (M4 1) 1 = o_i (M 1) 1 := by rw [Fr.at FM4 kd_1 rfl]
  have e2 : o_i (M8 1) 1 = o_i (M4 1) 1 := by rw [Fr.at FM8 kd_1 rfl]
  have lf : o_i (M8 294) 2 = o_i (M4 294) 2 := lM8.1
  have k0 := J.2.2.1
  have b0 := J.len0
  have f0 : o_i (M8 0) 10 = o_i (M 0) 10 := by rw [(Fr.at FM8 kd_0 rfl), (Fr.at FM4 kd_0 rfl)]
  have f1 : o_i (M8 294) 15 = o_i (M4 294) 15 := lM8.2.2
  have f2 : o_i (M4 294) 15 = o_i (M 294) 15 := by rw [(Fr.at FM4 kd_294 rfl)]
  have fj : o_i (M 0) 10 = o_i (M 294) 15 := J.2.2.2.2.2.2.2.2
  have fe : FE M8 := by unfold FE; omega
  have JM8 : LI M8 := ⟨IM8, by rw [Fr.at FM8 kd_310 rfl, Fr.at FM4 kd_310 rfl]; exact J.2.1, by omega, J.2.2.2.1.cg (by rw [Fr.at FM8 kd_2 rfl, Fr.at FM4 kd_2 rfl]) (by rw [Fr.at FM8 kd_295 rfl, Fr.at FM4 kd_295 rfl]) (by omega), J.2.2.2.2.1.cg (by rw [Fr.at FM8 kd_300 rfl, Fr.at FM4 kd_300 rfl]), J.2.2.2.2.2.1.cg (by rw [Fr.at FM8 kd_109 rfl, Fr.at FM4 kd_109 rfl]) (by rw [Fr.at FM8 kd_309 rfl, Fr.at FM4 kd_309 rfl]), J.2.2.2.2.2.2.1.cg (by rw [Fr.at FM8 kd_4 rfl, Fr.at FM4 kd_4 rfl]) (by rw [Fr.at FM8 kd_40 rfl, Fr.at FM4 kd_40 rfl]) (by rw [Fr.at FM8 kd_75 rfl, Fr.at FM4 kd_75 rfl]) (by rw [Fr.at FM8 kd_109 rfl, Fr.at FM4 kd_109 rfl]) (by rw [Fr.at FM8 kd_307 rfl, Fr.at FM4 kd_307 rfl]) (gHs.cg gHs.refl (by rw [Fr.at FM8 kd_296 rfl, Fr.at FM4 kd_296 rfl])), J.2.2.2.2.2.2.2.1.cg (by rw [Fr.at FM8 kd_4 rfl, Fr.at FM4 kd_4 rfl]) (by rw [Fr.at FM8 kd_40 rfl, Fr.at FM4 kd_40 rfl]) (by rw [Fr.at FM8 kd_75 rfl, Fr.at FM4 kd_75 rfl]) (by rw [Fr.at FM8 kd_5 rfl, Fr.at FM4 kd_5 rfl]) (by rw [Fr.at FM8 kd_41 rfl, Fr.at FM4 kd_41 rfl]) (by rw [Fr.at FM8 kd_76 rfl, Fr.at FM4 kd_76 rfl]) (by rw [Fr.at FM8 kd_109 rfl, Fr.at FM4 kd_109 rfl]) (by rw [Fr.at FM8 kd_308 rfl, Fr.at FM4 kd_308 rfl]) (by rw [Fr.at FM8 kd_299 rfl, Fr.at FM4 kd_299 rfl]), fe⟩
  refine PW.pop q_284_789 rfl ?_
  refine PW.goto q_284_790 rfl ?_
  refine PW.incN q_284_1546 rfl (by decide) (by decide) (by omega) (by omega) fun x9 hx9 => ?_
  refine PW.goto q_284_1549 rfl ?_
  refine PW.cs (ce' := 311 + c) (sl' := 8628 + 6 * c) (by show 311 + c + 0 + 0 = _; omega) (by show 8628 + 6 * c + 0 + 0 = _; omega) ?_
  refine PW.lvS (lv' := law_lv x9) (lk1 rfl (lk1 rfl (lk1 rfl (lk1 rfl (lk1 rfl lk0))))) ?_
  exact PW.exit (kk M8 c x9 JM8 (by omega) (by omega))
set_option maxRecDepth 100000 in
set_option maxHeartbeats 4000000 in
theorem law_said (G : pG) : law_C G 793 := by
  intro i M c h0 h6 hL J hc kk
  refine PX.run ?_
  refine PW.aload_n q_284_793 rfl ?_
  refine PW.aload_n q_284_794 rfl ?_
  refine PW.iload q_284_795 rfl ?_
  refine PW.cI q_284_797 (by decide) fun c1 hc1 => ?_
  refine PW.addN q_284_798 (by omega) (by omega) fun x2 hx2 => ?_
  refine PW.sld q_284_799 (vp_in_iff.mpr ⟨by omega, by omega⟩) ?_
  refine PW.hvI fun a3 => ?_
  refine PW.aload_n q_284_800 rfl ?_
  refine PW.iload q_284_801 rfl ?_
  refine PW.cI q_284_803 (by decide) fun c4 hc4 => ?_
  refine PW.addN q_284_804 (by omega) (by omega) fun x5 hx5 => ?_
  refine PW.sld q_284_805 (vp_in_iff.mpr ⟨by omega, by omega⟩) ?_
  refine PW.hvI fun a6 => ?_
  refine PW.cV (as := [_, _]) (rest := []) q_284_806 t_mv_284_115 kd_0 J.1.1 (by decide) rfl (by decide) rfl rfl (Nat.le_of_ble_eq_true rfl) (Nat.le_of_ble_eq_true rfl) (by show 311 + c + 0 ≤ 1000; omega) (by show 8628 + 6 * c + 0 ≤ 13000; omega) ?_
  refine PW.up (by decide) (c_X11_said G _ M J.1 a3 a6 fun y7 M7 IM7 FM7 => ?_)
  refine PW.pop q_284_809 rfl ?_
  refine PW.aload_n q_284_810 rfl ?_
  refine PW.aload_n q_284_811 rfl ?_
  refine PW.iload q_284_812 rfl ?_
  refine PW.cI q_284_814 (by decide) fun c8 hc8 => ?_
  refine PW.addN q_284_815 (by omega) (by omega) fun x9 hx9 => ?_
  refine PW.sld q_284_816 (vp_in_iff.mpr ⟨by omega, by omega⟩) ?_
  refine PW.hvI fun a10 => ?_
  refine PW.aload_n q_284_817 rfl ?_
  refine PW.iload q_284_818 rfl ?_
  refine PW.cI q_284_820 (by decide) fun c11 hc11 => ?_
  refine PW.addN q_284_821 (by omega) (by omega) fun x12 hx12 => ?_
  refine PW.sld q_284_822 (vp_in_iff.mpr ⟨by omega, by omega⟩) ?_
  refine PW.hvI fun a13 => ?_
  refine PW.cV (as := [_, _]) (rest := []) q_284_823 t_mv_284_118 kd_294 IM7.1 (by decide) rfl (by decide) rfl rfl (Nat.le_of_ble_eq_true rfl) (Nat.le_of_ble_eq_true rfl) (by show 311 + c + 0 + 0 ≤ 1000; omega) (by show 8628 + 6 * c + 0 + 0 ≤ 13000; omega) ?_
  refine PW.up (by decide) (c_X12_said G _ M7 IM7 a10 a13 fun y14 M14 IM14 FM14 lM14 => ?_)
  have e1 : o_i (M7 294) 2 = o_i (M 294) 2 := by rw [Fr.at FM7 kd_294 rfl]
  have e3 : o_i (M7 1) 1 = o_i (M 1) 1 := by rw [Fr.at FM7 kd_1 rfl]
  have e2 : o_i (M14 1) 1 = o_i (M7 1) 1 := by rw [Fr.at FM14 kd_1 rfl]
  have lf : o_i (M14 294) 2 = o_i (M7 294) 2 := lM14.1
  have k0 := J.2.2.1
  have b0 := J.len0
  have f0 : o_i (M14 0) 10 = o_i (M 0) 10 := by rw [(Fr.at FM14 kd_0 rfl), (Fr.at FM7 kd_0 rfl)]
  have f1 : o_i (M14 294) 15 = o_i (M7 294) 15 := lM14.2.2
  have f2 : o_i (M7 294) 15 = o_i (M 294) 15 := by rw [(Fr.at FM7 kd_294 rfl)]
  have fj : o_i (M 0) 10 = o_i (M 294) 15 := J.2.2.2.2.2.2.2.2
  have fe : FE M14 := by unfold FE; omega
  have JM14 : LI M14 := ⟨IM14, by rw [Fr.at FM14 kd_310 rfl, Fr.at FM7 kd_310 rfl]; exact J.2.1, by omega, J.2.2.2.1.cg (by rw [Fr.at FM14 kd_2 rfl, Fr.at FM7 kd_2 rfl]) (by rw [Fr.at FM14 kd_295 rfl, Fr.at FM7 kd_295 rfl]) (by omega), J.2.2.2.2.1.cg (by rw [Fr.at FM14 kd_300 rfl, Fr.at FM7 kd_300 rfl]), J.2.2.2.2.2.1.cg (by rw [Fr.at FM14 kd_109 rfl, Fr.at FM7 kd_109 rfl]) (by rw [Fr.at FM14 kd_309 rfl, Fr.at FM7 kd_309 rfl]), J.2.2.2.2.2.2.1.cg (by rw [Fr.at FM14 kd_4 rfl, Fr.at FM7 kd_4 rfl]) (by rw [Fr.at FM14 kd_40 rfl, Fr.at FM7 kd_40 rfl]) (by rw [Fr.at FM14 kd_75 rfl, Fr.at FM7 kd_75 rfl]) (by rw [Fr.at FM14 kd_109 rfl, Fr.at FM7 kd_109 rfl]) (by rw [Fr.at FM14 kd_307 rfl, Fr.at FM7 kd_307 rfl]) (gHs.cg gHs.refl (by rw [Fr.at FM14 kd_296 rfl, Fr.at FM7 kd_296 rfl])), J.2.2.2.2.2.2.2.1.cg (by rw [Fr.at FM14 kd_4 rfl, Fr.at FM7 kd_4 rfl]) (by rw [Fr.at FM14 kd_40 rfl, Fr.at FM7 kd_40 rfl]) (by rw [Fr.at FM14 kd_75 rfl, Fr.at FM7 kd_75 rfl]) (by rw [Fr.at FM14 kd_5 rfl, Fr.at FM7 kd_5 rfl]) (by rw [Fr.at FM14 kd_41 rfl, Fr.at FM7 kd_41 rfl]) (by rw [Fr.at FM14 kd_76 rfl, Fr.at FM7 kd_76 rfl]) (by rw [Fr.at FM14 kd_109 rfl, Fr.at FM7 kd_109 rfl]) (by rw [Fr.at FM14 kd_308 rfl, Fr.at FM7 kd_308 rfl]) (by rw [Fr.at FM14 kd_299 rfl, Fr.at FM7 kd_299 rfl]), fe⟩
  refine PW.pop q_284_826 rfl ?_
  refine PW.goto q_284_827 rfl ?_
  refine PW.incN q_284_1546 rfl (by decide) (by decide) (by omega) (by omega) fun x15 hx15 => ?_
  refine PW.goto q_284_1549 rfl ?_
  refine PW.cs (ce' := 311 + c) (sl' := 8628 + 6 * c) (by show 311 + c + 0 + 0 = _; omega) (by show 8628 + 6 * c + 0 + 0 = _; omega) ?_
  refine PW.lvS (lv' := law_lv x15) (lk1 rfl (lk1 rfl (lk1 rfl (lk1 rfl (lk1 rfl lk0))))) ?_
  exact PW.exit (kk M14 c x15 JM14 (by omega) (by omega))
set_option maxRecDepth 100000 in
set_option maxHeartbeats 4000000 in
theorem law_dearest (G : pG) : law_C G 830 := by
  intro i M c h0 h6 hL J hc kk
  refine PX.run ?_
  refine PW.aload_n q_284_830 rfl ?_
  refine PW.cV (as := []) (rest := []) q_284_831 t_mv_284_119 kd_0 J.1.1 (by decide) rfl (by decide) rfl rfl (Nat.le_of_ble_eq_true rfl) (Nat.le_of_ble_eq_true rfl) (by show 311 + c + 0 ≤ 1000; omega) (by show 8628 + 6 * c + 0 ≤ 13000; omega) ?_
  refine PW.up (by decide) (c_X11_dearest G _ M J.1  fun y1 M1 IM1 FM1 => ?_)
  refine PW.pop q_284_834 rfl ?_
  refine PW.aload_n q_284_835 rfl ?_
  refine PW.cV (as := []) (rest := []) q_284_836 t_mv_284_122 kd_294 IM1.1 (by decide) rfl (by decide) rfl rfl (Nat.le_of_ble_eq_true rfl) (Nat.le_of_ble_eq_true rfl) (by show 311 + c + 0 + 0 ≤ 1000; omega) (by show 8628 + 6 * c + 0 + 0 ≤ 13000; omega) ?_
  refine PW.up (by decide) (c_X12_dearest G _ M1 IM1  fun y2 M2 IM2 FM2 lM2 => ?_)
  have e1 : o_i (M1 294) 2 = o_i (M 294) 2 := by rw [Fr.at FM1 kd_294 rfl]
  have e3 : o_i (M1 1) 1 = o_i (M 1) 1 := by rw [Fr.at FM1 kd_1 rfl]
  have e2 : o_i (M2 1) 1 = o_i (M1 1) 1 := by rw [Fr.at FM2 kd_1 rfl]
  have lf : o_i (M2 294) 2 = o_i (M1 294) 2 := lM2.1
  have k0 := J.2.2.1
  have b0 := J.len0
  have f0 : o_i (M2 0) 10 = o_i (M 0) 10 := by rw [(Fr.at FM2 kd_0 rfl), (Fr.at FM1 kd_0 rfl)]
  have f1 : o_i (M2 294) 15 = o_i (M1 294) 15 := lM2.2.2
  have f2 : o_i (M1 294) 15 = o_i (M 294) 15 := by rw [(Fr.at FM1 kd_294 rfl)]
  have fj : o_i (M 0) 10 = o_i (M 294) 15 := J.2.2.2.2.2.2.2.2
  have fe : FE M2 := by unfold FE; omega
  have JM2 : LI M2 := ⟨IM2, by rw [Fr.at FM2 kd_310 rfl, Fr.at FM1 kd_310 rfl]; exact J.2.1, by omega, J.2.2.2.1.cg (by rw [Fr.at FM2 kd_2 rfl, Fr.at FM1 kd_2 rfl]) (by rw [Fr.at FM2 kd_295 rfl, Fr.at FM1 kd_295 rfl]) (by omega), J.2.2.2.2.1.cg (by rw [Fr.at FM2 kd_300 rfl, Fr.at FM1 kd_300 rfl]), J.2.2.2.2.2.1.cg (by rw [Fr.at FM2 kd_109 rfl, Fr.at FM1 kd_109 rfl]) (by rw [Fr.at FM2 kd_309 rfl, Fr.at FM1 kd_309 rfl]), J.2.2.2.2.2.2.1.cg (by rw [Fr.at FM2 kd_4 rfl, Fr.at FM1 kd_4 rfl]) (by rw [Fr.at FM2 kd_40 rfl, Fr.at FM1 kd_40 rfl]) (by rw [Fr.at FM2 kd_75 rfl, Fr.at FM1 kd_75 rfl]) (by rw [Fr.at FM2 kd_109 rfl, Fr.at FM1 kd_109 rfl]) (by rw [Fr.at FM2 kd_307 rfl, Fr.at FM1 kd_307 rfl]) (gHs.cg gHs.refl (by rw [Fr.at FM2 kd_296 rfl, Fr.at FM1 kd_296 rfl])), J.2.2.2.2.2.2.2.1.cg (by rw [Fr.at FM2 kd_4 rfl, Fr.at FM1 kd_4 rfl]) (by rw [Fr.at FM2 kd_40 rfl, Fr.at FM1 kd_40 rfl]) (by rw [Fr.at FM2 kd_75 rfl, Fr.at FM1 kd_75 rfl]) (by rw [Fr.at FM2 kd_5 rfl, Fr.at FM1 kd_5 rfl]) (by rw [Fr.at FM2 kd_41 rfl, Fr.at FM1 kd_41 rfl]) (by rw [Fr.at FM2 kd_76 rfl, Fr.at FM1 kd_76 rfl]) (by rw [Fr.at FM2 kd_109 rfl, Fr.at FM1 kd_109 rfl]) (by rw [Fr.at FM2 kd_308 rfl, Fr.at FM1 kd_308 rfl]) (by rw [Fr.at FM2 kd_299 rfl, Fr.at FM1 kd_299 rfl]), fe⟩
  refine PW.pop q_284_839 rfl ?_
  refine PW.goto q_284_840 rfl ?_
  refine PW.incN q_284_1546 rfl (by decide) (by decide) (by omega) (by omega) fun x3 hx3 => ?_
  refine PW.goto q_284_1549 rfl ?_
  refine PW.cs (ce' := 311 + c) (sl' := 8628 + 6 * c) (by show 311 + c + 0 + 0 = _; omega) (by show 8628 + 6 * c + 0 + 0 = _; omega) ?_
  refine PW.lvS (lv' := law_lv x3) (lk1 rfl (lk1 rfl (lk1 rfl (lk1 rfl (lk1 rfl lk0))))) ?_
  exact PW.exit (kk M2 c x3 JM2 (by omega) (by omega))
set_option maxRecDepth 100000 in
set_option maxHeartbeats 4000000 in
theorem law_far (G : pG) : law_C G 843 := by
  intro i M c h0 h6 hL J hc kk
  refine PX.run ?_
  refine PW.aload_n q_284_843 rfl ?_
  refine PW.aload_n q_284_844 rfl ?_
  refine PW.iload q_284_845 rfl ?_
  refine PW.cI q_284_847 (by decide) fun c1 hc1 => ?_
  refine PW.addN q_284_848 (by omega) (by omega) fun x2 hx2 => ?_
  refine PW.sld q_284_849 (vp_in_iff.mpr ⟨by omega, by omega⟩) ?_
  refine PW.hvI fun a3 => ?_
  refine PW.aload_n q_284_850 rfl ?_
  refine PW.iload q_284_851 rfl ?_
  refine PW.cI q_284_853 (by decide) fun c4 hc4 => ?_
  refine PW.addN q_284_854 (by omega) (by omega) fun x5 hx5 => ?_
  refine PW.sld q_284_855 (vp_in_iff.mpr ⟨by omega, by omega⟩) ?_
  refine PW.hvI fun a6 => ?_
  refine PW.aload_n q_284_856 rfl ?_
  refine PW.iload q_284_857 rfl ?_
  refine PW.cI q_284_859 (by decide) fun c7 hc7 => ?_
  refine PW.addN q_284_860 (by omega) (by omega) fun x8 hx8 => ?_
  refine PW.sld q_284_861 (vp_in_iff.mpr ⟨by omega, by omega⟩) ?_
  refine PW.hvI fun a9 => ?_
  refine PW.aload_n q_284_862 rfl ?_
  refine PW.iload q_284_863 rfl ?_
  refine PW.cI q_284_865 (by decide) fun c10 hc10 => ?_
  refine PW.addN q_284_866 (by omega) (by omega) fun x11 hx11 => ?_
  refine PW.sld q_284_867 (vp_in_iff.mpr ⟨by omega, by omega⟩) ?_
  refine PW.hvI fun a12 => ?_
  refine PW.aload_n q_284_868 rfl ?_
  refine PW.exit ?_
  refine PX.callX (as := [.ref 0, .int a3, .int a6, .int a9, .int a12, .ref 310]) (rest := []) q_284_869 t_ms_284_123 wc_far wc_ini ⟨by decide +kernel, by decide +kernel⟩ (show (parseMethodDescriptor (p_mY 281).desc).map (fun d => d.parameters.length) = some 6 from by decide +kernel) (by decide +kernel) (Nat.le_of_ble_eq_true rfl) (by show 311 + c + 1 ≤ 1000; omega) (by show 8628 + 6 * c + 6 ≤ 13000; omega) (met_far G a3 a6 a9 a12 M J) ?_
  intro vM13 NM13 M13 hvM13
  obtain ⟨⟨yM13, rfl⟩, rfl, JM13⟩ := hvM13
  refine PX.run ?_
  refine PW.istore q_284_872 (by decide) ?_
  refine PW.aload_n q_284_874 rfl ?_
  refine PW.aload_n q_284_875 rfl ?_
  refine PW.iload q_284_876 rfl ?_
  refine PW.cI q_284_878 (by decide) fun c14 hc14 => ?_
  refine PW.addN q_284_879 (by omega) (by omega) fun x15 hx15 => ?_
  refine PW.sld q_284_880 (vp_in_iff.mpr ⟨by omega, by omega⟩) ?_
  refine PW.hvI fun a16 => ?_
  refine PW.aload_n q_284_881 rfl ?_
  refine PW.iload q_284_882 rfl ?_
  refine PW.cI q_284_884 (by decide) fun c17 hc17 => ?_
  refine PW.addN q_284_885 (by omega) (by omega) fun x18 hx18 => ?_
  refine PW.sld q_284_886 (vp_in_iff.mpr ⟨by omega, by omega⟩) ?_
  refine PW.hvI fun a19 => ?_
  refine PW.aload_n q_284_887 rfl ?_
  refine PW.iload q_284_888 rfl ?_
  refine PW.cI q_284_890 (by decide) fun c20 hc20 => ?_
  refine PW.addN q_284_891 (by omega) (by omega) fun x21 hx21 => ?_
  refine PW.sld q_284_892 (vp_in_iff.mpr ⟨by omega, by omega⟩) ?_
  refine PW.hvI fun a22 => ?_
  refine PW.aload_n q_284_893 rfl ?_
  refine PW.iload q_284_894 rfl ?_
  refine PW.cI q_284_896 (by decide) fun c23 hc23 => ?_
  refine PW.addN q_284_897 (by omega) (by omega) fun x24 hx24 => ?_
  refine PW.sld q_284_898 (vp_in_iff.mpr ⟨by omega, by omega⟩) ?_
  refine PW.hvI fun a25 => ?_
  refine PW.cV (as := [_, _, _, _]) (rest := []) q_284_899 t_mv_284_126 kd_294 JM13.1.1 (by decide) rfl (by decide) rfl rfl (Nat.le_of_ble_eq_true rfl) (Nat.le_of_ble_eq_true rfl) (by show 311 + c + 1 + 0 ≤ 1000; omega) (by show 8628 + 6 * c + 6 + 0 ≤ 13000; omega) ?_
  refine PW.up (by decide) (c_X12_far G _ M13 JM13.1 a16 a19 a22 a25 fun y26 M26 IM26 FM26 lM26 => ?_)
  have e2 : o_i (M26 1) 1 = o_i (M13 1) 1 := by rw [Fr.at FM26 kd_1 rfl]
  have lf : o_i (M26 294) 2 = o_i (M13 294) 2 := lM26.1
  have k0 := JM13.2.2.1
  have b0 := JM13.len0
  have f0 : o_i (M26 0) 10 = o_i (M13 0) 10 := by rw [(Fr.at FM26 kd_0 rfl)]
  have f1 : o_i (M26 294) 15 = o_i (M13 294) 15 := lM26.2.2
  have fj : o_i (M13 0) 10 = o_i (M13 294) 15 := JM13.2.2.2.2.2.2.2.2
  have fe : FE M26 := by unfold FE; omega
  have JM26 : LI M26 := ⟨IM26, by rw [Fr.at FM26 kd_310 rfl]; exact JM13.2.1, by omega, JM13.2.2.2.1.cg (by rw [Fr.at FM26 kd_2 rfl]) (by rw [Fr.at FM26 kd_295 rfl]) (by omega), JM13.2.2.2.2.1.cg (by rw [Fr.at FM26 kd_300 rfl]), JM13.2.2.2.2.2.1.cg (by rw [Fr.at FM26 kd_109 rfl]) (by rw [Fr.at FM26 kd_309 rfl]), JM13.2.2.2.2.2.2.1.cg (by rw [Fr.at FM26 kd_4 rfl]) (by rw [Fr.at FM26 kd_40 rfl]) (by rw [Fr.at FM26 kd_75 rfl]) (by rw [Fr.at FM26 kd_109 rfl]) (by rw [Fr.at FM26 kd_307 rfl]) (gHs.cg gHs.refl (by rw [Fr.at FM26 kd_296 rfl])), JM13.2.2.2.2.2.2.2.1.cg (by rw [Fr.at FM26 kd_4 rfl]) (by rw [Fr.at FM26 kd_40 rfl]) (by rw [Fr.at FM26 kd_75 rfl]) (by rw [Fr.at FM26 kd_5 rfl]) (by rw [Fr.at FM26 kd_41 rfl]) (by rw [Fr.at FM26 kd_76 rfl]) (by rw [Fr.at FM26 kd_109 rfl]) (by rw [Fr.at FM26 kd_308 rfl]) (by rw [Fr.at FM26 kd_299 rfl]), fe⟩
  refine PW.istore q_284_902 (by decide) ?_
  refine PW.goto q_284_904 rfl ?_
  refine PW.incN q_284_1546 rfl (by decide) (by decide) (by omega) (by omega) fun x27 hx27 => ?_
  refine PW.goto q_284_1549 rfl ?_
  refine PW.cs (ce' := 311 + (c + 1)) (sl' := 8628 + 6 * (c + 1)) (by show 311 + c + 1 + 0 = _; omega) (by show 8628 + 6 * c + 6 + 0 = _; omega) ?_
  refine PW.lvS (lv' := law_lv x27) (lk1 rfl (lk1 rfl (lk1 rfl (lk1 rfl (lk1 rfl lk0))))) ?_
  exact PW.exit (kk M26 (c + 1) x27 JM26 (by omega) (by omega))
