theorem dL_does_0 : decode cL_does 0 = .ok (.aload_n 0, 1) := by decide +kernel
theorem dL_does_1 : decode cL_does 1 = .ok (.iload_n 1, 1) := by decide +kernel
theorem dL_does_2 : decode cL_does 2 = .ok (.iconst 2, 1) := by decide +kernel
theorem dL_does_3 : decode cL_does 3 = .ok (.iadd, 1) := by decide +kernel
theorem dL_does_4 : decode cL_does 4 = .ok (.sipush 1000, 3) := by decide +kernel
theorem dL_does_7 : decode cL_does 7 = .ok (.invokestatic 188, 3) := by decide +kernel
theorem dL_does_10 : decode cL_does 10 = .ok (.istore 5, 2) := by decide +kernel
theorem dL_does_12 : decode cL_does 12 = .ok (.aload_n 0, 1) := by decide +kernel
theorem dL_does_13 : decode cL_does 13 = .ok (.iload_n 1, 1) := by decide +kernel
theorem dL_does_14 : decode cL_does 14 = .ok (.iconst 3, 1) := by decide +kernel
theorem dL_does_15 : decode cL_does 15 = .ok (.iadd, 1) := by decide +kernel
theorem dL_does_16 : decode cL_does 16 = .ok (.sipush 4000, 3) := by decide +kernel
theorem dL_does_19 : decode cL_does 19 = .ok (.invokestatic 188, 3) := by decide +kernel
theorem dL_does_22 : decode cL_does 22 = .ok (.istore 6, 2) := by decide +kernel
theorem dL_does_24 : decode cL_does 24 = .ok (.aload_n 0, 1) := by decide +kernel
theorem dL_does_25 : decode cL_does 25 = .ok (.iload_n 1, 1) := by decide +kernel
theorem dL_does_26 : decode cL_does 26 = .ok (.iconst 4, 1) := by decide +kernel
theorem dL_does_27 : decode cL_does 27 = .ok (.iadd, 1) := by decide +kernel
theorem dL_does_28 : decode cL_does 28 = .ok (.aload_n 3, 1) := by decide +kernel
theorem dL_does_29 : decode cL_does 29 = .ok (.invokevirtual 230, 3) := by decide +kernel
theorem dL_does_32 : decode cL_does 32 = .ok (.iload 5, 2) := by decide +kernel
theorem dL_does_34 : decode cL_does 34 = .ok (.bipush 17, 2) := by decide +kernel
theorem dL_does_36 : decode cL_does 36 = .ok (.irem, 1) := by decide +kernel
theorem dL_does_37 : decode cL_does 37 = .ok (.ifCond .eq 10, 3) := by decide +kernel
theorem dL_does_40 : decode cL_does 40 = .ok (.aload_n 3, 1) := by decide +kernel
theorem dL_does_41 : decode cL_does 41 = .ok (.invokevirtual 230, 3) := by decide +kernel
theorem dL_does_44 : decode cL_does 44 = .ok (.ifCond .ne 7, 3) := by decide +kernel
theorem dL_does_47 : decode cL_does 47 = .ok (.iconst 1, 1) := by decide +kernel
theorem dL_does_48 : decode cL_does 48 = .ok (.goto 4, 3) := by decide +kernel
theorem dL_does_51 : decode cL_does 51 = .ok (.iconst 0, 1) := by decide +kernel
theorem dL_does_52 : decode cL_does 52 = .ok (.iadd, 1) := by decide +kernel
theorem dL_does_53 : decode cL_does 53 = .ok (.invokestatic 188, 3) := by decide +kernel
theorem dL_does_56 : decode cL_does 56 = .ok (.istore 7, 2) := by decide +kernel
theorem dL_does_58 : decode cL_does 58 = .ok (.iload 6, 2) := by decide +kernel
theorem dL_does_60 : decode cL_does 60 = .ok (.aload_n 3, 1) := by decide +kernel
theorem dL_does_61 : decode cL_does 61 = .ok (.invokevirtual 233, 3) := by decide +kernel
theorem dL_does_64 : decode cL_does 64 = .ok (.iload 5, 2) := by decide +kernel
theorem dL_does_66 : decode cL_does 66 = .ok (.bipush 13, 2) := by decide +kernel
theorem dL_does_68 : decode cL_does 68 = .ok (.irem, 1) := by decide +kernel
theorem dL_does_69 : decode cL_does 69 = .ok (.ifCond .eq 10, 3) := by decide +kernel
theorem dL_does_72 : decode cL_does 72 = .ok (.aload_n 3, 1) := by decide +kernel
theorem dL_does_73 : decode cL_does 73 = .ok (.invokevirtual 233, 3) := by decide +kernel
theorem dL_does_76 : decode cL_does 76 = .ok (.ifCond .ne 7, 3) := by decide +kernel
theorem dL_does_79 : decode cL_does 79 = .ok (.iconst 1, 1) := by decide +kernel
theorem dL_does_80 : decode cL_does 80 = .ok (.goto 4, 3) := by decide +kernel
theorem dL_does_83 : decode cL_does 83 = .ok (.iconst 0, 1) := by decide +kernel
theorem dL_does_84 : decode cL_does 84 = .ok (.iadd, 1) := by decide +kernel
theorem dL_does_85 : decode cL_does 85 = .ok (.irem, 1) := by decide +kernel
theorem dL_does_86 : decode cL_does 86 = .ok (.istore 8, 2) := by decide +kernel
theorem dL_does_88 : decode cL_does 88 = .ok (.iload_n 2, 1) := by decide +kernel
theorem dL_does_89 : decode cL_does 89 = .ok (.tableswitch 358 0 40 #[179, 179, 179, 179, 207, 214, 214, 214, 214, 214, 214, 226, 252, 252, 265, 265, 270, 270, 275, 282, 293, 293, 293, 293, 293, 293, 293, 293, 293, 325, 325, 325, 325, 325, 337, 351, 351, 351, 351, 351, 351], 179) := by decide +kernel
theorem dL_does_268 : decode cL_does 268 = .ok (.aload_n 3, 1) := by decide +kernel
theorem dL_does_269 : decode cL_does 269 = .ok (.iload 5, 2) := by decide +kernel
theorem dL_does_271 : decode cL_does 271 = .ok (.iconst 3, 1) := by decide +kernel
theorem dL_does_272 : decode cL_does 272 = .ok (.irem, 1) := by decide +kernel
theorem dL_does_273 : decode cL_does 273 = .ok (.ifCond .ne 14, 3) := by decide +kernel
theorem dL_does_276 : decode cL_does 276 = .ok (.iload 6, 2) := by decide +kernel
theorem dL_does_278 : decode cL_does 278 = .ok (.bipush 10, 2) := by decide +kernel
theorem dL_does_280 : decode cL_does 280 = .ok (.irem, 1) := by decide +kernel
theorem dL_does_281 : decode cL_does 281 = .ok (.bipush 11, 2) := by decide +kernel
theorem dL_does_283 : decode cL_does 283 = .ok (.imul, 1) := by decide +kernel
theorem dL_does_284 : decode cL_does 284 = .ok (.goto 8, 3) := by decide +kernel
theorem dL_does_287 : decode cL_does 287 = .ok (.iload 6, 2) := by decide +kernel
theorem dL_does_289 : decode cL_does 289 = .ok (.bipush 102, 2) := by decide +kernel
theorem dL_does_291 : decode cL_does 291 = .ok (.irem, 1) := by decide +kernel
theorem dL_does_292 : decode cL_does 292 = .ok (.invokestatic 236, 3) := by decide +kernel
theorem dL_does_295 : decode cL_does 295 = .ok (.ireturn, 1) := by decide +kernel
theorem dL_does_296 : decode cL_does 296 = .ok (.aload_n 3, 1) := by decide +kernel
theorem dL_does_297 : decode cL_does 297 = .ok (.iload 7, 2) := by decide +kernel
theorem dL_does_299 : decode cL_does 299 = .ok (.invokestatic 238, 3) := by decide +kernel
theorem dL_does_302 : decode cL_does 302 = .ok (.ireturn, 1) := by decide +kernel
theorem dL_does_303 : decode cL_does 303 = .ok (.aload_n 3, 1) := by decide +kernel
theorem dL_does_304 : decode cL_does 304 = .ok (.iload 7, 2) := by decide +kernel
theorem dL_does_306 : decode cL_does 306 = .ok (.iload 6, 2) := by decide +kernel
theorem dL_does_308 : decode cL_does 308 = .ok (.bipush 12, 2) := by decide +kernel
theorem dL_does_310 : decode cL_does 310 = .ok (.irem, 1) := by decide +kernel
theorem dL_does_311 : decode cL_does 311 = .ok (.invokestatic 240, 3) := by decide +kernel
theorem dL_does_314 : decode cL_does 314 = .ok (.ireturn, 1) := by decide +kernel
theorem dL_does_315 : decode cL_does 315 = .ok (.aload_n 3, 1) := by decide +kernel
theorem dL_does_316 : decode cL_does 316 = .ok (.iload 5, 2) := by decide +kernel
theorem dL_does_318 : decode cL_does 318 = .ok (.bipush 9, 2) := by decide +kernel
theorem dL_does_320 : decode cL_does 320 = .ok (.irem, 1) := by decide +kernel
theorem dL_does_321 : decode cL_does 321 = .ok (.ifCond .ne 11, 3) := by decide +kernel
theorem dL_does_324 : decode cL_does 324 = .ok (.iload 6, 2) := by decide +kernel
theorem dL_does_326 : decode cL_does 326 = .ok (.bipush 103, 2) := by decide +kernel
theorem dL_does_328 : decode cL_does 328 = .ok (.irem, 1) := by decide +kernel
theorem dL_does_329 : decode cL_does 329 = .ok (.goto 8, 3) := by decide +kernel
theorem dL_does_332 : decode cL_does 332 = .ok (.iload 6, 2) := by decide +kernel
theorem dL_does_334 : decode cL_does 334 = .ok (.bipush 40, 2) := by decide +kernel
theorem dL_does_336 : decode cL_does 336 = .ok (.irem, 1) := by decide +kernel
theorem dL_does_337 : decode cL_does 337 = .ok (.invokestatic 243, 3) := by decide +kernel
theorem dL_does_340 : decode cL_does 340 = .ok (.ireturn, 1) := by decide +kernel
theorem dL_does_341 : decode cL_does 341 = .ok (.aload_n 3, 1) := by decide +kernel
theorem dL_does_342 : decode cL_does 342 = .ok (.iload 5, 2) := by decide +kernel
theorem dL_does_344 : decode cL_does 344 = .ok (.bipush 21, 2) := by decide +kernel
theorem dL_does_346 : decode cL_does 346 = .ok (.irem, 1) := by decide +kernel
theorem dL_does_347 : decode cL_does 347 = .ok (.bipush 10, 2) := by decide +kernel
theorem dL_does_349 : decode cL_does 349 = .ok (.isub, 1) := by decide +kernel
theorem dL_does_350 : decode cL_does 350 = .ok (.invokestatic 245, 3) := by decide +kernel
theorem dL_does_353 : decode cL_does 353 = .ok (.ireturn, 1) := by decide +kernel
theorem dL_does_354 : decode cL_does 354 = .ok (.aload_n 3, 1) := by decide +kernel
theorem dL_does_355 : decode cL_does 355 = .ok (.invokevirtual 247, 3) := by decide +kernel
theorem dL_does_358 : decode cL_does 358 = .ok (.ireturn, 1) := by decide +kernel
theorem dL_does_359 : decode cL_does 359 = .ok (.aload_n 3, 1) := by decide +kernel
theorem dL_does_360 : decode cL_does 360 = .ok (.invokestatic 250, 3) := by decide +kernel
theorem dL_does_363 : decode cL_does 363 = .ok (.ireturn, 1) := by decide +kernel
theorem dL_does_364 : decode cL_does 364 = .ok (.aload_n 3, 1) := by decide +kernel
theorem dL_does_365 : decode cL_does 365 = .ok (.iload 8, 2) := by decide +kernel
theorem dL_does_367 : decode cL_does 367 = .ok (.invokestatic 252, 3) := by decide +kernel
theorem dL_does_370 : decode cL_does 370 = .ok (.ireturn, 1) := by decide +kernel
theorem dL_does_371 : decode cL_does 371 = .ok (.aload_n 3, 1) := by decide +kernel
theorem dL_does_372 : decode cL_does 372 = .ok (.iload 8, 2) := by decide +kernel
theorem dL_does_374 : decode cL_does 374 = .ok (.iload 5, 2) := by decide +kernel
theorem dL_does_376 : decode cL_does 376 = .ok (.iconst 4, 1) := by decide +kernel
theorem dL_does_377 : decode cL_does 377 = .ok (.irem, 1) := by decide +kernel
theorem dL_does_378 : decode cL_does 378 = .ok (.invokestatic 254, 3) := by decide +kernel
theorem dL_does_381 : decode cL_does 381 = .ok (.ireturn, 1) := by decide +kernel
theorem dL_does_382 : decode cL_does 382 = .ok (.aload_n 3, 1) := by decide +kernel
theorem dL_does_383 : decode cL_does 383 = .ok (.iload 8, 2) := by decide +kernel
theorem dL_does_385 : decode cL_does 385 = .ok (.iload 5, 2) := by decide +kernel
theorem dL_does_387 : decode cL_does 387 = .ok (.iload 5, 2) := by decide +kernel
theorem dL_does_389 : decode cL_does 389 = .ok (.iconst 5, 1) := by decide +kernel
theorem dL_does_390 : decode cL_does 390 = .ok (.irem, 1) := by decide +kernel
theorem dL_does_391 : decode cL_does 391 = .ok (.ifCond .ne 8, 3) := by decide +kernel
theorem dL_does_394 : decode cL_does 394 = .ok (.bipush 22, 2) := by decide +kernel
theorem dL_does_396 : decode cL_does 396 = .ok (.goto 4, 3) := by decide +kernel
theorem dL_does_399 : decode cL_does 399 = .ok (.iconst 5, 1) := by decide +kernel
theorem dL_does_400 : decode cL_does 400 = .ok (.irem, 1) := by decide +kernel
theorem dL_does_401 : decode cL_does 401 = .ok (.iload 7, 2) := by decide +kernel
theorem dL_does_403 : decode cL_does 403 = .ok (.iload 6, 2) := by decide +kernel
theorem dL_does_405 : decode cL_does 405 = .ok (.iconst 5, 1) := by decide +kernel
theorem dL_does_406 : decode cL_does 406 = .ok (.idiv, 1) := by decide +kernel
theorem dL_does_407 : decode cL_does 407 = .ok (.bipush 12, 2) := by decide +kernel
theorem dL_does_409 : decode cL_does 409 = .ok (.irem, 1) := by decide +kernel
theorem dL_does_410 : decode cL_does 410 = .ok (.invokestatic 256, 3) := by decide +kernel
theorem dL_does_413 : decode cL_does 413 = .ok (.ireturn, 1) := by decide +kernel
theorem dL_does_414 : decode cL_does 414 = .ok (.aload_n 3, 1) := by decide +kernel
theorem dL_does_415 : decode cL_does 415 = .ok (.iload 8, 2) := by decide +kernel
theorem dL_does_417 : decode cL_does 417 = .ok (.iload 5, 2) := by decide +kernel
theorem dL_does_419 : decode cL_does 419 = .ok (.bipush 7, 2) := by decide +kernel
theorem dL_does_421 : decode cL_does 421 = .ok (.irem, 1) := by decide +kernel
theorem dL_does_422 : decode cL_does 422 = .ok (.invokestatic 259, 3) := by decide +kernel
theorem dL_does_425 : decode cL_does 425 = .ok (.ireturn, 1) := by decide +kernel
theorem dL_does_426 : decode cL_does 426 = .ok (.aload_n 3, 1) := by decide +kernel
theorem dL_does_427 : decode cL_does 427 = .ok (.iload 6, 2) := by decide +kernel
theorem dL_does_429 : decode cL_does 429 = .ok (.aload_n 3, 1) := by decide +kernel
theorem dL_does_430 : decode cL_does 430 = .ok (.invokevirtual 203, 3) := by decide +kernel
theorem dL_does_433 : decode cL_does 433 = .ok (.iconst 1, 1) := by decide +kernel
theorem dL_does_434 : decode cL_does 434 = .ok (.iadd, 1) := by decide +kernel
theorem dL_does_435 : decode cL_does 435 = .ok (.irem, 1) := by decide +kernel
theorem dL_does_436 : decode cL_does 436 = .ok (.invokestatic 261, 3) := by decide +kernel
theorem dL_does_439 : decode cL_does 439 = .ok (.ireturn, 1) := by decide +kernel
theorem dL_does_440 : decode cL_does 440 = .ok (.aload_n 3, 1) := by decide +kernel
theorem dL_does_441 : decode cL_does 441 = .ok (.iload 4, 2) := by decide +kernel
theorem dL_does_443 : decode cL_does 443 = .ok (.invokestatic 263, 3) := by decide +kernel
theorem dL_does_446 : decode cL_does 446 = .ok (.ireturn, 1) := by decide +kernel
theorem dL_does_447 : decode cL_does 447 = .ok (.aload_n 3, 1) := by decide +kernel
theorem dL_does_448 : decode cL_does 448 = .ok (.new 265, 3) := by decide +kernel
theorem dL_does_451 : decode cL_does 451 = .ok (.dup, 1) := by decide +kernel
theorem dL_does_452 : decode cL_does 452 = .ok (.invokespecial 267, 3) := by decide +kernel
theorem dL_does_455 : decode cL_does 455 = .ok (.ldc_w 268, 3) := by decide +kernel
theorem dL_does_458 : decode cL_does 458 = .ok (.invokevirtual 270, 3) := by decide +kernel
theorem dL_does_461 : decode cL_does 461 = .ok (.iload 6, 2) := by decide +kernel
theorem dL_does_463 : decode cL_does 463 = .ok (.bipush 60, 2) := by decide +kernel
theorem dL_does_465 : decode cL_does 465 = .ok (.irem, 1) := by decide +kernel
theorem dL_does_466 : decode cL_does 466 = .ok (.invokevirtual 274, 3) := by decide +kernel
theorem dL_does_469 : decode cL_does 469 = .ok (.iload 5, 2) := by decide +kernel
theorem dL_does_471 : decode cL_does 471 = .ok (.iconst 4, 1) := by decide +kernel
theorem dL_does_472 : decode cL_does 472 = .ok (.irem, 1) := by decide +kernel
theorem dL_does_473 : decode cL_does 473 = .ok (.ifCond .ne 27, 3) := by decide +kernel
theorem dL_does_476 : decode cL_does 476 = .ok (.new 265, 3) := by decide +kernel
theorem dL_does_479 : decode cL_does 479 = .ok (.dup, 1) := by decide +kernel
theorem dL_does_480 : decode cL_does 480 = .ok (.invokespecial 267, 3) := by decide +kernel
theorem dL_does_483 : decode cL_does 483 = .ok (.ldc_w 277, 3) := by decide +kernel
theorem dL_does_486 : decode cL_does 486 = .ok (.invokevirtual 270, 3) := by decide +kernel
theorem dL_does_489 : decode cL_does 489 = .ok (.iload 4, 2) := by decide +kernel
theorem dL_does_491 : decode cL_does 491 = .ok (.invokevirtual 274, 3) := by decide +kernel
theorem dL_does_494 : decode cL_does 494 = .ok (.invokevirtual 279, 3) := by decide +kernel
theorem dL_does_497 : decode cL_does 497 = .ok (.goto 65, 3) := by decide +kernel
theorem dL_does_500 : decode cL_does 500 = .ok (.iload 5, 2) := by decide +kernel
theorem dL_does_502 : decode cL_does 502 = .ok (.iconst 4, 1) := by decide +kernel
theorem dL_does_503 : decode cL_does 503 = .ok (.irem, 1) := by decide +kernel
theorem dL_does_504 : decode cL_does 504 = .ok (.iconst 1, 1) := by decide +kernel
theorem dL_does_505 : decode cL_does 505 = .ok (.if_icmp .ne 9, 3) := by decide +kernel
theorem dL_does_508 : decode cL_does 508 = .ok (.ldc_w 283, 3) := by decide +kernel
theorem dL_does_511 : decode cL_does 511 = .ok (.goto 51, 3) := by decide +kernel
theorem dL_does_514 : decode cL_does 514 = .ok (.iload 5, 2) := by decide +kernel
theorem dL_does_516 : decode cL_does 516 = .ok (.iconst 4, 1) := by decide +kernel
theorem dL_does_517 : decode cL_does 517 = .ok (.irem, 1) := by decide +kernel
theorem dL_does_518 : decode cL_does 518 = .ok (.iconst 2, 1) := by decide +kernel
theorem dL_does_519 : decode cL_does 519 = .ok (.if_icmp .ne 40, 3) := by decide +kernel
theorem dL_does_522 : decode cL_does 522 = .ok (.new 265, 3) := by decide +kernel
theorem dL_does_525 : decode cL_does 525 = .ok (.dup, 1) := by decide +kernel
theorem dL_does_526 : decode cL_does 526 = .ok (.invokespecial 267, 3) := by decide +kernel
theorem dL_does_529 : decode cL_does 529 = .ok (.ldc_w 285, 3) := by decide +kernel
theorem dL_does_532 : decode cL_does 532 = .ok (.invokevirtual 270, 3) := by decide +kernel
theorem dL_does_535 : decode cL_does 535 = .ok (.iload 8, 2) := by decide +kernel
theorem dL_does_537 : decode cL_does 537 = .ok (.invokevirtual 274, 3) := by decide +kernel
theorem dL_does_540 : decode cL_does 540 = .ok (.ldc_w 287, 3) := by decide +kernel
theorem dL_does_543 : decode cL_does 543 = .ok (.invokevirtual 270, 3) := by decide +kernel
theorem dL_does_546 : decode cL_does 546 = .ok (.iload 5, 2) := by decide +kernel
theorem dL_does_548 : decode cL_does 548 = .ok (.iconst 5, 1) := by decide +kernel
theorem dL_does_549 : decode cL_does 549 = .ok (.irem, 1) := by decide +kernel
theorem dL_does_550 : decode cL_does 550 = .ok (.invokevirtual 274, 3) := by decide +kernel
theorem dL_does_553 : decode cL_does 553 = .ok (.invokevirtual 279, 3) := by decide +kernel
theorem dL_does_556 : decode cL_does 556 = .ok (.goto 6, 3) := by decide +kernel
theorem dL_does_559 : decode cL_does 559 = .ok (.ldc_w 289, 3) := by decide +kernel
theorem dL_does_562 : decode cL_does 562 = .ok (.invokevirtual 270, 3) := by decide +kernel
theorem dL_does_565 : decode cL_does 565 = .ok (.invokevirtual 279, 3) := by decide +kernel
theorem dL_does_568 : decode cL_does 568 = .ok (.invokestatic 291, 3) := by decide +kernel
theorem dL_does_571 : decode cL_does 571 = .ok (.ireturn, 1) := by decide +kernel
