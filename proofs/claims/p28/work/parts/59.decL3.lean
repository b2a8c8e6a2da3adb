theorem dL_tells_267 : decode cL_tells 267 = .ok (.if_icmp .le 8, 3) := by decide +kernel
theorem dL_tells_270 : decode cL_tells 270 = .ok (.iload 10, 2) := by decide +kernel
theorem dL_tells_272 : decode cL_tells 272 = .ok (.goto 5, 3) := by decide +kernel
theorem dL_tells_275 : decode cL_tells 275 = .ok (.iload 8, 2) := by decide +kernel
theorem dL_tells_277 : decode cL_tells 277 = .ok (.istore 8, 2) := by decide +kernel
theorem dL_tells_279 : decode cL_tells 279 = .ok (.iload 13, 2) := by decide +kernel
theorem dL_tells_281 : decode cL_tells 281 = .ok (.iload 9, 2) := by decide +kernel
theorem dL_tells_283 : decode cL_tells 283 = .ok (.if_icmp .le 8, 3) := by decide +kernel
theorem dL_tells_286 : decode cL_tells 286 = .ok (.iload 13, 2) := by decide +kernel
theorem dL_tells_288 : decode cL_tells 288 = .ok (.goto 5, 3) := by decide +kernel
theorem dL_tells_291 : decode cL_tells 291 = .ok (.iload 9, 2) := by decide +kernel
theorem dL_tells_293 : decode cL_tells 293 = .ok (.istore 9, 2) := by decide +kernel
theorem dL_tells_295 : decode cL_tells 295 = .ok (.aload 7, 2) := by decide +kernel
theorem dL_tells_297 : decode cL_tells 297 = .ok (.bipush 8, 2) := by decide +kernel
theorem dL_tells_299 : decode cL_tells 299 = .ok (.dup2, 1) := by decide +kernel
theorem dL_tells_300 : decode cL_tells 300 = .ok (.iaload, 1) := by decide +kernel
theorem dL_tells_301 : decode cL_tells 301 = .ok (.aload 5, 2) := by decide +kernel
theorem dL_tells_303 : decode cL_tells 303 = .ok (.bipush 6, 2) := by decide +kernel
theorem dL_tells_305 : decode cL_tells 305 = .ok (.iload 10, 2) := by decide +kernel
theorem dL_tells_307 : decode cL_tells 307 = .ok (.iadd, 1) := by decide +kernel
theorem dL_tells_308 : decode cL_tells 308 = .ok (.iaload, 1) := by decide +kernel
theorem dL_tells_309 : decode cL_tells 309 = .ok (.iload 10, 2) := by decide +kernel
theorem dL_tells_311 : decode cL_tells 311 = .ok (.ishl, 1) := by decide +kernel
theorem dL_tells_312 : decode cL_tells 312 = .ok (.ior, 1) := by decide +kernel
theorem dL_tells_313 : decode cL_tells 313 = .ok (.iastore, 1) := by decide +kernel
theorem dL_tells_314 : decode cL_tells 314 = .ok (.iinc 10 1, 3) := by decide +kernel
theorem dL_tells_317 : decode cL_tells 317 = .ok (.goto (-301), 3) := by decide +kernel
theorem dL_tells_320 : decode cL_tells 320 = .ok (.iconst 0, 1) := by decide +kernel
theorem dL_tells_321 : decode cL_tells 321 = .ok (.istore 10, 2) := by decide +kernel
theorem dL_tells_323 : decode cL_tells 323 = .ok (.iload 10, 2) := by decide +kernel
theorem dL_tells_325 : decode cL_tells 325 = .ok (.aload 6, 2) := by decide +kernel
theorem dL_tells_327 : decode cL_tells 327 = .ok (.bipush 6, 2) := by decide +kernel
theorem dL_tells_329 : decode cL_tells 329 = .ok (.iaload, 1) := by decide +kernel
theorem dL_tells_330 : decode cL_tells 330 = .ok (.if_icmp .ge 128, 3) := by decide +kernel
theorem dL_tells_333 : decode cL_tells 333 = .ok (.aload 7, 2) := by decide +kernel
theorem dL_tells_335 : decode cL_tells 335 = .ok (.iconst 2, 1) := by decide +kernel
theorem dL_tells_336 : decode cL_tells 336 = .ok (.dup2, 1) := by decide +kernel
theorem dL_tells_337 : decode cL_tells 337 = .ok (.iaload, 1) := by decide +kernel
theorem dL_tells_338 : decode cL_tells 338 = .ok (.aload_n 1, 1) := by decide +kernel
theorem dL_tells_339 : decode cL_tells 339 = .ok (.bipush 40, 2) := by decide +kernel
theorem dL_tells_341 : decode cL_tells 341 = .ok (.iload 10, 2) := by decide +kernel
theorem dL_tells_343 : decode cL_tells 343 = .ok (.iadd, 1) := by decide +kernel
theorem dL_tells_344 : decode cL_tells 344 = .ok (.iaload, 1) := by decide +kernel
theorem dL_tells_345 : decode cL_tells 345 = .ok (.ifCond .lt 10, 3) := by decide +kernel
theorem dL_tells_348 : decode cL_tells 348 = .ok (.iconst 1, 1) := by decide +kernel
theorem dL_tells_349 : decode cL_tells 349 = .ok (.iload 10, 2) := by decide +kernel
theorem dL_tells_351 : decode cL_tells 351 = .ok (.ishl, 1) := by decide +kernel
theorem dL_tells_352 : decode cL_tells 352 = .ok (.goto 4, 3) := by decide +kernel
theorem dL_tells_355 : decode cL_tells 355 = .ok (.iconst 0, 1) := by decide +kernel
theorem dL_tells_356 : decode cL_tells 356 = .ok (.ior, 1) := by decide +kernel
theorem dL_tells_357 : decode cL_tells 357 = .ok (.iastore, 1) := by decide +kernel
theorem dL_tells_358 : decode cL_tells 358 = .ok (.aload 7, 2) := by decide +kernel
theorem dL_tells_360 : decode cL_tells 360 = .ok (.iconst 3, 1) := by decide +kernel
theorem dL_tells_361 : decode cL_tells 361 = .ok (.dup2, 1) := by decide +kernel
theorem dL_tells_362 : decode cL_tells 362 = .ok (.iaload, 1) := by decide +kernel
theorem dL_tells_363 : decode cL_tells 363 = .ok (.aload_n 1, 1) := by decide +kernel
theorem dL_tells_364 : decode cL_tells 364 = .ok (.iload 10, 2) := by decide +kernel
theorem dL_tells_366 : decode cL_tells 366 = .ok (.invokestatic 20, 3) := by decide +kernel
theorem dL_tells_369 : decode cL_tells 369 = .ok (.ifCond .eq 10, 3) := by decide +kernel
theorem dL_tells_372 : decode cL_tells 372 = .ok (.iconst 1, 1) := by decide +kernel
theorem dL_tells_373 : decode cL_tells 373 = .ok (.iload 10, 2) := by decide +kernel
theorem dL_tells_375 : decode cL_tells 375 = .ok (.ishl, 1) := by decide +kernel
theorem dL_tells_376 : decode cL_tells 376 = .ok (.goto 4, 3) := by decide +kernel
theorem dL_tells_379 : decode cL_tells 379 = .ok (.iconst 0, 1) := by decide +kernel
theorem dL_tells_380 : decode cL_tells 380 = .ok (.ior, 1) := by decide +kernel
theorem dL_tells_381 : decode cL_tells 381 = .ok (.iastore, 1) := by decide +kernel
theorem dL_tells_382 : decode cL_tells 382 = .ok (.aload 7, 2) := by decide +kernel
theorem dL_tells_384 : decode cL_tells 384 = .ok (.iconst 4, 1) := by decide +kernel
theorem dL_tells_385 : decode cL_tells 385 = .ok (.dup2, 1) := by decide +kernel
theorem dL_tells_386 : decode cL_tells 386 = .ok (.iaload, 1) := by decide +kernel
theorem dL_tells_387 : decode cL_tells 387 = .ok (.aload_n 1, 1) := by decide +kernel
theorem dL_tells_388 : decode cL_tells 388 = .ok (.bipush 32, 2) := by decide +kernel
theorem dL_tells_390 : decode cL_tells 390 = .ok (.iload 10, 2) := by decide +kernel
theorem dL_tells_392 : decode cL_tells 392 = .ok (.iadd, 1) := by decide +kernel
theorem dL_tells_393 : decode cL_tells 393 = .ok (.iaload, 1) := by decide +kernel
theorem dL_tells_394 : decode cL_tells 394 = .ok (.iadd, 1) := by decide +kernel
theorem dL_tells_395 : decode cL_tells 395 = .ok (.iastore, 1) := by decide +kernel
theorem dL_tells_396 : decode cL_tells 396 = .ok (.aload 7, 2) := by decide +kernel
theorem dL_tells_398 : decode cL_tells 398 = .ok (.iconst 5, 1) := by decide +kernel
theorem dL_tells_399 : decode cL_tells 399 = .ok (.dup2, 1) := by decide +kernel
theorem dL_tells_400 : decode cL_tells 400 = .ok (.iaload, 1) := by decide +kernel
theorem dL_tells_401 : decode cL_tells 401 = .ok (.aload_n 1, 1) := by decide +kernel
theorem dL_tells_402 : decode cL_tells 402 = .ok (.bipush 56, 2) := by decide +kernel
theorem dL_tells_404 : decode cL_tells 404 = .ok (.iload 10, 2) := by decide +kernel
theorem dL_tells_406 : decode cL_tells 406 = .ok (.iadd, 1) := by decide +kernel
theorem dL_tells_407 : decode cL_tells 407 = .ok (.iaload, 1) := by decide +kernel
theorem dL_tells_408 : decode cL_tells 408 = .ok (.iadd, 1) := by decide +kernel
theorem dL_tells_409 : decode cL_tells 409 = .ok (.iastore, 1) := by decide +kernel
theorem dL_tells_410 : decode cL_tells 410 = .ok (.aload 7, 2) := by decide +kernel
theorem dL_tells_412 : decode cL_tells 412 = .ok (.bipush 6, 2) := by decide +kernel
theorem dL_tells_414 : decode cL_tells 414 = .ok (.dup2, 1) := by decide +kernel
theorem dL_tells_415 : decode cL_tells 415 = .ok (.iaload, 1) := by decide +kernel
theorem dL_tells_416 : decode cL_tells 416 = .ok (.aload_n 2, 1) := by decide +kernel
theorem dL_tells_417 : decode cL_tells 417 = .ok (.iload 10, 2) := by decide +kernel
theorem dL_tells_419 : decode cL_tells 419 = .ok (.iaload, 1) := by decide +kernel
theorem dL_tells_420 : decode cL_tells 420 = .ok (.iadd, 1) := by decide +kernel
theorem dL_tells_421 : decode cL_tells 421 = .ok (.iastore, 1) := by decide +kernel
theorem dL_tells_422 : decode cL_tells 422 = .ok (.aload 7, 2) := by decide +kernel
theorem dL_tells_424 : decode cL_tells 424 = .ok (.bipush 7, 2) := by decide +kernel
theorem dL_tells_426 : decode cL_tells 426 = .ok (.dup2, 1) := by decide +kernel
theorem dL_tells_427 : decode cL_tells 427 = .ok (.iaload, 1) := by decide +kernel
theorem dL_tells_428 : decode cL_tells 428 = .ok (.aload_n 2, 1) := by decide +kernel
theorem dL_tells_429 : decode cL_tells 429 = .ok (.bipush 16, 2) := by decide +kernel
theorem dL_tells_431 : decode cL_tells 431 = .ok (.iload 10, 2) := by decide +kernel
theorem dL_tells_433 : decode cL_tells 433 = .ok (.iadd, 1) := by decide +kernel
theorem dL_tells_434 : decode cL_tells 434 = .ok (.iaload, 1) := by decide +kernel
theorem dL_tells_435 : decode cL_tells 435 = .ok (.iadd, 1) := by decide +kernel
theorem dL_tells_436 : decode cL_tells 436 = .ok (.iastore, 1) := by decide +kernel
theorem dL_tells_437 : decode cL_tells 437 = .ok (.aload 7, 2) := by decide +kernel
theorem dL_tells_439 : decode cL_tells 439 = .ok (.bipush 9, 2) := by decide +kernel
theorem dL_tells_441 : decode cL_tells 441 = .ok (.dup2, 1) := by decide +kernel
theorem dL_tells_442 : decode cL_tells 442 = .ok (.iaload, 1) := by decide +kernel
theorem dL_tells_443 : decode cL_tells 443 = .ok (.aload_n 1, 1) := by decide +kernel
theorem dL_tells_444 : decode cL_tells 444 = .ok (.bipush 8, 2) := by decide +kernel
theorem dL_tells_446 : decode cL_tells 446 = .ok (.iload 10, 2) := by decide +kernel
theorem dL_tells_448 : decode cL_tells 448 = .ok (.iadd, 1) := by decide +kernel
theorem dL_tells_449 : decode cL_tells 449 = .ok (.iaload, 1) := by decide +kernel
theorem dL_tells_450 : decode cL_tells 450 = .ok (.iadd, 1) := by decide +kernel
theorem dL_tells_451 : decode cL_tells 451 = .ok (.iastore, 1) := by decide +kernel
theorem dL_tells_452 : decode cL_tells 452 = .ok (.iinc 10 1, 3) := by decide +kernel
theorem dL_tells_455 : decode cL_tells 455 = .ok (.goto (-132), 3) := by decide +kernel
theorem dL_tells_458 : decode cL_tells 458 = .ok (.aload_n 0, 1) := by decide +kernel
theorem dL_tells_459 : decode cL_tells 459 = .ok (.invokevirtual 48, 3) := by decide +kernel
theorem dL_tells_462 : decode cL_tells 462 = .ok (.iload 8, 2) := by decide +kernel
theorem dL_tells_464 : decode cL_tells 464 = .ok (.if_icmp .ne 32, 3) := by decide +kernel
theorem dL_tells_467 : decode cL_tells 467 = .ok (.aload_n 0, 1) := by decide +kernel
theorem dL_tells_468 : decode cL_tells 468 = .ok (.iconst 0, 1) := by decide +kernel
theorem dL_tells_469 : decode cL_tells 469 = .ok (.invokevirtual 52, 3) := by decide +kernel
theorem dL_tells_472 : decode cL_tells 472 = .ok (.aload 6, 2) := by decide +kernel
theorem dL_tells_474 : decode cL_tells 474 = .ok (.iconst 5, 1) := by decide +kernel
theorem dL_tells_475 : decode cL_tells 475 = .ok (.iaload, 1) := by decide +kernel
theorem dL_tells_476 : decode cL_tells 476 = .ok (.if_icmp .ne 20, 3) := by decide +kernel
theorem dL_tells_479 : decode cL_tells 479 = .ok (.aload_n 0, 1) := by decide +kernel
theorem dL_tells_480 : decode cL_tells 480 = .ok (.iconst 1, 1) := by decide +kernel
theorem dL_tells_481 : decode cL_tells 481 = .ok (.invokevirtual 52, 3) := by decide +kernel
theorem dL_tells_484 : decode cL_tells 484 = .ok (.aload 6, 2) := by decide +kernel
theorem dL_tells_486 : decode cL_tells 486 = .ok (.bipush 6, 2) := by decide +kernel
theorem dL_tells_488 : decode cL_tells 488 = .ok (.iaload, 1) := by decide +kernel
theorem dL_tells_489 : decode cL_tells 489 = .ok (.if_icmp .ne 7, 3) := by decide +kernel
theorem dL_tells_492 : decode cL_tells 492 = .ok (.iconst 1, 1) := by decide +kernel
theorem dL_tells_493 : decode cL_tells 493 = .ok (.goto 4, 3) := by decide +kernel
theorem dL_tells_496 : decode cL_tells 496 = .ok (.iconst 0, 1) := by decide +kernel
theorem dL_tells_497 : decode cL_tells 497 = .ok (.istore 10, 2) := by decide +kernel
theorem dL_tells_499 : decode cL_tells 499 = .ok (.iconst 2, 1) := by decide +kernel
theorem dL_tells_500 : decode cL_tells 500 = .ok (.istore 11, 2) := by decide +kernel
theorem dL_tells_502 : decode cL_tells 502 = .ok (.iload 11, 2) := by decide +kernel
theorem dL_tells_504 : decode cL_tells 504 = .ok (.bipush 10, 2) := by decide +kernel
theorem dL_tells_506 : decode cL_tells 506 = .ok (.if_icmp .ge 61, 3) := by decide +kernel
theorem dL_tells_509 : decode cL_tells 509 = .ok (.iload 10, 2) := by decide +kernel
theorem dL_tells_511 : decode cL_tells 511 = .ok (.ifCond .eq 47, 3) := by decide +kernel
theorem dL_tells_514 : decode cL_tells 514 = .ok (.aload_n 0, 1) := by decide +kernel
theorem dL_tells_515 : decode cL_tells 515 = .ok (.iload 11, 2) := by decide +kernel
theorem dL_tells_517 : decode cL_tells 517 = .ok (.invokevirtual 52, 3) := by decide +kernel
theorem dL_tells_520 : decode cL_tells 520 = .ok (.aload 7, 2) := by decide +kernel
theorem dL_tells_522 : decode cL_tells 522 = .ok (.iload 11, 2) := by decide +kernel
theorem dL_tells_524 : decode cL_tells 524 = .ok (.iaload, 1) := by decide +kernel
theorem dL_tells_525 : decode cL_tells 525 = .ok (.if_icmp .ne 33, 3) := by decide +kernel
theorem dL_tells_528 : decode cL_tells 528 = .ok (.iload 11, 2) := by decide +kernel
theorem dL_tells_530 : decode cL_tells 530 = .ok (.bipush 6, 2) := by decide +kernel
theorem dL_tells_532 : decode cL_tells 532 = .ok (.if_icmp .gt 22, 3) := by decide +kernel
theorem dL_tells_535 : decode cL_tells 535 = .ok (.aload_n 0, 1) := by decide +kernel
theorem dL_tells_536 : decode cL_tells 536 = .ok (.bipush 8, 2) := by decide +kernel
theorem dL_tells_538 : decode cL_tells 538 = .ok (.iload 11, 2) := by decide +kernel
theorem dL_tells_540 : decode cL_tells 540 = .ok (.iadd, 1) := by decide +kernel
theorem dL_tells_541 : decode cL_tells 541 = .ok (.invokevirtual 52, 3) := by decide +kernel
theorem dL_tells_544 : decode cL_tells 544 = .ok (.aload 6, 2) := by decide +kernel
theorem dL_tells_546 : decode cL_tells 546 = .ok (.iload 11, 2) := by decide +kernel
theorem dL_tells_548 : decode cL_tells 548 = .ok (.iconst 2, 1) := by decide +kernel
theorem dL_tells_549 : decode cL_tells 549 = .ok (.isub, 1) := by decide +kernel
theorem dL_tells_550 : decode cL_tells 550 = .ok (.iaload, 1) := by decide +kernel
theorem dL_tells_551 : decode cL_tells 551 = .ok (.if_icmp .ne 7, 3) := by decide +kernel
theorem dL_tells_554 : decode cL_tells 554 = .ok (.iconst 1, 1) := by decide +kernel
theorem dL_tells_555 : decode cL_tells 555 = .ok (.goto 4, 3) := by decide +kernel
theorem dL_tells_558 : decode cL_tells 558 = .ok (.iconst 0, 1) := by decide +kernel
theorem dL_tells_559 : decode cL_tells 559 = .ok (.istore 10, 2) := by decide +kernel
theorem dL_tells_561 : decode cL_tells 561 = .ok (.iinc 11 1, 3) := by decide +kernel
theorem dL_tells_564 : decode cL_tells 564 = .ok (.goto (-62), 3) := by decide +kernel
theorem dL_tells_567 : decode cL_tells 567 = .ok (.iload 10, 2) := by decide +kernel
theorem dL_tells_569 : decode cL_tells 569 = .ok (.ifCond .eq 23, 3) := by decide +kernel
theorem dL_tells_572 : decode cL_tells 572 = .ok (.aload_n 0, 1) := by decide +kernel
theorem dL_tells_573 : decode cL_tells 573 = .ok (.aload_n 1, 1) := by decide +kernel
theorem dL_tells_574 : decode cL_tells 574 = .ok (.aload_n 2, 1) := by decide +kernel
theorem dL_tells_575 : decode cL_tells 575 = .ok (.aload_n 3, 1) := by decide +kernel
theorem dL_tells_576 : decode cL_tells 576 = .ok (.aload 4, 2) := by decide +kernel
theorem dL_tells_578 : decode cL_tells 578 = .ok (.aload 5, 2) := by decide +kernel
theorem dL_tells_580 : decode cL_tells 580 = .ok (.aload 6, 2) := by decide +kernel
theorem dL_tells_582 : decode cL_tells 582 = .ok (.invokestatic 55, 3) := by decide +kernel
theorem dL_tells_585 : decode cL_tells 585 = .ok (.ifCond .eq 7, 3) := by decide +kernel
theorem dL_tells_588 : decode cL_tells 588 = .ok (.iconst 1, 1) := by decide +kernel
theorem dL_tells_589 : decode cL_tells 589 = .ok (.goto 4, 3) := by decide +kernel
theorem dL_tells_592 : decode cL_tells 592 = .ok (.iconst 0, 1) := by decide +kernel
theorem dL_tells_593 : decode cL_tells 593 = .ok (.ireturn, 1) := by decide +kernel
theorem dL_copy_0 : decode cL_copy 0 = .ok (.iconst 0, 1) := by decide +kernel
theorem dL_copy_1 : decode cL_copy 1 = .ok (.istore_n 2, 1) := by decide +kernel
theorem dL_copy_2 : decode cL_copy 2 = .ok (.iload_n 2, 1) := by decide +kernel
theorem dL_copy_3 : decode cL_copy 3 = .ok (.aload_n 0, 1) := by decide +kernel
theorem dL_copy_4 : decode cL_copy 4 = .ok (.arraylength, 1) := by decide +kernel
theorem dL_copy_5 : decode cL_copy 5 = .ok (.if_icmp .ge 15, 3) := by decide +kernel
theorem dL_copy_8 : decode cL_copy 8 = .ok (.aload_n 1, 1) := by decide +kernel
theorem dL_copy_9 : decode cL_copy 9 = .ok (.iload_n 2, 1) := by decide +kernel
theorem dL_copy_10 : decode cL_copy 10 = .ok (.aload_n 0, 1) := by decide +kernel
theorem dL_copy_11 : decode cL_copy 11 = .ok (.iload_n 2, 1) := by decide +kernel
theorem dL_copy_12 : decode cL_copy 12 = .ok (.iaload, 1) := by decide +kernel
theorem dL_copy_13 : decode cL_copy 13 = .ok (.iastore, 1) := by decide +kernel
theorem dL_copy_14 : decode cL_copy 14 = .ok (.iinc 2 1, 3) := by decide +kernel
theorem dL_copy_17 : decode cL_copy 17 = .ok (.goto (-15), 3) := by decide +kernel
theorem dL_copy_20 : decode cL_copy 20 = .ok (.return_, 1) := by decide +kernel
theorem dL_ahead_0 : decode cL_ahead 0 = .ok (.bipush 64, 2) := by decide +kernel
theorem dL_ahead_2 : decode cL_ahead 2 = .ok (.newarray .int, 2) := by decide +kernel
theorem dL_ahead_4 : decode cL_ahead 4 = .ok (.astore 8, 2) := by decide +kernel
theorem dL_ahead_6 : decode cL_ahead 6 = .ok (.bipush 32, 2) := by decide +kernel
theorem dL_ahead_8 : decode cL_ahead 8 = .ok (.newarray .int, 2) := by decide +kernel
theorem dL_ahead_10 : decode cL_ahead 10 = .ok (.astore 9, 2) := by decide +kernel
theorem dL_ahead_12 : decode cL_ahead 12 = .ok (.bipush 32, 2) := by decide +kernel
theorem dL_ahead_14 : decode cL_ahead 14 = .ok (.newarray .int, 2) := by decide +kernel
theorem dL_ahead_16 : decode cL_ahead 16 = .ok (.astore 10, 2) := by decide +kernel
theorem dL_ahead_18 : decode cL_ahead 18 = .ok (.bipush 32, 2) := by decide +kernel
theorem dL_ahead_20 : decode cL_ahead 20 = .ok (.newarray .int, 2) := by decide +kernel
theorem dL_ahead_22 : decode cL_ahead 22 = .ok (.astore 11, 2) := by decide +kernel
theorem dL_ahead_24 : decode cL_ahead 24 = .ok (.bipush 24, 2) := by decide +kernel
theorem dL_ahead_26 : decode cL_ahead 26 = .ok (.newarray .int, 2) := by decide +kernel
theorem dL_ahead_28 : decode cL_ahead 28 = .ok (.astore 12, 2) := by decide +kernel
theorem dL_ahead_30 : decode cL_ahead 30 = .ok (.bipush 7, 2) := by decide +kernel
theorem dL_ahead_32 : decode cL_ahead 32 = .ok (.newarray .int, 2) := by decide +kernel
theorem dL_ahead_34 : decode cL_ahead 34 = .ok (.astore 13, 2) := by decide +kernel
theorem dL_ahead_36 : decode cL_ahead 36 = .ok (.iload 7, 2) := by decide +kernel
theorem dL_ahead_38 : decode cL_ahead 38 = .ok (.aload 6, 2) := by decide +kernel
theorem dL_ahead_40 : decode cL_ahead 40 = .ok (.bipush 6, 2) := by decide +kernel
theorem dL_ahead_42 : decode cL_ahead 42 = .ok (.iaload, 1) := by decide +kernel
theorem dL_ahead_43 : decode cL_ahead 43 = .ok (.invokestatic 59, 3) := by decide +kernel
theorem dL_ahead_46 : decode cL_ahead 46 = .ok (.istore 14, 2) := by decide +kernel
theorem dL_ahead_48 : decode cL_ahead 48 = .ok (.aload_n 1, 1) := by decide +kernel
theorem dL_ahead_49 : decode cL_ahead 49 = .ok (.aload 8, 2) := by decide +kernel
theorem dL_ahead_51 : decode cL_ahead 51 = .ok (.invokestatic 62, 3) := by decide +kernel
theorem dL_ahead_54 : decode cL_ahead 54 = .ok (.aload_n 2, 1) := by decide +kernel
theorem dL_ahead_55 : decode cL_ahead 55 = .ok (.aload 9, 2) := by decide +kernel
theorem dL_ahead_57 : decode cL_ahead 57 = .ok (.invokestatic 62, 3) := by decide +kernel
theorem dL_ahead_60 : decode cL_ahead 60 = .ok (.aload_n 3, 1) := by decide +kernel
theorem dL_ahead_61 : decode cL_ahead 61 = .ok (.aload 10, 2) := by decide +kernel
theorem dL_ahead_63 : decode cL_ahead 63 = .ok (.invokestatic 62, 3) := by decide +kernel
theorem dL_ahead_66 : decode cL_ahead 66 = .ok (.aload 4, 2) := by decide +kernel
theorem dL_ahead_68 : decode cL_ahead 68 = .ok (.aload 11, 2) := by decide +kernel
theorem dL_ahead_70 : decode cL_ahead 70 = .ok (.invokestatic 62, 3) := by decide +kernel
theorem dL_ahead_73 : decode cL_ahead 73 = .ok (.aload 5, 2) := by decide +kernel
theorem dL_ahead_75 : decode cL_ahead 75 = .ok (.aload 12, 2) := by decide +kernel
theorem dL_ahead_77 : decode cL_ahead 77 = .ok (.invokestatic 62, 3) := by decide +kernel
theorem dL_ahead_80 : decode cL_ahead 80 = .ok (.aload 6, 2) := by decide +kernel
theorem dL_ahead_82 : decode cL_ahead 82 = .ok (.aload 13, 2) := by decide +kernel
theorem dL_ahead_84 : decode cL_ahead 84 = .ok (.invokestatic 62, 3) := by decide +kernel
theorem dL_ahead_87 : decode cL_ahead 87 = .ok (.bipush (-6), 2) := by decide +kernel
theorem dL_ahead_89 : decode cL_ahead 89 = .ok (.istore 15, 2) := by decide +kernel
theorem dL_ahead_91 : decode cL_ahead 91 = .ok (.bipush (-6), 2) := by decide +kernel
theorem dL_ahead_93 : decode cL_ahead 93 = .ok (.istore 16, 2) := by decide +kernel
theorem dL_ahead_95 : decode cL_ahead 95 = .ok (.bipush (-6), 2) := by decide +kernel
theorem dL_ahead_97 : decode cL_ahead 97 = .ok (.istore 17, 2) := by decide +kernel
theorem dL_ahead_99 : decode cL_ahead 99 = .ok (.bipush (-6), 2) := by decide +kernel
theorem dL_ahead_101 : decode cL_ahead 101 = .ok (.istore 18, 2) := by decide +kernel
theorem dL_ahead_103 : decode cL_ahead 103 = .ok (.iconst 0, 1) := by decide +kernel
theorem dL_ahead_104 : decode cL_ahead 104 = .ok (.istore 19, 2) := by decide +kernel
theorem dL_ahead_106 : decode cL_ahead 106 = .ok (.iload 19, 2) := by decide +kernel
theorem dL_ahead_108 : decode cL_ahead 108 = .ok (.sipush 900, 3) := by decide +kernel
theorem dL_ahead_111 : decode cL_ahead 111 = .ok (.if_icmp .gt 173, 3) := by decide +kernel
theorem dL_ahead_114 : decode cL_ahead 114 = .ok (.iconst 0, 1) := by decide +kernel
theorem dL_ahead_115 : decode cL_ahead 115 = .ok (.istore 20, 2) := by decide +kernel
theorem dL_ahead_117 : decode cL_ahead 117 = .ok (.iconst 0, 1) := by decide +kernel
theorem dL_ahead_118 : decode cL_ahead 118 = .ok (.istore 21, 2) := by decide +kernel
theorem dL_ahead_120 : decode cL_ahead 120 = .ok (.iload 21, 2) := by decide +kernel
theorem dL_ahead_122 : decode cL_ahead 122 = .ok (.aload 6, 2) := by decide +kernel
theorem dL_ahead_124 : decode cL_ahead 124 = .ok (.bipush 6, 2) := by decide +kernel
theorem dL_ahead_126 : decode cL_ahead 126 = .ok (.iaload, 1) := by decide +kernel
theorem dL_ahead_127 : decode cL_ahead 127 = .ok (.if_icmp .ge 22, 3) := by decide +kernel
theorem dL_ahead_130 : decode cL_ahead 130 = .ok (.iload 20, 2) := by decide +kernel
theorem dL_ahead_132 : decode cL_ahead 132 = .ok (.aload 8, 2) := by decide +kernel
theorem dL_ahead_134 : decode cL_ahead 134 = .ok (.bipush 32, 2) := by decide +kernel
theorem dL_ahead_136 : decode cL_ahead 136 = .ok (.iload 21, 2) := by decide +kernel
theorem dL_ahead_138 : decode cL_ahead 138 = .ok (.iadd, 1) := by decide +kernel
theorem dL_ahead_139 : decode cL_ahead 139 = .ok (.iaload, 1) := by decide +kernel
theorem dL_ahead_140 : decode cL_ahead 140 = .ok (.iadd, 1) := by decide +kernel
theorem dL_ahead_141 : decode cL_ahead 141 = .ok (.istore 20, 2) := by decide +kernel
theorem dL_ahead_143 : decode cL_ahead 143 = .ok (.iinc 21 1, 3) := by decide +kernel
theorem dL_ahead_146 : decode cL_ahead 146 = .ok (.goto (-26), 3) := by decide +kernel
theorem dL_ahead_149 : decode cL_ahead 149 = .ok (.iload 17, 2) := by decide +kernel
theorem dL_ahead_151 : decode cL_ahead 151 = .ok (.ifCond .ge 13, 3) := by decide +kernel
theorem dL_ahead_154 : decode cL_ahead 154 = .ok (.iload 20, 2) := by decide +kernel
theorem dL_ahead_156 : decode cL_ahead 156 = .ok (.ifCond .ne 8, 3) := by decide +kernel
theorem dL_ahead_159 : decode cL_ahead 159 = .ok (.iload 19, 2) := by decide +kernel
theorem dL_ahead_161 : decode cL_ahead 161 = .ok (.goto 5, 3) := by decide +kernel
theorem dL_ahead_164 : decode cL_ahead 164 = .ok (.iload 17, 2) := by decide +kernel
theorem dL_ahead_166 : decode cL_ahead 166 = .ok (.istore 17, 2) := by decide +kernel
theorem dL_ahead_168 : decode cL_ahead 168 = .ok (.iload 15, 2) := by decide +kernel
theorem dL_ahead_170 : decode cL_ahead 170 = .ok (.ifCond .ge 58, 3) := by decide +kernel
theorem dL_ahead_173 : decode cL_ahead 173 = .ok (.iload 19, 2) := by decide +kernel
theorem dL_ahead_175 : decode cL_ahead 175 = .ok (.sipush 600, 3) := by decide +kernel
theorem dL_ahead_178 : decode cL_ahead 178 = .ok (.if_icmp .gt 50, 3) := by decide +kernel
theorem dL_ahead_181 : decode cL_ahead 181 = .ok (.aload 8, 2) := by decide +kernel
theorem dL_ahead_183 : decode cL_ahead 183 = .ok (.bipush 32, 2) := by decide +kernel
theorem dL_ahead_185 : decode cL_ahead 185 = .ok (.iload 14, 2) := by decide +kernel
theorem dL_ahead_187 : decode cL_ahead 187 = .ok (.iadd, 1) := by decide +kernel
theorem dL_ahead_188 : decode cL_ahead 188 = .ok (.iaload, 1) := by decide +kernel
theorem dL_ahead_189 : decode cL_ahead 189 = .ok (.aload_n 1, 1) := by decide +kernel
theorem dL_ahead_190 : decode cL_ahead 190 = .ok (.bipush 32, 2) := by decide +kernel
theorem dL_ahead_192 : decode cL_ahead 192 = .ok (.iload 14, 2) := by decide +kernel
theorem dL_ahead_194 : decode cL_ahead 194 = .ok (.iadd, 1) := by decide +kernel
theorem dL_ahead_195 : decode cL_ahead 195 = .ok (.iaload, 1) := by decide +kernel
theorem dL_ahead_196 : decode cL_ahead 196 = .ok (.if_icmp .ge 32, 3) := by decide +kernel
theorem dL_ahead_199 : decode cL_ahead 199 = .ok (.iload 19, 2) := by decide +kernel
theorem dL_ahead_201 : decode cL_ahead 201 = .ok (.istore 15, 2) := by decide +kernel
theorem dL_ahead_203 : decode cL_ahead 203 = .ok (.aload 8, 2) := by decide +kernel
theorem dL_ahead_205 : decode cL_ahead 205 = .ok (.bipush 56, 2) := by decide +kernel
theorem dL_ahead_207 : decode cL_ahead 207 = .ok (.iload 14, 2) := by decide +kernel
theorem dL_ahead_209 : decode cL_ahead 209 = .ok (.iadd, 1) := by decide +kernel
theorem dL_ahead_210 : decode cL_ahead 210 = .ok (.iaload, 1) := by decide +kernel
theorem dL_ahead_211 : decode cL_ahead 211 = .ok (.aload_n 1, 1) := by decide +kernel
theorem dL_ahead_212 : decode cL_ahead 212 = .ok (.bipush 56, 2) := by decide +kernel
theorem dL_ahead_214 : decode cL_ahead 214 = .ok (.iload 14, 2) := by decide +kernel
theorem dL_ahead_216 : decode cL_ahead 216 = .ok (.iadd, 1) := by decide +kernel
theorem dL_ahead_217 : decode cL_ahead 217 = .ok (.iaload, 1) := by decide +kernel
theorem dL_ahead_218 : decode cL_ahead 218 = .ok (.if_icmp .le 7, 3) := by decide +kernel
theorem dL_ahead_221 : decode cL_ahead 221 = .ok (.iconst 1, 1) := by decide +kernel
theorem dL_ahead_222 : decode cL_ahead 222 = .ok (.goto 4, 3) := by decide +kernel
theorem dL_ahead_225 : decode cL_ahead 225 = .ok (.iconst 2, 1) := by decide +kernel
theorem dL_ahead_226 : decode cL_ahead 226 = .ok (.istore 16, 2) := by decide +kernel
theorem dL_ahead_228 : decode cL_ahead 228 = .ok (.iload 18, 2) := by decide +kernel
theorem dL_ahead_230 : decode cL_ahead 230 = .ok (.ifCond .ge 28, 3) := by decide +kernel
theorem dL_ahead_233 : decode cL_ahead 233 = .ok (.iload 19, 2) := by decide +kernel
theorem dL_ahead_235 : decode cL_ahead 235 = .ok (.sipush 600, 3) := by decide +kernel
theorem dL_ahead_238 : decode cL_ahead 238 = .ok (.if_icmp .gt 20, 3) := by decide +kernel
theorem dL_ahead_241 : decode cL_ahead 241 = .ok (.aload 8, 2) := by decide +kernel
theorem dL_ahead_243 : decode cL_ahead 243 = .ok (.bipush 16, 2) := by decide +kernel
theorem dL_ahead_245 : decode cL_ahead 245 = .ok (.iload 14, 2) := by decide +kernel
theorem dL_ahead_247 : decode cL_ahead 247 = .ok (.iadd, 1) := by decide +kernel
theorem dL_ahead_248 : decode cL_ahead 248 = .ok (.iaload, 1) := by decide +kernel
theorem dL_ahead_249 : decode cL_ahead 249 = .ok (.iconst 1, 1) := by decide +kernel
theorem dL_ahead_250 : decode cL_ahead 250 = .ok (.if_icmp .ne 8, 3) := by decide +kernel
theorem dL_ahead_253 : decode cL_ahead 253 = .ok (.iload 19, 2) := by decide +kernel
theorem dL_ahead_255 : decode cL_ahead 255 = .ok (.goto 5, 3) := by decide +kernel
theorem dL_ahead_258 : decode cL_ahead 258 = .ok (.iload 18, 2) := by decide +kernel
theorem dL_ahead_260 : decode cL_ahead 260 = .ok (.istore 18, 2) := by decide +kernel
theorem dL_ahead_262 : decode cL_ahead 262 = .ok (.aload 8, 2) := by decide +kernel
theorem dL_ahead_264 : decode cL_ahead 264 = .ok (.aload 9, 2) := by decide +kernel
theorem dL_ahead_266 : decode cL_ahead 266 = .ok (.aload 10, 2) := by decide +kernel
theorem dL_ahead_268 : decode cL_ahead 268 = .ok (.aload 11, 2) := by decide +kernel
theorem dL_ahead_270 : decode cL_ahead 270 = .ok (.aload 12, 2) := by decide +kernel
theorem dL_ahead_272 : decode cL_ahead 272 = .ok (.aload 13, 2) := by decide +kernel
theorem dL_ahead_274 : decode cL_ahead 274 = .ok (.invokestatic 66, 3) := by decide +kernel
theorem dL_ahead_277 : decode cL_ahead 277 = .ok (.pop, 1) := by decide +kernel
theorem dL_ahead_278 : decode cL_ahead 278 = .ok (.iinc 19 1, 3) := by decide +kernel
theorem dL_ahead_281 : decode cL_ahead 281 = .ok (.goto (-175), 3) := by decide +kernel
theorem dL_ahead_284 : decode cL_ahead 284 = .ok (.aload_n 1, 1) := by decide +kernel
theorem dL_ahead_285 : decode cL_ahead 285 = .ok (.bipush 32, 2) := by decide +kernel
theorem dL_ahead_287 : decode cL_ahead 287 = .ok (.iload 14, 2) := by decide +kernel
theorem dL_ahead_289 : decode cL_ahead 289 = .ok (.iadd, 1) := by decide +kernel
theorem dL_ahead_290 : decode cL_ahead 290 = .ok (.iaload, 1) := by decide +kernel
theorem dL_ahead_291 : decode cL_ahead 291 = .ok (.ifCond .ne 7, 3) := by decide +kernel
theorem dL_ahead_294 : decode cL_ahead 294 = .ok (.iconst 1, 1) := by decide +kernel
theorem dL_ahead_295 : decode cL_ahead 295 = .ok (.goto 4, 3) := by decide +kernel
theorem dL_ahead_298 : decode cL_ahead 298 = .ok (.iconst 0, 1) := by decide +kernel
theorem dL_ahead_299 : decode cL_ahead 299 = .ok (.istore 19, 2) := by decide +kernel
theorem dL_ahead_301 : decode cL_ahead 301 = .ok (.aload_n 0, 1) := by decide +kernel
theorem dL_ahead_302 : decode cL_ahead 302 = .ok (.invokevirtual 70, 3) := by decide +kernel
theorem dL_ahead_305 : decode cL_ahead 305 = .ok (.iload 17, 2) := by decide +kernel
theorem dL_ahead_307 : decode cL_ahead 307 = .ok (.if_icmp .ne 62, 3) := by decide +kernel
theorem dL_ahead_310 : decode cL_ahead 310 = .ok (.aload_n 0, 1) := by decide +kernel
theorem dL_ahead_311 : decode cL_ahead 311 = .ok (.iload 14, 2) := by decide +kernel
theorem dL_ahead_313 : decode cL_ahead 313 = .ok (.invokevirtual 73, 3) := by decide +kernel
theorem dL_ahead_316 : decode cL_ahead 316 = .ok (.iload 18, 2) := by decide +kernel
theorem dL_ahead_318 : decode cL_ahead 318 = .ok (.if_icmp .ne 51, 3) := by decide +kernel
theorem dL_ahead_321 : decode cL_ahead 321 = .ok (.aload_n 0, 1) := by decide +kernel
theorem dL_ahead_322 : decode cL_ahead 322 = .ok (.iload 14, 2) := by decide +kernel
theorem dL_ahead_324 : decode cL_ahead 324 = .ok (.iconst 0, 1) := by decide +kernel
theorem dL_ahead_325 : decode cL_ahead 325 = .ok (.invokevirtual 76, 3) := by decide +kernel
theorem dL_ahead_328 : decode cL_ahead 328 = .ok (.iload 19, 2) := by decide +kernel
theorem dL_ahead_330 : decode cL_ahead 330 = .ok (.ifCond .eq 8, 3) := by decide +kernel
theorem dL_ahead_333 : decode cL_ahead 333 = .ok (.bipush (-5), 2) := by decide +kernel
theorem dL_ahead_335 : decode cL_ahead 335 = .ok (.goto 5, 3) := by decide +kernel
theorem dL_ahead_338 : decode cL_ahead 338 = .ok (.iload 15, 2) := by decide +kernel
theorem dL_ahead_340 : decode cL_ahead 340 = .ok (.if_icmp .ne 29, 3) := by decide +kernel
theorem dL_ahead_343 : decode cL_ahead 343 = .ok (.aload_n 0, 1) := by decide +kernel
theorem dL_ahead_344 : decode cL_ahead 344 = .ok (.iload 14, 2) := by decide +kernel
theorem dL_ahead_346 : decode cL_ahead 346 = .ok (.iconst 1, 1) := by decide +kernel
theorem dL_ahead_347 : decode cL_ahead 347 = .ok (.invokevirtual 76, 3) := by decide +kernel
theorem dL_ahead_350 : decode cL_ahead 350 = .ok (.iload 19, 2) := by decide +kernel
theorem dL_ahead_352 : decode cL_ahead 352 = .ok (.ifCond .eq 8, 3) := by decide +kernel
theorem dL_ahead_355 : decode cL_ahead 355 = .ok (.bipush (-5), 2) := by decide +kernel
theorem dL_ahead_357 : decode cL_ahead 357 = .ok (.goto 5, 3) := by decide +kernel
theorem dL_ahead_360 : decode cL_ahead 360 = .ok (.iload 16, 2) := by decide +kernel
theorem dL_ahead_362 : decode cL_ahead 362 = .ok (.if_icmp .ne 7, 3) := by decide +kernel
theorem dL_ahead_365 : decode cL_ahead 365 = .ok (.iconst 1, 1) := by decide +kernel
theorem dL_ahead_366 : decode cL_ahead 366 = .ok (.goto 4, 3) := by decide +kernel
theorem dL_ahead_369 : decode cL_ahead 369 = .ok (.iconst 0, 1) := by decide +kernel
theorem dL_ahead_370 : decode cL_ahead 370 = .ok (.istore 20, 2) := by decide +kernel
theorem dL_ahead_372 : decode cL_ahead 372 = .ok (.iconst 1, 1) := by decide +kernel
theorem dL_ahead_373 : decode cL_ahead 373 = .ok (.iload 7, 2) := by decide +kernel
theorem dL_ahead_375 : decode cL_ahead 375 = .ok (.iconst 4, 1) := by decide +kernel
theorem dL_ahead_376 : decode cL_ahead 376 = .ok (.ishr, 1) := by decide +kernel
theorem dL_ahead_377 : decode cL_ahead 377 = .ok (.bipush 100, 2) := by decide +kernel
theorem dL_ahead_379 : decode cL_ahead 379 = .ok (.invokestatic 59, 3) := by decide +kernel
theorem dL_ahead_382 : decode cL_ahead 382 = .ok (.iadd, 1) := by decide +kernel
theorem dL_ahead_383 : decode cL_ahead 383 = .ok (.istore 21, 2) := by decide +kernel
theorem dL_ahead_385 : decode cL_ahead 385 = .ok (.iconst 0, 1) := by decide +kernel
theorem dL_ahead_386 : decode cL_ahead 386 = .ok (.istore 22, 2) := by decide +kernel
theorem dL_ahead_388 : decode cL_ahead 388 = .ok (.iconst 0, 1) := by decide +kernel
theorem dL_ahead_389 : decode cL_ahead 389 = .ok (.istore 23, 2) := by decide +kernel
theorem dL_ahead_391 : decode cL_ahead 391 = .ok (.bipush 20, 2) := by decide +kernel
theorem dL_ahead_393 : decode cL_ahead 393 = .ok (.istore 24, 2) := by decide +kernel
theorem dL_ahead_395 : decode cL_ahead 395 = .ok (.iload 24, 2) := by decide +kernel
theorem dL_ahead_397 : decode cL_ahead 397 = .ok (.ifCond .le 123, 3) := by decide +kernel
theorem dL_ahead_400 : decode cL_ahead 400 = .ok (.aload_n 1, 1) := by decide +kernel
theorem dL_ahead_401 : decode cL_ahead 401 = .ok (.aload 8, 2) := by decide +kernel
theorem dL_ahead_403 : decode cL_ahead 403 = .ok (.invokestatic 62, 3) := by decide +kernel
theorem dL_ahead_406 : decode cL_ahead 406 = .ok (.aload_n 2, 1) := by decide +kernel
theorem dL_ahead_407 : decode cL_ahead 407 = .ok (.aload 9, 2) := by decide +kernel
theorem dL_ahead_409 : decode cL_ahead 409 = .ok (.invokestatic 62, 3) := by decide +kernel
theorem dL_ahead_412 : decode cL_ahead 412 = .ok (.aload_n 3, 1) := by decide +kernel
theorem dL_ahead_413 : decode cL_ahead 413 = .ok (.aload 10, 2) := by decide +kernel
theorem dL_ahead_415 : decode cL_ahead 415 = .ok (.invokestatic 62, 3) := by decide +kernel
theorem dL_ahead_418 : decode cL_ahead 418 = .ok (.aload 5, 2) := by decide +kernel
theorem dL_ahead_420 : decode cL_ahead 420 = .ok (.aload 12, 2) := by decide +kernel
theorem dL_ahead_422 : decode cL_ahead 422 = .ok (.invokestatic 62, 3) := by decide +kernel
theorem dL_ahead_425 : decode cL_ahead 425 = .ok (.aload 6, 2) := by decide +kernel
theorem dL_ahead_427 : decode cL_ahead 427 = .ok (.aload 13, 2) := by decide +kernel
theorem dL_ahead_429 : decode cL_ahead 429 = .ok (.invokestatic 62, 3) := by decide +kernel
theorem dL_ahead_432 : decode cL_ahead 432 = .ok (.aload 13, 2) := by decide +kernel
theorem dL_ahead_434 : decode cL_ahead 434 = .ok (.iconst 0, 1) := by decide +kernel
theorem dL_ahead_435 : decode cL_ahead 435 = .ok (.iload 24, 2) := by decide +kernel
theorem dL_ahead_437 : decode cL_ahead 437 = .ok (.iastore, 1) := by decide +kernel
theorem dL_ahead_438 : decode cL_ahead 438 = .ok (.iconst 0, 1) := by decide +kernel
theorem dL_ahead_439 : decode cL_ahead 439 = .ok (.istore 25, 2) := by decide +kernel
theorem dL_ahead_441 : decode cL_ahead 441 = .ok (.iconst 0, 1) := by decide +kernel
theorem dL_ahead_442 : decode cL_ahead 442 = .ok (.istore 26, 2) := by decide +kernel
theorem dL_ahead_444 : decode cL_ahead 444 = .ok (.iload 26, 2) := by decide +kernel
theorem dL_ahead_446 : decode cL_ahead 446 = .ok (.iload 21, 2) := by decide +kernel
theorem dL_ahead_448 : decode cL_ahead 448 = .ok (.if_icmp .ge 29, 3) := by decide +kernel
theorem dL_ahead_451 : decode cL_ahead 451 = .ok (.iload 25, 2) := by decide +kernel
theorem dL_ahead_453 : decode cL_ahead 453 = .ok (.aload 8, 2) := by decide +kernel
theorem dL_ahead_455 : decode cL_ahead 455 = .ok (.aload 9, 2) := by decide +kernel
theorem dL_ahead_457 : decode cL_ahead 457 = .ok (.aload 10, 2) := by decide +kernel
theorem dL_ahead_459 : decode cL_ahead 459 = .ok (.aload 11, 2) := by decide +kernel
theorem dL_ahead_461 : decode cL_ahead 461 = .ok (.aload 12, 2) := by decide +kernel
theorem dL_ahead_463 : decode cL_ahead 463 = .ok (.aload 13, 2) := by decide +kernel
theorem dL_ahead_465 : decode cL_ahead 465 = .ok (.invokestatic 66, 3) := by decide +kernel
theorem dL_ahead_468 : decode cL_ahead 468 = .ok (.iadd, 1) := by decide +kernel
theorem dL_ahead_469 : decode cL_ahead 469 = .ok (.istore 25, 2) := by decide +kernel
theorem dL_ahead_471 : decode cL_ahead 471 = .ok (.iinc 26 1, 3) := by decide +kernel
theorem dL_ahead_474 : decode cL_ahead 474 = .ok (.goto (-30), 3) := by decide +kernel
theorem dL_ahead_477 : decode cL_ahead 477 = .ok (.iload 22, 2) := by decide +kernel
theorem dL_ahead_479 : decode cL_ahead 479 = .ok (.ifCond .eq 10, 3) := by decide +kernel
theorem dL_ahead_482 : decode cL_ahead 482 = .ok (.iload 25, 2) := by decide +kernel
theorem dL_ahead_484 : decode cL_ahead 484 = .ok (.iload 23, 2) := by decide +kernel
theorem dL_ahead_486 : decode cL_ahead 486 = .ok (.if_icmp .le 8, 3) := by decide +kernel
theorem dL_ahead_489 : decode cL_ahead 489 = .ok (.iload 24, 2) := by decide +kernel
theorem dL_ahead_491 : decode cL_ahead 491 = .ok (.goto 5, 3) := by decide +kernel
theorem dL_ahead_494 : decode cL_ahead 494 = .ok (.iload 22, 2) := by decide +kernel
theorem dL_ahead_496 : decode cL_ahead 496 = .ok (.istore 22, 2) := by decide +kernel
theorem dL_ahead_498 : decode cL_ahead 498 = .ok (.iload 25, 2) := by decide +kernel
theorem dL_ahead_500 : decode cL_ahead 500 = .ok (.iload 23, 2) := by decide +kernel
theorem dL_ahead_502 : decode cL_ahead 502 = .ok (.if_icmp .le 8, 3) := by decide +kernel
theorem dL_ahead_505 : decode cL_ahead 505 = .ok (.iload 25, 2) := by decide +kernel
theorem dL_ahead_507 : decode cL_ahead 507 = .ok (.goto 5, 3) := by decide +kernel
theorem dL_ahead_510 : decode cL_ahead 510 = .ok (.iload 23, 2) := by decide +kernel
theorem dL_ahead_512 : decode cL_ahead 512 = .ok (.istore 23, 2) := by decide +kernel
theorem dL_ahead_514 : decode cL_ahead 514 = .ok (.iinc 24 (-1), 3) := by decide +kernel
theorem dL_ahead_517 : decode cL_ahead 517 = .ok (.goto (-122), 3) := by decide +kernel
theorem dL_ahead_520 : decode cL_ahead 520 = .ok (.iload 20, 2) := by decide +kernel
theorem dL_ahead_522 : decode cL_ahead 522 = .ok (.ifCond .eq 31, 3) := by decide +kernel
theorem dL_ahead_525 : decode cL_ahead 525 = .ok (.aload_n 0, 1) := by decide +kernel
theorem dL_ahead_526 : decode cL_ahead 526 = .ok (.iload 21, 2) := by decide +kernel
theorem dL_ahead_528 : decode cL_ahead 528 = .ok (.iconst 0, 1) := by decide +kernel
theorem dL_ahead_529 : decode cL_ahead 529 = .ok (.invokevirtual 79, 3) := by decide +kernel
theorem dL_ahead_532 : decode cL_ahead 532 = .ok (.iload 22, 2) := by decide +kernel
theorem dL_ahead_534 : decode cL_ahead 534 = .ok (.if_icmp .ne 19, 3) := by decide +kernel
theorem dL_ahead_537 : decode cL_ahead 537 = .ok (.aload_n 0, 1) := by decide +kernel
theorem dL_ahead_538 : decode cL_ahead 538 = .ok (.iload 21, 2) := by decide +kernel
theorem dL_ahead_540 : decode cL_ahead 540 = .ok (.iconst 1, 1) := by decide +kernel
theorem dL_ahead_541 : decode cL_ahead 541 = .ok (.invokevirtual 79, 3) := by decide +kernel
theorem dL_ahead_544 : decode cL_ahead 544 = .ok (.iload 23, 2) := by decide +kernel
theorem dL_ahead_546 : decode cL_ahead 546 = .ok (.if_icmp .ne 7, 3) := by decide +kernel
theorem dL_ahead_549 : decode cL_ahead 549 = .ok (.iconst 1, 1) := by decide +kernel
theorem dL_ahead_550 : decode cL_ahead 550 = .ok (.goto 4, 3) := by decide +kernel
theorem dL_ahead_553 : decode cL_ahead 553 = .ok (.iconst 0, 1) := by decide +kernel
theorem dL_ahead_554 : decode cL_ahead 554 = .ok (.ireturn, 1) := by decide +kernel
theorem dL_law_0 : decode cL_law 0 = .ok (.new 29, 3) := by decide +kernel
theorem dL_law_3 : decode cL_law 3 = .ok (.dup, 1) := by decide +kernel
theorem dL_law_4 : decode cL_law 4 = .ok (.invokespecial 82, 3) := by decide +kernel
theorem dL_law_7 : decode cL_law 7 = .ok (.astore_n 1, 1) := by decide +kernel
theorem dL_law_8 : decode cL_law 8 = .ok (.bipush 64, 2) := by decide +kernel
theorem dL_law_10 : decode cL_law 10 = .ok (.newarray .int, 2) := by decide +kernel
theorem dL_law_12 : decode cL_law 12 = .ok (.astore_n 2, 1) := by decide +kernel
theorem dL_law_13 : decode cL_law 13 = .ok (.bipush 32, 2) := by decide +kernel
theorem dL_law_15 : decode cL_law 15 = .ok (.newarray .int, 2) := by decide +kernel
theorem dL_law_17 : decode cL_law 17 = .ok (.astore_n 3, 1) := by decide +kernel
theorem dL_law_18 : decode cL_law 18 = .ok (.bipush 32, 2) := by decide +kernel
theorem dL_law_20 : decode cL_law 20 = .ok (.newarray .int, 2) := by decide +kernel
theorem dL_law_22 : decode cL_law 22 = .ok (.astore 4, 2) := by decide +kernel
theorem dL_law_24 : decode cL_law 24 = .ok (.bipush 32, 2) := by decide +kernel
theorem dL_law_26 : decode cL_law 26 = .ok (.newarray .int, 2) := by decide +kernel
theorem dL_law_28 : decode cL_law 28 = .ok (.astore 5, 2) := by decide +kernel
theorem dL_law_30 : decode cL_law 30 = .ok (.bipush 24, 2) := by decide +kernel
theorem dL_law_32 : decode cL_law 32 = .ok (.newarray .int, 2) := by decide +kernel
theorem dL_law_34 : decode cL_law 34 = .ok (.astore 6, 2) := by decide +kernel
theorem dL_law_36 : decode cL_law 36 = .ok (.bipush 7, 2) := by decide +kernel
theorem dL_law_38 : decode cL_law 38 = .ok (.newarray .int, 2) := by decide +kernel
theorem dL_law_40 : decode cL_law 40 = .ok (.astore 7, 2) := by decide +kernel
theorem dL_law_42 : decode cL_law 42 = .ok (.aload 7, 2) := by decide +kernel
theorem dL_law_44 : decode cL_law 44 = .ok (.iconst 0, 1) := by decide +kernel
theorem dL_law_45 : decode cL_law 45 = .ok (.iconst 3, 1) := by decide +kernel
theorem dL_law_46 : decode cL_law 46 = .ok (.iastore, 1) := by decide +kernel
theorem dL_law_47 : decode cL_law 47 = .ok (.aload 7, 2) := by decide +kernel
theorem dL_law_49 : decode cL_law 49 = .ok (.iconst 1, 1) := by decide +kernel
theorem dL_law_50 : decode cL_law 50 = .ok (.bipush 40, 2) := by decide +kernel
theorem dL_law_52 : decode cL_law 52 = .ok (.iastore, 1) := by decide +kernel
theorem dL_law_53 : decode cL_law 53 = .ok (.aload 7, 2) := by decide +kernel
theorem dL_law_55 : decode cL_law 55 = .ok (.iconst 2, 1) := by decide +kernel
theorem dL_law_56 : decode cL_law 56 = .ok (.iconst 1, 1) := by decide +kernel
theorem dL_law_57 : decode cL_law 57 = .ok (.iastore, 1) := by decide +kernel
theorem dL_law_58 : decode cL_law 58 = .ok (.aload 7, 2) := by decide +kernel
theorem dL_law_60 : decode cL_law 60 = .ok (.iconst 3, 1) := by decide +kernel
theorem dL_law_61 : decode cL_law 61 = .ok (.iconst 1, 1) := by decide +kernel
theorem dL_law_62 : decode cL_law 62 = .ok (.iastore, 1) := by decide +kernel
theorem dL_law_63 : decode cL_law 63 = .ok (.aload 7, 2) := by decide +kernel
theorem dL_law_65 : decode cL_law 65 = .ok (.iconst 4, 1) := by decide +kernel
theorem dL_law_66 : decode cL_law 66 = .ok (.iconst 4, 1) := by decide +kernel
theorem dL_law_67 : decode cL_law 67 = .ok (.iastore, 1) := by decide +kernel
theorem dL_law_68 : decode cL_law 68 = .ok (.iconst 0, 1) := by decide +kernel
theorem dL_law_69 : decode cL_law 69 = .ok (.istore 8, 2) := by decide +kernel
theorem dL_law_71 : decode cL_law 71 = .ok (.iload 8, 2) := by decide +kernel
theorem dL_law_73 : decode cL_law 73 = .ok (.bipush 60, 2) := by decide +kernel
theorem dL_law_75 : decode cL_law 75 = .ok (.if_icmp .ge 934, 3) := by decide +kernel
theorem dL_law_78 : decode cL_law 78 = .ok (.aload_n 0, 1) := by decide +kernel
theorem dL_law_79 : decode cL_law 79 = .ok (.iload 8, 2) := by decide +kernel
theorem dL_law_81 : decode cL_law 81 = .ok (.invokestatic 83, 3) := by decide +kernel
theorem dL_law_84 : decode cL_law 84 = .ok (.istore 9, 2) := by decide +kernel
theorem dL_law_86 : decode cL_law 86 = .ok (.iload 9, 2) := by decide +kernel
theorem dL_law_88 : decode cL_law 88 = .ok (.bipush 16, 2) := by decide +kernel
theorem dL_law_90 : decode cL_law 90 = .ok (.invokestatic 59, 3) := by decide +kernel
theorem dL_law_93 : decode cL_law 93 = .ok (.istore 10, 2) := by decide +kernel
theorem dL_law_95 : decode cL_law 95 = .ok (.iconst 1, 1) := by decide +kernel
theorem dL_law_96 : decode cL_law 96 = .ok (.istore 11, 2) := by decide +kernel
theorem dL_law_98 : decode cL_law 98 = .ok (.iload 10, 2) := by decide +kernel
theorem dL_law_100 : decode cL_law 100 = .ok (.iconst 3, 1) := by decide +kernel
theorem dL_law_101 : decode cL_law 101 = .ok (.if_icmp .lt 12, 3) := by decide +kernel
theorem dL_law_104 : decode cL_law 104 = .ok (.aload 7, 2) := by decide +kernel
theorem dL_law_106 : decode cL_law 106 = .ok (.bipush 6, 2) := by decide +kernel
theorem dL_law_108 : decode cL_law 108 = .ok (.iaload, 1) := by decide +kernel
theorem dL_law_109 : decode cL_law 109 = .ok (.iconst 2, 1) := by decide +kernel
theorem dL_law_110 : decode cL_law 110 = .ok (.if_icmp .ge 105, 3) := by decide +kernel
theorem dL_law_113 : decode cL_law 113 = .ok (.aload 7, 2) := by decide +kernel
theorem dL_law_115 : decode cL_law 115 = .ok (.bipush 6, 2) := by decide +kernel
theorem dL_law_117 : decode cL_law 117 = .ok (.iaload, 1) := by decide +kernel
theorem dL_law_118 : decode cL_law 118 = .ok (.bipush 8, 2) := by decide +kernel
theorem dL_law_120 : decode cL_law 120 = .ok (.if_icmp .ge 95, 3) := by decide +kernel
theorem dL_law_123 : decode cL_law 123 = .ok (.iconst 1, 1) := by decide +kernel
theorem dL_law_124 : decode cL_law 124 = .ok (.iload 9, 2) := by decide +kernel
theorem dL_law_126 : decode cL_law 126 = .ok (.iconst 4, 1) := by decide +kernel
theorem dL_law_127 : decode cL_law 127 = .ok (.ishr, 1) := by decide +kernel
theorem dL_law_128 : decode cL_law 128 = .ok (.iload 9, 2) := by decide +kernel
theorem dL_law_130 : decode cL_law 130 = .ok (.bipush 12, 2) := by decide +kernel
theorem dL_law_132 : decode cL_law 132 = .ok (.ishr, 1) := by decide +kernel
theorem dL_law_133 : decode cL_law 133 = .ok (.iconst 2, 1) := by decide +kernel
theorem dL_law_134 : decode cL_law 134 = .ok (.invokestatic 59, 3) := by decide +kernel
theorem dL_law_137 : decode cL_law 137 = .ok (.ifCond .ne 8, 3) := by decide +kernel
theorem dL_law_140 : decode cL_law 140 = .ok (.bipush 63, 2) := by decide +kernel
theorem dL_law_142 : decode cL_law 142 = .ok (.goto 5, 3) := by decide +kernel
theorem dL_law_145 : decode cL_law 145 = .ok (.bipush 7, 2) := by decide +kernel
theorem dL_law_147 : decode cL_law 147 = .ok (.invokestatic 59, 3) := by decide +kernel
theorem dL_law_150 : decode cL_law 150 = .ok (.iadd, 1) := by decide +kernel
theorem dL_law_151 : decode cL_law 151 = .ok (.istore 12, 2) := by decide +kernel
theorem dL_law_153 : decode cL_law 153 = .ok (.aload 7, 2) := by decide +kernel
theorem dL_law_155 : decode cL_law 155 = .ok (.bipush 6, 2) := by decide +kernel
theorem dL_law_157 : decode cL_law 157 = .ok (.iaload, 1) := by decide +kernel
theorem dL_law_158 : decode cL_law 158 = .ok (.istore 13, 2) := by decide +kernel
theorem dL_law_160 : decode cL_law 160 = .ok (.aload_n 2, 1) := by decide +kernel
theorem dL_law_161 : decode cL_law 161 = .ok (.iload 13, 2) := by decide +kernel
theorem dL_law_163 : decode cL_law 163 = .ok (.iload 12, 2) := by decide +kernel
theorem dL_law_165 : decode cL_law 165 = .ok (.iastore, 1) := by decide +kernel
theorem dL_law_166 : decode cL_law 166 = .ok (.aload_n 2, 1) := by decide +kernel
theorem dL_law_167 : decode cL_law 167 = .ok (.bipush 8, 2) := by decide +kernel
theorem dL_law_169 : decode cL_law 169 = .ok (.iload 13, 2) := by decide +kernel
theorem dL_law_171 : decode cL_law 171 = .ok (.iadd, 1) := by decide +kernel
theorem dL_law_172 : decode cL_law 172 = .ok (.aload 7, 2) := by decide +kernel
theorem dL_law_174 : decode cL_law 174 = .ok (.iconst 1, 1) := by decide +kernel
theorem dL_law_175 : decode cL_law 175 = .ok (.iaload, 1) := by decide +kernel
theorem dL_law_176 : decode cL_law 176 = .ok (.iastore, 1) := by decide +kernel
theorem dL_law_177 : decode cL_law 177 = .ok (.aload_n 2, 1) := by decide +kernel
theorem dL_law_178 : decode cL_law 178 = .ok (.bipush 40, 2) := by decide +kernel
theorem dL_law_180 : decode cL_law 180 = .ok (.iload 13, 2) := by decide +kernel
theorem dL_law_182 : decode cL_law 182 = .ok (.iadd, 1) := by decide +kernel
theorem dL_law_183 : decode cL_law 183 = .ok (.iconst (-1), 1) := by decide +kernel
theorem dL_law_184 : decode cL_law 184 = .ok (.iastore, 1) := by decide +kernel
theorem dL_law_185 : decode cL_law 185 = .ok (.aload 7, 2) := by decide +kernel
theorem dL_law_187 : decode cL_law 187 = .ok (.bipush 6, 2) := by decide +kernel
theorem dL_law_189 : decode cL_law 189 = .ok (.dup2, 1) := by decide +kernel
theorem dL_law_190 : decode cL_law 190 = .ok (.iaload, 1) := by decide +kernel
theorem dL_law_191 : decode cL_law 191 = .ok (.iconst 1, 1) := by decide +kernel
theorem dL_law_192 : decode cL_law 192 = .ok (.iadd, 1) := by decide +kernel
theorem dL_law_193 : decode cL_law 193 = .ok (.iastore, 1) := by decide +kernel
theorem dL_law_194 : decode cL_law 194 = .ok (.aload_n 1, 1) := by decide +kernel
theorem dL_law_195 : decode cL_law 195 = .ok (.iload 12, 2) := by decide +kernel
theorem dL_law_197 : decode cL_law 197 = .ok (.invokevirtual 86, 3) := by decide +kernel
theorem dL_law_200 : decode cL_law 200 = .ok (.iload 13, 2) := by decide +kernel
