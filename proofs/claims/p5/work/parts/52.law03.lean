theorem d_La_law_367 : decode code 367 = .ok (.iadd, 1) := by decide +kernel
theorem d_La_law_368 : decode code 368 = .ok (.iaload, 1) := by decide +kernel
theorem d_La_law_369 : decode code 369 = .ok (.invokevirtual 79, 3) := by decide +kernel
theorem d_La_law_372 : decode code 372 = .ok (.istore 6, 2) := by decide +kernel
theorem d_La_law_374 : decode code 374 = .ok (.aload_n 2, 1) := by decide +kernel
theorem d_La_law_375 : decode code 375 = .ok (.invokevirtual 80, 3) := by decide +kernel
theorem d_La_law_378 : decode code 378 = .ok (.iload 5, 2) := by decide +kernel
theorem d_La_law_380 : decode code 380 = .ok (.if_icmp .eq 5, 3) := by decide +kernel
theorem d_La_law_383 : decode code 383 = .ok (.iconst 0, 1) := by decide +kernel
theorem d_La_law_384 : decode code 384 = .ok (.ireturn, 1) := by decide +kernel
theorem d_La_law_385 : decode code 385 = .ok (.iload 5, 2) := by decide +kernel
theorem d_La_law_387 : decode code 387 = .ok (.ifCond .ne 15, 3) := by decide +kernel
theorem d_La_law_390 : decode code 390 = .ok (.aload_n 3, 1) := by decide +kernel
theorem d_La_law_391 : decode code 391 = .ok (.iconst 0, 1) := by decide +kernel
theorem d_La_law_392 : decode code 392 = .ok (.laload, 1) := by decide +kernel
theorem d_La_law_393 : decode code 393 = .ok (.iload 6, 2) := by decide +kernel
theorem d_La_law_395 : decode code 395 = .ok (.i2l, 1) := by decide +kernel
theorem d_La_law_396 : decode code 396 = .ok (.lcmp, 1) := by decide +kernel
theorem d_La_law_397 : decode code 397 = .ok (.ifCond .eq 5, 3) := by decide +kernel
theorem d_La_law_400 : decode code 400 = .ok (.iconst 0, 1) := by decide +kernel
theorem d_La_law_401 : decode code 401 = .ok (.ireturn, 1) := by decide +kernel
theorem d_La_law_402 : decode code 402 = .ok (.goto 257, 3) := by decide +kernel
theorem d_La_law_405 : decode code 405 = .ok (.aload_n 1, 1) := by decide +kernel
theorem d_La_law_406 : decode code 406 = .ok (.invokevirtual 84, 3) := by decide +kernel
theorem d_La_law_409 : decode code 409 = .ok (.pop, 1) := by decide +kernel
theorem d_La_law_410 : decode code 410 = .ok (.aload_n 2, 1) := by decide +kernel
theorem d_La_law_411 : decode code 411 = .ok (.invokevirtual 87, 3) := by decide +kernel
theorem d_La_law_414 : decode code 414 = .ok (.pop, 1) := by decide +kernel
theorem d_La_law_415 : decode code 415 = .ok (.goto 244, 3) := by decide +kernel
theorem d_La_law_418 : decode code 418 = .ok (.aload_n 1, 1) := by decide +kernel
theorem d_La_law_419 : decode code 419 = .ok (.aload_n 0, 1) := by decide +kernel
theorem d_La_law_420 : decode code 420 = .ok (.iload 4, 2) := by decide +kernel
theorem d_La_law_422 : decode code 422 = .ok (.iconst 1, 1) := by decide +kernel
theorem d_La_law_423 : decode code 423 = .ok (.iadd, 1) := by decide +kernel
theorem d_La_law_424 : decode code 424 = .ok (.iaload, 1) := by decide +kernel
theorem d_La_law_425 : decode code 425 = .ok (.aload_n 0, 1) := by decide +kernel
theorem d_La_law_426 : decode code 426 = .ok (.iload 4, 2) := by decide +kernel
theorem d_La_law_428 : decode code 428 = .ok (.iconst 2, 1) := by decide +kernel
theorem d_La_law_429 : decode code 429 = .ok (.iadd, 1) := by decide +kernel
theorem d_La_law_430 : decode code 430 = .ok (.iaload, 1) := by decide +kernel
theorem d_La_law_431 : decode code 431 = .ok (.aload_n 3, 1) := by decide +kernel
theorem d_La_law_432 : decode code 432 = .ok (.invokestatic 88, 3) := by decide +kernel
theorem d_La_law_435 : decode code 435 = .ok (.istore 5, 2) := by decide +kernel
theorem d_La_law_437 : decode code 437 = .ok (.aload_n 2, 1) := by decide +kernel
theorem d_La_law_438 : decode code 438 = .ok (.aload_n 0, 1) := by decide +kernel
theorem d_La_law_439 : decode code 439 = .ok (.iload 4, 2) := by decide +kernel
theorem d_La_law_441 : decode code 441 = .ok (.iconst 1, 1) := by decide +kernel
theorem d_La_law_442 : decode code 442 = .ok (.iadd, 1) := by decide +kernel
theorem d_La_law_443 : decode code 443 = .ok (.iaload, 1) := by decide +kernel
theorem d_La_law_444 : decode code 444 = .ok (.aload_n 0, 1) := by decide +kernel
theorem d_La_law_445 : decode code 445 = .ok (.iload 4, 2) := by decide +kernel
theorem d_La_law_447 : decode code 447 = .ok (.iconst 2, 1) := by decide +kernel
theorem d_La_law_448 : decode code 448 = .ok (.iadd, 1) := by decide +kernel
theorem d_La_law_449 : decode code 449 = .ok (.iaload, 1) := by decide +kernel
theorem d_La_law_450 : decode code 450 = .ok (.invokevirtual 91, 3) := by decide +kernel
theorem d_La_law_453 : decode code 453 = .ok (.istore 6, 2) := by decide +kernel
theorem d_La_law_455 : decode code 455 = .ok (.goto 204, 3) := by decide +kernel
theorem d_La_law_458 : decode code 458 = .ok (.aload_n 1, 1) := by decide +kernel
theorem d_La_law_459 : decode code 459 = .ok (.aload_n 0, 1) := by decide +kernel
theorem d_La_law_460 : decode code 460 = .ok (.iload 4, 2) := by decide +kernel
theorem d_La_law_462 : decode code 462 = .ok (.iconst 1, 1) := by decide +kernel
theorem d_La_law_463 : decode code 463 = .ok (.iadd, 1) := by decide +kernel
theorem d_La_law_464 : decode code 464 = .ok (.iaload, 1) := by decide +kernel
theorem d_La_law_465 : decode code 465 = .ok (.aload_n 3, 1) := by decide +kernel
theorem d_La_law_466 : decode code 466 = .ok (.invokestatic 92, 3) := by decide +kernel
theorem d_La_law_469 : decode code 469 = .ok (.istore 5, 2) := by decide +kernel
theorem d_La_law_471 : decode code 471 = .ok (.aload_n 2, 1) := by decide +kernel
theorem d_La_law_472 : decode code 472 = .ok (.aload_n 0, 1) := by decide +kernel
theorem d_La_law_473 : decode code 473 = .ok (.iload 4, 2) := by decide +kernel
theorem d_La_law_475 : decode code 475 = .ok (.iconst 1, 1) := by decide +kernel
theorem d_La_law_476 : decode code 476 = .ok (.iadd, 1) := by decide +kernel
theorem d_La_law_477 : decode code 477 = .ok (.iaload, 1) := by decide +kernel
theorem d_La_law_478 : decode code 478 = .ok (.invokevirtual 95, 3) := by decide +kernel
theorem d_La_law_481 : decode code 481 = .ok (.istore 6, 2) := by decide +kernel
theorem d_La_law_483 : decode code 483 = .ok (.goto 176, 3) := by decide +kernel
theorem d_La_law_486 : decode code 486 = .ok (.aload_n 1, 1) := by decide +kernel
theorem d_La_law_487 : decode code 487 = .ok (.aload_n 0, 1) := by decide +kernel
theorem d_La_law_488 : decode code 488 = .ok (.iload 4, 2) := by decide +kernel
theorem d_La_law_490 : decode code 490 = .ok (.iconst 1, 1) := by decide +kernel
theorem d_La_law_491 : decode code 491 = .ok (.iadd, 1) := by decide +kernel
theorem d_La_law_492 : decode code 492 = .ok (.iaload, 1) := by decide +kernel
theorem d_La_law_493 : decode code 493 = .ok (.aload_n 3, 1) := by decide +kernel
theorem d_La_law_494 : decode code 494 = .ok (.invokestatic 96, 3) := by decide +kernel
theorem d_La_law_497 : decode code 497 = .ok (.istore 5, 2) := by decide +kernel
theorem d_La_law_499 : decode code 499 = .ok (.aload_n 2, 1) := by decide +kernel
theorem d_La_law_500 : decode code 500 = .ok (.aload_n 0, 1) := by decide +kernel
theorem d_La_law_501 : decode code 501 = .ok (.iload 4, 2) := by decide +kernel
theorem d_La_law_503 : decode code 503 = .ok (.iconst 1, 1) := by decide +kernel
theorem d_La_law_504 : decode code 504 = .ok (.iadd, 1) := by decide +kernel
theorem d_La_law_505 : decode code 505 = .ok (.iaload, 1) := by decide +kernel
theorem d_La_law_506 : decode code 506 = .ok (.invokevirtual 98, 3) := by decide +kernel
theorem d_La_law_509 : decode code 509 = .ok (.istore 6, 2) := by decide +kernel
theorem d_La_law_511 : decode code 511 = .ok (.goto 148, 3) := by decide +kernel
theorem d_La_law_514 : decode code 514 = .ok (.aload_n 1, 1) := by decide +kernel
theorem d_La_law_515 : decode code 515 = .ok (.aload_n 0, 1) := by decide +kernel
theorem d_La_law_516 : decode code 516 = .ok (.iload 4, 2) := by decide +kernel
theorem d_La_law_518 : decode code 518 = .ok (.iconst 1, 1) := by decide +kernel
theorem d_La_law_519 : decode code 519 = .ok (.iadd, 1) := by decide +kernel
theorem d_La_law_520 : decode code 520 = .ok (.iaload, 1) := by decide +kernel
theorem d_La_law_521 : decode code 521 = .ok (.aload_n 3, 1) := by decide +kernel
theorem d_La_law_522 : decode code 522 = .ok (.invokestatic 99, 3) := by decide +kernel
theorem d_La_law_525 : decode code 525 = .ok (.istore 5, 2) := by decide +kernel
theorem d_La_law_527 : decode code 527 = .ok (.aload_n 2, 1) := by decide +kernel
theorem d_La_law_528 : decode code 528 = .ok (.aload_n 0, 1) := by decide +kernel
theorem d_La_law_529 : decode code 529 = .ok (.iload 4, 2) := by decide +kernel
theorem d_La_law_531 : decode code 531 = .ok (.iconst 1, 1) := by decide +kernel
theorem d_La_law_532 : decode code 532 = .ok (.iadd, 1) := by decide +kernel
theorem d_La_law_533 : decode code 533 = .ok (.iaload, 1) := by decide +kernel
theorem d_La_law_534 : decode code 534 = .ok (.invokevirtual 101, 3) := by decide +kernel
theorem d_La_law_537 : decode code 537 = .ok (.istore 6, 2) := by decide +kernel
