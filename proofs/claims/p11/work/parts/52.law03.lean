theorem d_La_law_367 : decode code 367 = .ok (.iadd, 1) := by decide +kernel
theorem d_La_law_368 : decode code 368 = .ok (.iaload, 1) := by decide +kernel
theorem d_La_law_369 : decode code 369 = .ok (.invokevirtual 79, 3) := by decide +kernel
theorem d_La_law_372 : decode code 372 = .ok (.istore 6, 2) := by decide +kernel
theorem d_La_law_374 : decode code 374 = .ok (.goto 292, 3) := by decide +kernel
theorem d_La_law_377 : decode code 377 = .ok (.aload_n 1, 1) := by decide +kernel
theorem d_La_law_378 : decode code 378 = .ok (.invokevirtual 80, 3) := by decide +kernel
theorem d_La_law_381 : decode code 381 = .ok (.pop, 1) := by decide +kernel
theorem d_La_law_382 : decode code 382 = .ok (.aload_n 2, 1) := by decide +kernel
theorem d_La_law_383 : decode code 383 = .ok (.invokevirtual 84, 3) := by decide +kernel
theorem d_La_law_386 : decode code 386 = .ok (.pop, 1) := by decide +kernel
theorem d_La_law_387 : decode code 387 = .ok (.goto 279, 3) := by decide +kernel
theorem d_La_law_390 : decode code 390 = .ok (.aload_n 1, 1) := by decide +kernel
theorem d_La_law_391 : decode code 391 = .ok (.aload_n 0, 1) := by decide +kernel
theorem d_La_law_392 : decode code 392 = .ok (.iload 4, 2) := by decide +kernel
theorem d_La_law_394 : decode code 394 = .ok (.iconst 1, 1) := by decide +kernel
theorem d_La_law_395 : decode code 395 = .ok (.iadd, 1) := by decide +kernel
theorem d_La_law_396 : decode code 396 = .ok (.iaload, 1) := by decide +kernel
theorem d_La_law_397 : decode code 397 = .ok (.aload_n 0, 1) := by decide +kernel
theorem d_La_law_398 : decode code 398 = .ok (.iload 4, 2) := by decide +kernel
theorem d_La_law_400 : decode code 400 = .ok (.iconst 2, 1) := by decide +kernel
theorem d_La_law_401 : decode code 401 = .ok (.iadd, 1) := by decide +kernel
theorem d_La_law_402 : decode code 402 = .ok (.iaload, 1) := by decide +kernel
theorem d_La_law_403 : decode code 403 = .ok (.aload_n 3, 1) := by decide +kernel
theorem d_La_law_404 : decode code 404 = .ok (.invokestatic 85, 3) := by decide +kernel
theorem d_La_law_407 : decode code 407 = .ok (.istore 5, 2) := by decide +kernel
theorem d_La_law_409 : decode code 409 = .ok (.aload_n 2, 1) := by decide +kernel
theorem d_La_law_410 : decode code 410 = .ok (.aload_n 0, 1) := by decide +kernel
theorem d_La_law_411 : decode code 411 = .ok (.iload 4, 2) := by decide +kernel
theorem d_La_law_413 : decode code 413 = .ok (.iconst 1, 1) := by decide +kernel
theorem d_La_law_414 : decode code 414 = .ok (.iadd, 1) := by decide +kernel
theorem d_La_law_415 : decode code 415 = .ok (.iaload, 1) := by decide +kernel
theorem d_La_law_416 : decode code 416 = .ok (.aload_n 0, 1) := by decide +kernel
theorem d_La_law_417 : decode code 417 = .ok (.iload 4, 2) := by decide +kernel
theorem d_La_law_419 : decode code 419 = .ok (.iconst 2, 1) := by decide +kernel
theorem d_La_law_420 : decode code 420 = .ok (.iadd, 1) := by decide +kernel
theorem d_La_law_421 : decode code 421 = .ok (.iaload, 1) := by decide +kernel
theorem d_La_law_422 : decode code 422 = .ok (.invokevirtual 88, 3) := by decide +kernel
theorem d_La_law_425 : decode code 425 = .ok (.istore 6, 2) := by decide +kernel
theorem d_La_law_427 : decode code 427 = .ok (.goto 239, 3) := by decide +kernel
theorem d_La_law_430 : decode code 430 = .ok (.aload_n 1, 1) := by decide +kernel
theorem d_La_law_431 : decode code 431 = .ok (.aload_n 0, 1) := by decide +kernel
theorem d_La_law_432 : decode code 432 = .ok (.iload 4, 2) := by decide +kernel
theorem d_La_law_434 : decode code 434 = .ok (.iconst 1, 1) := by decide +kernel
theorem d_La_law_435 : decode code 435 = .ok (.iadd, 1) := by decide +kernel
theorem d_La_law_436 : decode code 436 = .ok (.iaload, 1) := by decide +kernel
theorem d_La_law_437 : decode code 437 = .ok (.aload_n 3, 1) := by decide +kernel
theorem d_La_law_438 : decode code 438 = .ok (.invokestatic 89, 3) := by decide +kernel
theorem d_La_law_441 : decode code 441 = .ok (.istore 5, 2) := by decide +kernel
theorem d_La_law_443 : decode code 443 = .ok (.aload_n 2, 1) := by decide +kernel
theorem d_La_law_444 : decode code 444 = .ok (.aload_n 0, 1) := by decide +kernel
theorem d_La_law_445 : decode code 445 = .ok (.iload 4, 2) := by decide +kernel
theorem d_La_law_447 : decode code 447 = .ok (.iconst 1, 1) := by decide +kernel
theorem d_La_law_448 : decode code 448 = .ok (.iadd, 1) := by decide +kernel
theorem d_La_law_449 : decode code 449 = .ok (.iaload, 1) := by decide +kernel
theorem d_La_law_450 : decode code 450 = .ok (.invokevirtual 92, 3) := by decide +kernel
theorem d_La_law_453 : decode code 453 = .ok (.istore 6, 2) := by decide +kernel
theorem d_La_law_455 : decode code 455 = .ok (.goto 211, 3) := by decide +kernel
theorem d_La_law_458 : decode code 458 = .ok (.aload_n 1, 1) := by decide +kernel
theorem d_La_law_459 : decode code 459 = .ok (.aload_n 0, 1) := by decide +kernel
theorem d_La_law_460 : decode code 460 = .ok (.iload 4, 2) := by decide +kernel
theorem d_La_law_462 : decode code 462 = .ok (.iconst 1, 1) := by decide +kernel
theorem d_La_law_463 : decode code 463 = .ok (.iadd, 1) := by decide +kernel
theorem d_La_law_464 : decode code 464 = .ok (.iaload, 1) := by decide +kernel
theorem d_La_law_465 : decode code 465 = .ok (.aload_n 3, 1) := by decide +kernel
theorem d_La_law_466 : decode code 466 = .ok (.invokestatic 93, 3) := by decide +kernel
theorem d_La_law_469 : decode code 469 = .ok (.istore 5, 2) := by decide +kernel
theorem d_La_law_471 : decode code 471 = .ok (.aload_n 2, 1) := by decide +kernel
theorem d_La_law_472 : decode code 472 = .ok (.aload_n 0, 1) := by decide +kernel
theorem d_La_law_473 : decode code 473 = .ok (.iload 4, 2) := by decide +kernel
theorem d_La_law_475 : decode code 475 = .ok (.iconst 1, 1) := by decide +kernel
theorem d_La_law_476 : decode code 476 = .ok (.iadd, 1) := by decide +kernel
theorem d_La_law_477 : decode code 477 = .ok (.iaload, 1) := by decide +kernel
theorem d_La_law_478 : decode code 478 = .ok (.invokevirtual 95, 3) := by decide +kernel
theorem d_La_law_481 : decode code 481 = .ok (.istore 6, 2) := by decide +kernel
theorem d_La_law_483 : decode code 483 = .ok (.goto 183, 3) := by decide +kernel
theorem d_La_law_486 : decode code 486 = .ok (.aload_n 1, 1) := by decide +kernel
theorem d_La_law_487 : decode code 487 = .ok (.aload_n 0, 1) := by decide +kernel
theorem d_La_law_488 : decode code 488 = .ok (.iload 4, 2) := by decide +kernel
theorem d_La_law_490 : decode code 490 = .ok (.iconst 1, 1) := by decide +kernel
theorem d_La_law_491 : decode code 491 = .ok (.iadd, 1) := by decide +kernel
theorem d_La_law_492 : decode code 492 = .ok (.iaload, 1) := by decide +kernel
theorem d_La_law_493 : decode code 493 = .ok (.aload_n 3, 1) := by decide +kernel
theorem d_La_law_494 : decode code 494 = .ok (.invokestatic 96, 3) := by decide +kernel
theorem d_La_law_497 : decode code 497 = .ok (.istore 5, 2) := by decide +kernel
theorem d_La_law_499 : decode code 499 = .ok (.aload_n 2, 1) := by decide +kernel
theorem d_La_law_500 : decode code 500 = .ok (.aload_n 0, 1) := by decide +kernel
theorem d_La_law_501 : decode code 501 = .ok (.iload 4, 2) := by decide +kernel
theorem d_La_law_503 : decode code 503 = .ok (.iconst 1, 1) := by decide +kernel
theorem d_La_law_504 : decode code 504 = .ok (.iadd, 1) := by decide +kernel
theorem d_La_law_505 : decode code 505 = .ok (.iaload, 1) := by decide +kernel
theorem d_La_law_506 : decode code 506 = .ok (.invokevirtual 98, 3) := by decide +kernel
theorem d_La_law_509 : decode code 509 = .ok (.istore 6, 2) := by decide +kernel
theorem d_La_law_511 : decode code 511 = .ok (.goto 155, 3) := by decide +kernel
theorem d_La_law_514 : decode code 514 = .ok (.aload_n 1, 1) := by decide +kernel
theorem d_La_law_515 : decode code 515 = .ok (.aload_n 0, 1) := by decide +kernel
theorem d_La_law_516 : decode code 516 = .ok (.iload 4, 2) := by decide +kernel
theorem d_La_law_518 : decode code 518 = .ok (.iconst 1, 1) := by decide +kernel
theorem d_La_law_519 : decode code 519 = .ok (.iadd, 1) := by decide +kernel
theorem d_La_law_520 : decode code 520 = .ok (.iaload, 1) := by decide +kernel
theorem d_La_law_521 : decode code 521 = .ok (.aload_n 0, 1) := by decide +kernel
theorem d_La_law_522 : decode code 522 = .ok (.iload 4, 2) := by decide +kernel
theorem d_La_law_524 : decode code 524 = .ok (.iconst 2, 1) := by decide +kernel
theorem d_La_law_525 : decode code 525 = .ok (.iadd, 1) := by decide +kernel
theorem d_La_law_526 : decode code 526 = .ok (.iaload, 1) := by decide +kernel
theorem d_La_law_527 : decode code 527 = .ok (.aload_n 0, 1) := by decide +kernel
theorem d_La_law_528 : decode code 528 = .ok (.iload 4, 2) := by decide +kernel
theorem d_La_law_530 : decode code 530 = .ok (.iconst 3, 1) := by decide +kernel
theorem d_La_law_531 : decode code 531 = .ok (.iadd, 1) := by decide +kernel
theorem d_La_law_532 : decode code 532 = .ok (.iaload, 1) := by decide +kernel
