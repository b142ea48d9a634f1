theorem d_La_law_371 : decode code 371 = .ok (.iconst 3, 1) := by decide +kernel
theorem d_La_law_372 : decode code 372 = .ok (.iadd, 1) := by decide +kernel
theorem d_La_law_373 : decode code 373 = .ok (.iaload, 1) := by decide +kernel
theorem d_La_law_374 : decode code 374 = .ok (.aload_n 0, 1) := by decide +kernel
theorem d_La_law_375 : decode code 375 = .ok (.iload 4, 2) := by decide +kernel
theorem d_La_law_377 : decode code 377 = .ok (.iconst 4, 1) := by decide +kernel
theorem d_La_law_378 : decode code 378 = .ok (.iadd, 1) := by decide +kernel
theorem d_La_law_379 : decode code 379 = .ok (.iaload, 1) := by decide +kernel
theorem d_La_law_380 : decode code 380 = .ok (.invokevirtual 83, 3) := by decide +kernel
theorem d_La_law_383 : decode code 383 = .ok (.istore 6, 2) := by decide +kernel
theorem d_La_law_385 : decode code 385 = .ok (.goto 257, 3) := by decide +kernel
theorem d_La_law_388 : decode code 388 = .ok (.aload_n 1, 1) := by decide +kernel
theorem d_La_law_389 : decode code 389 = .ok (.invokevirtual 84, 3) := by decide +kernel
theorem d_La_law_392 : decode code 392 = .ok (.pop, 1) := by decide +kernel
theorem d_La_law_393 : decode code 393 = .ok (.aload_n 2, 1) := by decide +kernel
theorem d_La_law_394 : decode code 394 = .ok (.invokevirtual 87, 3) := by decide +kernel
theorem d_La_law_397 : decode code 397 = .ok (.pop, 1) := by decide +kernel
theorem d_La_law_398 : decode code 398 = .ok (.goto 244, 3) := by decide +kernel
theorem d_La_law_401 : decode code 401 = .ok (.aload_n 1, 1) := by decide +kernel
theorem d_La_law_402 : decode code 402 = .ok (.aload_n 0, 1) := by decide +kernel
theorem d_La_law_403 : decode code 403 = .ok (.iload 4, 2) := by decide +kernel
theorem d_La_law_405 : decode code 405 = .ok (.iconst 1, 1) := by decide +kernel
theorem d_La_law_406 : decode code 406 = .ok (.iadd, 1) := by decide +kernel
theorem d_La_law_407 : decode code 407 = .ok (.iaload, 1) := by decide +kernel
theorem d_La_law_408 : decode code 408 = .ok (.aload_n 0, 1) := by decide +kernel
theorem d_La_law_409 : decode code 409 = .ok (.iload 4, 2) := by decide +kernel
theorem d_La_law_411 : decode code 411 = .ok (.iconst 2, 1) := by decide +kernel
theorem d_La_law_412 : decode code 412 = .ok (.iadd, 1) := by decide +kernel
theorem d_La_law_413 : decode code 413 = .ok (.iaload, 1) := by decide +kernel
theorem d_La_law_414 : decode code 414 = .ok (.aload_n 3, 1) := by decide +kernel
theorem d_La_law_415 : decode code 415 = .ok (.invokestatic 88, 3) := by decide +kernel
theorem d_La_law_418 : decode code 418 = .ok (.istore 5, 2) := by decide +kernel
theorem d_La_law_420 : decode code 420 = .ok (.aload_n 2, 1) := by decide +kernel
theorem d_La_law_421 : decode code 421 = .ok (.aload_n 0, 1) := by decide +kernel
theorem d_La_law_422 : decode code 422 = .ok (.iload 4, 2) := by decide +kernel
theorem d_La_law_424 : decode code 424 = .ok (.iconst 1, 1) := by decide +kernel
theorem d_La_law_425 : decode code 425 = .ok (.iadd, 1) := by decide +kernel
theorem d_La_law_426 : decode code 426 = .ok (.iaload, 1) := by decide +kernel
theorem d_La_law_427 : decode code 427 = .ok (.aload_n 0, 1) := by decide +kernel
theorem d_La_law_428 : decode code 428 = .ok (.iload 4, 2) := by decide +kernel
theorem d_La_law_430 : decode code 430 = .ok (.iconst 2, 1) := by decide +kernel
theorem d_La_law_431 : decode code 431 = .ok (.iadd, 1) := by decide +kernel
theorem d_La_law_432 : decode code 432 = .ok (.iaload, 1) := by decide +kernel
theorem d_La_law_433 : decode code 433 = .ok (.invokevirtual 91, 3) := by decide +kernel
theorem d_La_law_436 : decode code 436 = .ok (.istore 6, 2) := by decide +kernel
theorem d_La_law_438 : decode code 438 = .ok (.goto 204, 3) := by decide +kernel
theorem d_La_law_441 : decode code 441 = .ok (.aload_n 1, 1) := by decide +kernel
theorem d_La_law_442 : decode code 442 = .ok (.aload_n 0, 1) := by decide +kernel
theorem d_La_law_443 : decode code 443 = .ok (.iload 4, 2) := by decide +kernel
theorem d_La_law_445 : decode code 445 = .ok (.iconst 1, 1) := by decide +kernel
theorem d_La_law_446 : decode code 446 = .ok (.iadd, 1) := by decide +kernel
theorem d_La_law_447 : decode code 447 = .ok (.iaload, 1) := by decide +kernel
theorem d_La_law_448 : decode code 448 = .ok (.aload_n 3, 1) := by decide +kernel
theorem d_La_law_449 : decode code 449 = .ok (.invokestatic 92, 3) := by decide +kernel
theorem d_La_law_452 : decode code 452 = .ok (.istore 5, 2) := by decide +kernel
theorem d_La_law_454 : decode code 454 = .ok (.aload_n 2, 1) := by decide +kernel
theorem d_La_law_455 : decode code 455 = .ok (.aload_n 0, 1) := by decide +kernel
theorem d_La_law_456 : decode code 456 = .ok (.iload 4, 2) := by decide +kernel
theorem d_La_law_458 : decode code 458 = .ok (.iconst 1, 1) := by decide +kernel
theorem d_La_law_459 : decode code 459 = .ok (.iadd, 1) := by decide +kernel
theorem d_La_law_460 : decode code 460 = .ok (.iaload, 1) := by decide +kernel
theorem d_La_law_461 : decode code 461 = .ok (.invokevirtual 95, 3) := by decide +kernel
theorem d_La_law_464 : decode code 464 = .ok (.istore 6, 2) := by decide +kernel
theorem d_La_law_466 : decode code 466 = .ok (.goto 176, 3) := by decide +kernel
theorem d_La_law_469 : decode code 469 = .ok (.aload_n 1, 1) := by decide +kernel
theorem d_La_law_470 : decode code 470 = .ok (.aload_n 0, 1) := by decide +kernel
theorem d_La_law_471 : decode code 471 = .ok (.iload 4, 2) := by decide +kernel
theorem d_La_law_473 : decode code 473 = .ok (.iconst 1, 1) := by decide +kernel
theorem d_La_law_474 : decode code 474 = .ok (.iadd, 1) := by decide +kernel
theorem d_La_law_475 : decode code 475 = .ok (.iaload, 1) := by decide +kernel
theorem d_La_law_476 : decode code 476 = .ok (.aload_n 3, 1) := by decide +kernel
theorem d_La_law_477 : decode code 477 = .ok (.invokestatic 96, 3) := by decide +kernel
theorem d_La_law_480 : decode code 480 = .ok (.istore 5, 2) := by decide +kernel
theorem d_La_law_482 : decode code 482 = .ok (.aload_n 2, 1) := by decide +kernel
theorem d_La_law_483 : decode code 483 = .ok (.aload_n 0, 1) := by decide +kernel
theorem d_La_law_484 : decode code 484 = .ok (.iload 4, 2) := by decide +kernel
theorem d_La_law_486 : decode code 486 = .ok (.iconst 1, 1) := by decide +kernel
theorem d_La_law_487 : decode code 487 = .ok (.iadd, 1) := by decide +kernel
theorem d_La_law_488 : decode code 488 = .ok (.iaload, 1) := by decide +kernel
theorem d_La_law_489 : decode code 489 = .ok (.invokevirtual 98, 3) := by decide +kernel
theorem d_La_law_492 : decode code 492 = .ok (.istore 6, 2) := by decide +kernel
theorem d_La_law_494 : decode code 494 = .ok (.goto 148, 3) := by decide +kernel
theorem d_La_law_497 : decode code 497 = .ok (.aload_n 1, 1) := by decide +kernel
theorem d_La_law_498 : decode code 498 = .ok (.aload_n 0, 1) := by decide +kernel
theorem d_La_law_499 : decode code 499 = .ok (.iload 4, 2) := by decide +kernel
theorem d_La_law_501 : decode code 501 = .ok (.iconst 1, 1) := by decide +kernel
theorem d_La_law_502 : decode code 502 = .ok (.iadd, 1) := by decide +kernel
theorem d_La_law_503 : decode code 503 = .ok (.iaload, 1) := by decide +kernel
theorem d_La_law_504 : decode code 504 = .ok (.aload_n 3, 1) := by decide +kernel
theorem d_La_law_505 : decode code 505 = .ok (.invokestatic 99, 3) := by decide +kernel
theorem d_La_law_508 : decode code 508 = .ok (.istore 5, 2) := by decide +kernel
theorem d_La_law_510 : decode code 510 = .ok (.aload_n 2, 1) := by decide +kernel
theorem d_La_law_511 : decode code 511 = .ok (.aload_n 0, 1) := by decide +kernel
theorem d_La_law_512 : decode code 512 = .ok (.iload 4, 2) := by decide +kernel
theorem d_La_law_514 : decode code 514 = .ok (.iconst 1, 1) := by decide +kernel
theorem d_La_law_515 : decode code 515 = .ok (.iadd, 1) := by decide +kernel
theorem d_La_law_516 : decode code 516 = .ok (.iaload, 1) := by decide +kernel
theorem d_La_law_517 : decode code 517 = .ok (.invokevirtual 101, 3) := by decide +kernel
theorem d_La_law_520 : decode code 520 = .ok (.istore 6, 2) := by decide +kernel
theorem d_La_law_522 : decode code 522 = .ok (.goto 120, 3) := by decide +kernel
theorem d_La_law_525 : decode code 525 = .ok (.aload_n 1, 1) := by decide +kernel
theorem d_La_law_526 : decode code 526 = .ok (.aload_n 0, 1) := by decide +kernel
theorem d_La_law_527 : decode code 527 = .ok (.iload 4, 2) := by decide +kernel
theorem d_La_law_529 : decode code 529 = .ok (.iconst 1, 1) := by decide +kernel
theorem d_La_law_530 : decode code 530 = .ok (.iadd, 1) := by decide +kernel
theorem d_La_law_531 : decode code 531 = .ok (.iaload, 1) := by decide +kernel
theorem d_La_law_532 : decode code 532 = .ok (.aload_n 0, 1) := by decide +kernel
theorem d_La_law_533 : decode code 533 = .ok (.iload 4, 2) := by decide +kernel
theorem d_La_law_535 : decode code 535 = .ok (.iconst 2, 1) := by decide +kernel
theorem d_La_law_536 : decode code 536 = .ok (.iadd, 1) := by decide +kernel
