theorem d_La_law_389 : decode code 389 = .ok (.iconst 0, 1) := by decide +kernel
theorem d_La_law_390 : decode code 390 = .ok (.ireturn, 1) := by decide +kernel
theorem d_La_law_391 : decode code 391 = .ok (.goto 531, 3) := by decide +kernel
theorem d_La_law_394 : decode code 394 = .ok (.aload_n 1, 1) := by decide +kernel
theorem d_La_law_395 : decode code 395 = .ok (.aload_n 0, 1) := by decide +kernel
theorem d_La_law_396 : decode code 396 = .ok (.iload 4, 2) := by decide +kernel
theorem d_La_law_398 : decode code 398 = .ok (.iconst 1, 1) := by decide +kernel
theorem d_La_law_399 : decode code 399 = .ok (.iadd, 1) := by decide +kernel
theorem d_La_law_400 : decode code 400 = .ok (.iaload, 1) := by decide +kernel
theorem d_La_law_401 : decode code 401 = .ok (.aload_n 0, 1) := by decide +kernel
theorem d_La_law_402 : decode code 402 = .ok (.iload 4, 2) := by decide +kernel
theorem d_La_law_404 : decode code 404 = .ok (.iconst 2, 1) := by decide +kernel
theorem d_La_law_405 : decode code 405 = .ok (.iadd, 1) := by decide +kernel
theorem d_La_law_406 : decode code 406 = .ok (.iaload, 1) := by decide +kernel
theorem d_La_law_407 : decode code 407 = .ok (.aload_n 0, 1) := by decide +kernel
theorem d_La_law_408 : decode code 408 = .ok (.iload 4, 2) := by decide +kernel
theorem d_La_law_410 : decode code 410 = .ok (.iconst 3, 1) := by decide +kernel
theorem d_La_law_411 : decode code 411 = .ok (.iadd, 1) := by decide +kernel
theorem d_La_law_412 : decode code 412 = .ok (.iaload, 1) := by decide +kernel
theorem d_La_law_413 : decode code 413 = .ok (.aload_n 0, 1) := by decide +kernel
theorem d_La_law_414 : decode code 414 = .ok (.iload 4, 2) := by decide +kernel
theorem d_La_law_416 : decode code 416 = .ok (.iconst 4, 1) := by decide +kernel
theorem d_La_law_417 : decode code 417 = .ok (.iadd, 1) := by decide +kernel
theorem d_La_law_418 : decode code 418 = .ok (.iaload, 1) := by decide +kernel
theorem d_La_law_419 : decode code 419 = .ok (.aload_n 3, 1) := by decide +kernel
theorem d_La_law_420 : decode code 420 = .ok (.invokestatic 80, 3) := by decide +kernel
theorem d_La_law_423 : decode code 423 = .ok (.istore 5, 2) := by decide +kernel
theorem d_La_law_425 : decode code 425 = .ok (.aload_n 2, 1) := by decide +kernel
theorem d_La_law_426 : decode code 426 = .ok (.aload_n 0, 1) := by decide +kernel
theorem d_La_law_427 : decode code 427 = .ok (.iload 4, 2) := by decide +kernel
theorem d_La_law_429 : decode code 429 = .ok (.iconst 1, 1) := by decide +kernel
theorem d_La_law_430 : decode code 430 = .ok (.iadd, 1) := by decide +kernel
theorem d_La_law_431 : decode code 431 = .ok (.iaload, 1) := by decide +kernel
theorem d_La_law_432 : decode code 432 = .ok (.aload_n 0, 1) := by decide +kernel
theorem d_La_law_433 : decode code 433 = .ok (.iload 4, 2) := by decide +kernel
theorem d_La_law_435 : decode code 435 = .ok (.iconst 2, 1) := by decide +kernel
theorem d_La_law_436 : decode code 436 = .ok (.iadd, 1) := by decide +kernel
theorem d_La_law_437 : decode code 437 = .ok (.iaload, 1) := by decide +kernel
theorem d_La_law_438 : decode code 438 = .ok (.aload_n 0, 1) := by decide +kernel
theorem d_La_law_439 : decode code 439 = .ok (.iload 4, 2) := by decide +kernel
theorem d_La_law_441 : decode code 441 = .ok (.iconst 3, 1) := by decide +kernel
theorem d_La_law_442 : decode code 442 = .ok (.iadd, 1) := by decide +kernel
theorem d_La_law_443 : decode code 443 = .ok (.iaload, 1) := by decide +kernel
theorem d_La_law_444 : decode code 444 = .ok (.aload_n 0, 1) := by decide +kernel
theorem d_La_law_445 : decode code 445 = .ok (.iload 4, 2) := by decide +kernel
theorem d_La_law_447 : decode code 447 = .ok (.iconst 4, 1) := by decide +kernel
theorem d_La_law_448 : decode code 448 = .ok (.iadd, 1) := by decide +kernel
theorem d_La_law_449 : decode code 449 = .ok (.iaload, 1) := by decide +kernel
theorem d_La_law_450 : decode code 450 = .ok (.invokevirtual 83, 3) := by decide +kernel
theorem d_La_law_453 : decode code 453 = .ok (.istore 6, 2) := by decide +kernel
theorem d_La_law_455 : decode code 455 = .ok (.aload_n 2, 1) := by decide +kernel
theorem d_La_law_456 : decode code 456 = .ok (.invokevirtual 68, 3) := by decide +kernel
theorem d_La_law_459 : decode code 459 = .ok (.iload 5, 2) := by decide +kernel
theorem d_La_law_461 : decode code 461 = .ok (.if_icmp .eq 5, 3) := by decide +kernel
theorem d_La_law_464 : decode code 464 = .ok (.iconst 0, 1) := by decide +kernel
theorem d_La_law_465 : decode code 465 = .ok (.ireturn, 1) := by decide +kernel
theorem d_La_law_466 : decode code 466 = .ok (.iload 5, 2) := by decide +kernel
theorem d_La_law_468 : decode code 468 = .ok (.ifCond .ne 15, 3) := by decide +kernel
theorem d_La_law_471 : decode code 471 = .ok (.aload_n 3, 1) := by decide +kernel
theorem d_La_law_472 : decode code 472 = .ok (.iconst 0, 1) := by decide +kernel
theorem d_La_law_473 : decode code 473 = .ok (.laload, 1) := by decide +kernel
theorem d_La_law_474 : decode code 474 = .ok (.iload 6, 2) := by decide +kernel
theorem d_La_law_476 : decode code 476 = .ok (.i2l, 1) := by decide +kernel
theorem d_La_law_477 : decode code 477 = .ok (.lcmp, 1) := by decide +kernel
theorem d_La_law_478 : decode code 478 = .ok (.ifCond .eq 5, 3) := by decide +kernel
theorem d_La_law_481 : decode code 481 = .ok (.iconst 0, 1) := by decide +kernel
theorem d_La_law_482 : decode code 482 = .ok (.ireturn, 1) := by decide +kernel
theorem d_La_law_483 : decode code 483 = .ok (.goto 439, 3) := by decide +kernel
theorem d_La_law_486 : decode code 486 = .ok (.aload_n 1, 1) := by decide +kernel
theorem d_La_law_487 : decode code 487 = .ok (.invokevirtual 84, 3) := by decide +kernel
theorem d_La_law_490 : decode code 490 = .ok (.aload_n 2, 1) := by decide +kernel
theorem d_La_law_491 : decode code 491 = .ok (.invokevirtual 87, 3) := by decide +kernel
theorem d_La_law_494 : decode code 494 = .ok (.if_icmp .eq 428, 3) := by decide +kernel
theorem d_La_law_497 : decode code 497 = .ok (.iconst 0, 1) := by decide +kernel
theorem d_La_law_498 : decode code 498 = .ok (.ireturn, 1) := by decide +kernel
theorem d_La_law_499 : decode code 499 = .ok (.aload_n 1, 1) := by decide +kernel
theorem d_La_law_500 : decode code 500 = .ok (.aload_n 0, 1) := by decide +kernel
theorem d_La_law_501 : decode code 501 = .ok (.iload 4, 2) := by decide +kernel
theorem d_La_law_503 : decode code 503 = .ok (.iconst 1, 1) := by decide +kernel
theorem d_La_law_504 : decode code 504 = .ok (.iadd, 1) := by decide +kernel
theorem d_La_law_505 : decode code 505 = .ok (.iaload, 1) := by decide +kernel
theorem d_La_law_506 : decode code 506 = .ok (.aload_n 0, 1) := by decide +kernel
theorem d_La_law_507 : decode code 507 = .ok (.iload 4, 2) := by decide +kernel
theorem d_La_law_509 : decode code 509 = .ok (.iconst 2, 1) := by decide +kernel
theorem d_La_law_510 : decode code 510 = .ok (.iadd, 1) := by decide +kernel
theorem d_La_law_511 : decode code 511 = .ok (.iaload, 1) := by decide +kernel
theorem d_La_law_512 : decode code 512 = .ok (.aload_n 3, 1) := by decide +kernel
theorem d_La_law_513 : decode code 513 = .ok (.invokestatic 88, 3) := by decide +kernel
theorem d_La_law_516 : decode code 516 = .ok (.istore 5, 2) := by decide +kernel
theorem d_La_law_518 : decode code 518 = .ok (.aload_n 2, 1) := by decide +kernel
theorem d_La_law_519 : decode code 519 = .ok (.aload_n 0, 1) := by decide +kernel
theorem d_La_law_520 : decode code 520 = .ok (.iload 4, 2) := by decide +kernel
theorem d_La_law_522 : decode code 522 = .ok (.iconst 1, 1) := by decide +kernel
theorem d_La_law_523 : decode code 523 = .ok (.iadd, 1) := by decide +kernel
theorem d_La_law_524 : decode code 524 = .ok (.iaload, 1) := by decide +kernel
theorem d_La_law_525 : decode code 525 = .ok (.aload_n 0, 1) := by decide +kernel
theorem d_La_law_526 : decode code 526 = .ok (.iload 4, 2) := by decide +kernel
theorem d_La_law_528 : decode code 528 = .ok (.iconst 2, 1) := by decide +kernel
theorem d_La_law_529 : decode code 529 = .ok (.iadd, 1) := by decide +kernel
theorem d_La_law_530 : decode code 530 = .ok (.iaload, 1) := by decide +kernel
theorem d_La_law_531 : decode code 531 = .ok (.invokevirtual 91, 3) := by decide +kernel
theorem d_La_law_534 : decode code 534 = .ok (.istore 6, 2) := by decide +kernel
theorem d_La_law_536 : decode code 536 = .ok (.aload_n 2, 1) := by decide +kernel
theorem d_La_law_537 : decode code 537 = .ok (.invokevirtual 68, 3) := by decide +kernel
theorem d_La_law_540 : decode code 540 = .ok (.iload 5, 2) := by decide +kernel
theorem d_La_law_542 : decode code 542 = .ok (.if_icmp .eq 5, 3) := by decide +kernel
theorem d_La_law_545 : decode code 545 = .ok (.iconst 0, 1) := by decide +kernel
theorem d_La_law_546 : decode code 546 = .ok (.ireturn, 1) := by decide +kernel
theorem d_La_law_547 : decode code 547 = .ok (.iload 5, 2) := by decide +kernel
theorem d_La_law_549 : decode code 549 = .ok (.ifCond .ne 15, 3) := by decide +kernel
