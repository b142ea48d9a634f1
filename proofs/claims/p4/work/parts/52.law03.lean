theorem d_La_law_377 : decode code 377 = .ok (.istore 5, 2) := by decide +kernel
theorem d_La_law_379 : decode code 379 = .ok (.aload_n 2, 1) := by decide +kernel
theorem d_La_law_380 : decode code 380 = .ok (.aload_n 0, 1) := by decide +kernel
theorem d_La_law_381 : decode code 381 = .ok (.iload 4, 2) := by decide +kernel
theorem d_La_law_383 : decode code 383 = .ok (.iconst 1, 1) := by decide +kernel
theorem d_La_law_384 : decode code 384 = .ok (.iadd, 1) := by decide +kernel
theorem d_La_law_385 : decode code 385 = .ok (.iaload, 1) := by decide +kernel
theorem d_La_law_386 : decode code 386 = .ok (.aload_n 0, 1) := by decide +kernel
theorem d_La_law_387 : decode code 387 = .ok (.iload 4, 2) := by decide +kernel
theorem d_La_law_389 : decode code 389 = .ok (.iconst 2, 1) := by decide +kernel
theorem d_La_law_390 : decode code 390 = .ok (.iadd, 1) := by decide +kernel
theorem d_La_law_391 : decode code 391 = .ok (.iaload, 1) := by decide +kernel
theorem d_La_law_392 : decode code 392 = .ok (.aload_n 0, 1) := by decide +kernel
theorem d_La_law_393 : decode code 393 = .ok (.iload 4, 2) := by decide +kernel
theorem d_La_law_395 : decode code 395 = .ok (.iconst 3, 1) := by decide +kernel
theorem d_La_law_396 : decode code 396 = .ok (.iadd, 1) := by decide +kernel
theorem d_La_law_397 : decode code 397 = .ok (.iaload, 1) := by decide +kernel
theorem d_La_law_398 : decode code 398 = .ok (.aload_n 0, 1) := by decide +kernel
theorem d_La_law_399 : decode code 399 = .ok (.iload 4, 2) := by decide +kernel
theorem d_La_law_401 : decode code 401 = .ok (.iconst 4, 1) := by decide +kernel
theorem d_La_law_402 : decode code 402 = .ok (.iadd, 1) := by decide +kernel
theorem d_La_law_403 : decode code 403 = .ok (.iaload, 1) := by decide +kernel
theorem d_La_law_404 : decode code 404 = .ok (.invokevirtual 83, 3) := by decide +kernel
theorem d_La_law_407 : decode code 407 = .ok (.istore 6, 2) := by decide +kernel
theorem d_La_law_409 : decode code 409 = .ok (.goto 257, 3) := by decide +kernel
theorem d_La_law_412 : decode code 412 = .ok (.aload_n 1, 1) := by decide +kernel
theorem d_La_law_413 : decode code 413 = .ok (.invokevirtual 84, 3) := by decide +kernel
theorem d_La_law_416 : decode code 416 = .ok (.pop, 1) := by decide +kernel
theorem d_La_law_417 : decode code 417 = .ok (.aload_n 2, 1) := by decide +kernel
theorem d_La_law_418 : decode code 418 = .ok (.invokevirtual 87, 3) := by decide +kernel
theorem d_La_law_421 : decode code 421 = .ok (.pop, 1) := by decide +kernel
theorem d_La_law_422 : decode code 422 = .ok (.goto 244, 3) := by decide +kernel
theorem d_La_law_425 : decode code 425 = .ok (.aload_n 1, 1) := by decide +kernel
theorem d_La_law_426 : decode code 426 = .ok (.aload_n 0, 1) := by decide +kernel
theorem d_La_law_427 : decode code 427 = .ok (.iload 4, 2) := by decide +kernel
theorem d_La_law_429 : decode code 429 = .ok (.iconst 1, 1) := by decide +kernel
theorem d_La_law_430 : decode code 430 = .ok (.iadd, 1) := by decide +kernel
theorem d_La_law_431 : decode code 431 = .ok (.iaload, 1) := by decide +kernel
theorem d_La_law_432 : decode code 432 = .ok (.aload_n 0, 1) := by decide +kernel
theorem d_La_law_433 : decode code 433 = .ok (.iload 4, 2) := by decide +kernel
theorem d_La_law_435 : decode code 435 = .ok (.iconst 2, 1) := by decide +kernel
theorem d_La_law_436 : decode code 436 = .ok (.iadd, 1) := by decide +kernel
theorem d_La_law_437 : decode code 437 = .ok (.iaload, 1) := by decide +kernel
theorem d_La_law_438 : decode code 438 = .ok (.aload_n 3, 1) := by decide +kernel
theorem d_La_law_439 : decode code 439 = .ok (.invokestatic 88, 3) := by decide +kernel
theorem d_La_law_442 : decode code 442 = .ok (.istore 5, 2) := by decide +kernel
theorem d_La_law_444 : decode code 444 = .ok (.aload_n 2, 1) := by decide +kernel
theorem d_La_law_445 : decode code 445 = .ok (.aload_n 0, 1) := by decide +kernel
theorem d_La_law_446 : decode code 446 = .ok (.iload 4, 2) := by decide +kernel
theorem d_La_law_448 : decode code 448 = .ok (.iconst 1, 1) := by decide +kernel
theorem d_La_law_449 : decode code 449 = .ok (.iadd, 1) := by decide +kernel
theorem d_La_law_450 : decode code 450 = .ok (.iaload, 1) := by decide +kernel
theorem d_La_law_451 : decode code 451 = .ok (.aload_n 0, 1) := by decide +kernel
theorem d_La_law_452 : decode code 452 = .ok (.iload 4, 2) := by decide +kernel
theorem d_La_law_454 : decode code 454 = .ok (.iconst 2, 1) := by decide +kernel
theorem d_La_law_455 : decode code 455 = .ok (.iadd, 1) := by decide +kernel
theorem d_La_law_456 : decode code 456 = .ok (.iaload, 1) := by decide +kernel
theorem d_La_law_457 : decode code 457 = .ok (.invokevirtual 91, 3) := by decide +kernel
theorem d_La_law_460 : decode code 460 = .ok (.istore 6, 2) := by decide +kernel
theorem d_La_law_462 : decode code 462 = .ok (.goto 204, 3) := by decide +kernel
theorem d_La_law_465 : decode code 465 = .ok (.aload_n 1, 1) := by decide +kernel
theorem d_La_law_466 : decode code 466 = .ok (.aload_n 0, 1) := by decide +kernel
theorem d_La_law_467 : decode code 467 = .ok (.iload 4, 2) := by decide +kernel
theorem d_La_law_469 : decode code 469 = .ok (.iconst 1, 1) := by decide +kernel
theorem d_La_law_470 : decode code 470 = .ok (.iadd, 1) := by decide +kernel
theorem d_La_law_471 : decode code 471 = .ok (.iaload, 1) := by decide +kernel
theorem d_La_law_472 : decode code 472 = .ok (.aload_n 3, 1) := by decide +kernel
theorem d_La_law_473 : decode code 473 = .ok (.invokestatic 92, 3) := by decide +kernel
theorem d_La_law_476 : decode code 476 = .ok (.istore 5, 2) := by decide +kernel
theorem d_La_law_478 : decode code 478 = .ok (.aload_n 2, 1) := by decide +kernel
theorem d_La_law_479 : decode code 479 = .ok (.aload_n 0, 1) := by decide +kernel
theorem d_La_law_480 : decode code 480 = .ok (.iload 4, 2) := by decide +kernel
theorem d_La_law_482 : decode code 482 = .ok (.iconst 1, 1) := by decide +kernel
theorem d_La_law_483 : decode code 483 = .ok (.iadd, 1) := by decide +kernel
theorem d_La_law_484 : decode code 484 = .ok (.iaload, 1) := by decide +kernel
theorem d_La_law_485 : decode code 485 = .ok (.invokevirtual 95, 3) := by decide +kernel
theorem d_La_law_488 : decode code 488 = .ok (.istore 6, 2) := by decide +kernel
theorem d_La_law_490 : decode code 490 = .ok (.goto 176, 3) := by decide +kernel
theorem d_La_law_493 : decode code 493 = .ok (.aload_n 1, 1) := by decide +kernel
theorem d_La_law_494 : decode code 494 = .ok (.aload_n 0, 1) := by decide +kernel
theorem d_La_law_495 : decode code 495 = .ok (.iload 4, 2) := by decide +kernel
theorem d_La_law_497 : decode code 497 = .ok (.iconst 1, 1) := by decide +kernel
theorem d_La_law_498 : decode code 498 = .ok (.iadd, 1) := by decide +kernel
theorem d_La_law_499 : decode code 499 = .ok (.iaload, 1) := by decide +kernel
theorem d_La_law_500 : decode code 500 = .ok (.aload_n 3, 1) := by decide +kernel
theorem d_La_law_501 : decode code 501 = .ok (.invokestatic 96, 3) := by decide +kernel
theorem d_La_law_504 : decode code 504 = .ok (.istore 5, 2) := by decide +kernel
theorem d_La_law_506 : decode code 506 = .ok (.aload_n 2, 1) := by decide +kernel
theorem d_La_law_507 : decode code 507 = .ok (.aload_n 0, 1) := by decide +kernel
theorem d_La_law_508 : decode code 508 = .ok (.iload 4, 2) := by decide +kernel
theorem d_La_law_510 : decode code 510 = .ok (.iconst 1, 1) := by decide +kernel
theorem d_La_law_511 : decode code 511 = .ok (.iadd, 1) := by decide +kernel
theorem d_La_law_512 : decode code 512 = .ok (.iaload, 1) := by decide +kernel
theorem d_La_law_513 : decode code 513 = .ok (.invokevirtual 98, 3) := by decide +kernel
theorem d_La_law_516 : decode code 516 = .ok (.istore 6, 2) := by decide +kernel
theorem d_La_law_518 : decode code 518 = .ok (.goto 148, 3) := by decide +kernel
theorem d_La_law_521 : decode code 521 = .ok (.aload_n 1, 1) := by decide +kernel
theorem d_La_law_522 : decode code 522 = .ok (.aload_n 0, 1) := by decide +kernel
theorem d_La_law_523 : decode code 523 = .ok (.iload 4, 2) := by decide +kernel
theorem d_La_law_525 : decode code 525 = .ok (.iconst 1, 1) := by decide +kernel
theorem d_La_law_526 : decode code 526 = .ok (.iadd, 1) := by decide +kernel
theorem d_La_law_527 : decode code 527 = .ok (.iaload, 1) := by decide +kernel
theorem d_La_law_528 : decode code 528 = .ok (.aload_n 3, 1) := by decide +kernel
theorem d_La_law_529 : decode code 529 = .ok (.invokestatic 99, 3) := by decide +kernel
theorem d_La_law_532 : decode code 532 = .ok (.istore 5, 2) := by decide +kernel
theorem d_La_law_534 : decode code 534 = .ok (.aload_n 2, 1) := by decide +kernel
theorem d_La_law_535 : decode code 535 = .ok (.aload_n 0, 1) := by decide +kernel
theorem d_La_law_536 : decode code 536 = .ok (.iload 4, 2) := by decide +kernel
theorem d_La_law_538 : decode code 538 = .ok (.iconst 1, 1) := by decide +kernel
theorem d_La_law_539 : decode code 539 = .ok (.iadd, 1) := by decide +kernel
