theorem d_Law_law_427 : decode code 427 = .ok (.aload_n 0, 1) := by decide +kernel
theorem d_Law_law_428 : decode code 428 = .ok (.iload 4, 2) := by decide +kernel
theorem d_Law_law_430 : decode code 430 = .ok (.iconst 1, 1) := by decide +kernel
theorem d_Law_law_431 : decode code 431 = .ok (.iadd, 1) := by decide +kernel
theorem d_Law_law_432 : decode code 432 = .ok (.iaload, 1) := by decide +kernel
theorem d_Law_law_433 : decode code 433 = .ok (.aload_n 0, 1) := by decide +kernel
theorem d_Law_law_434 : decode code 434 = .ok (.iload 4, 2) := by decide +kernel
theorem d_Law_law_436 : decode code 436 = .ok (.iconst 2, 1) := by decide +kernel
theorem d_Law_law_437 : decode code 437 = .ok (.iadd, 1) := by decide +kernel
theorem d_Law_law_438 : decode code 438 = .ok (.iaload, 1) := by decide +kernel
theorem d_Law_law_439 : decode code 439 = .ok (.aload_n 0, 1) := by decide +kernel
theorem d_Law_law_440 : decode code 440 = .ok (.iload 4, 2) := by decide +kernel
theorem d_Law_law_442 : decode code 442 = .ok (.iconst 3, 1) := by decide +kernel
theorem d_Law_law_443 : decode code 443 = .ok (.iadd, 1) := by decide +kernel
theorem d_Law_law_444 : decode code 444 = .ok (.iaload, 1) := by decide +kernel
theorem d_Law_law_445 : decode code 445 = .ok (.invokevirtual 105, 3) := by decide +kernel
theorem d_Law_law_448 : decode code 448 = .ok (.istore 6, 2) := by decide +kernel
theorem d_Law_law_450 : decode code 450 = .ok (.aload_n 2, 1) := by decide +kernel
theorem d_Law_law_451 : decode code 451 = .ok (.invokevirtual 92, 3) := by decide +kernel
theorem d_Law_law_454 : decode code 454 = .ok (.iload 5, 2) := by decide +kernel
theorem d_Law_law_456 : decode code 456 = .ok (.if_icmp .eq 5, 3) := by decide +kernel
theorem d_Law_law_459 : decode code 459 = .ok (.iconst 0, 1) := by decide +kernel
theorem d_Law_law_460 : decode code 460 = .ok (.ireturn, 1) := by decide +kernel
theorem d_Law_law_461 : decode code 461 = .ok (.iload 5, 2) := by decide +kernel
theorem d_Law_law_463 : decode code 463 = .ok (.ifCond .ne 22, 3) := by decide +kernel
theorem d_Law_law_466 : decode code 466 = .ok (.aload_n 3, 1) := by decide +kernel
theorem d_Law_law_467 : decode code 467 = .ok (.iconst 0, 1) := by decide +kernel
theorem d_Law_law_468 : decode code 468 = .ok (.laload, 1) := by decide +kernel
theorem d_Law_law_469 : decode code 469 = .ok (.iload 6, 2) := by decide +kernel
theorem d_Law_law_471 : decode code 471 = .ok (.ifCond .eq 7, 3) := by decide +kernel
theorem d_Law_law_474 : decode code 474 = .ok (.lconst 1, 1) := by decide +kernel
theorem d_Law_law_475 : decode code 475 = .ok (.goto 4, 3) := by decide +kernel
theorem d_Law_law_478 : decode code 478 = .ok (.lconst 0, 1) := by decide +kernel
theorem d_Law_law_479 : decode code 479 = .ok (.lcmp, 1) := by decide +kernel
theorem d_Law_law_480 : decode code 480 = .ok (.ifCond .eq 5, 3) := by decide +kernel
theorem d_Law_law_483 : decode code 483 = .ok (.iconst 0, 1) := by decide +kernel
theorem d_Law_law_484 : decode code 484 = .ok (.ireturn, 1) := by decide +kernel
theorem d_Law_law_485 : decode code 485 = .ok (.goto 862, 3) := by decide +kernel
theorem d_Law_law_488 : decode code 488 = .ok (.aload_n 1, 1) := by decide +kernel
theorem d_Law_law_489 : decode code 489 = .ok (.aload_n 0, 1) := by decide +kernel
theorem d_Law_law_490 : decode code 490 = .ok (.iload 4, 2) := by decide +kernel
theorem d_Law_law_492 : decode code 492 = .ok (.iconst 1, 1) := by decide +kernel
theorem d_Law_law_493 : decode code 493 = .ok (.iadd, 1) := by decide +kernel
theorem d_Law_law_494 : decode code 494 = .ok (.iaload, 1) := by decide +kernel
theorem d_Law_law_495 : decode code 495 = .ok (.aload_n 3, 1) := by decide +kernel
theorem d_Law_law_496 : decode code 496 = .ok (.invokestatic 106, 3) := by decide +kernel
theorem d_Law_law_499 : decode code 499 = .ok (.istore 5, 2) := by decide +kernel
theorem d_Law_law_501 : decode code 501 = .ok (.aload_n 2, 1) := by decide +kernel
theorem d_Law_law_502 : decode code 502 = .ok (.aload_n 0, 1) := by decide +kernel
theorem d_Law_law_503 : decode code 503 = .ok (.iload 4, 2) := by decide +kernel
theorem d_Law_law_505 : decode code 505 = .ok (.iconst 1, 1) := by decide +kernel
theorem d_Law_law_506 : decode code 506 = .ok (.iadd, 1) := by decide +kernel
theorem d_Law_law_507 : decode code 507 = .ok (.iaload, 1) := by decide +kernel
theorem d_Law_law_508 : decode code 508 = .ok (.invokevirtual 109, 3) := by decide +kernel
theorem d_Law_law_511 : decode code 511 = .ok (.istore 6, 2) := by decide +kernel
theorem d_Law_law_513 : decode code 513 = .ok (.aload_n 2, 1) := by decide +kernel
theorem d_Law_law_514 : decode code 514 = .ok (.invokevirtual 92, 3) := by decide +kernel
theorem d_Law_law_517 : decode code 517 = .ok (.iload 5, 2) := by decide +kernel
theorem d_Law_law_519 : decode code 519 = .ok (.if_icmp .eq 5, 3) := by decide +kernel
theorem d_Law_law_522 : decode code 522 = .ok (.iconst 0, 1) := by decide +kernel
