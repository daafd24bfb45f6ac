theorem d_Law_law_523 : decode code 523 = .ok (.ireturn, 1) := by decide +kernel
theorem d_Law_law_524 : decode code 524 = .ok (.iload 5, 2) := by decide +kernel
theorem d_Law_law_526 : decode code 526 = .ok (.ifCond .ne 22, 3) := by decide +kernel
theorem d_Law_law_529 : decode code 529 = .ok (.aload_n 3, 1) := by decide +kernel
theorem d_Law_law_530 : decode code 530 = .ok (.iconst 0, 1) := by decide +kernel
theorem d_Law_law_531 : decode code 531 = .ok (.laload, 1) := by decide +kernel
theorem d_Law_law_532 : decode code 532 = .ok (.iload 6, 2) := by decide +kernel
theorem d_Law_law_534 : decode code 534 = .ok (.ifCond .eq 7, 3) := by decide +kernel
theorem d_Law_law_537 : decode code 537 = .ok (.lconst 1, 1) := by decide +kernel
theorem d_Law_law_538 : decode code 538 = .ok (.goto 4, 3) := by decide +kernel
theorem d_Law_law_541 : decode code 541 = .ok (.lconst 0, 1) := by decide +kernel
theorem d_Law_law_542 : decode code 542 = .ok (.lcmp, 1) := by decide +kernel
theorem d_Law_law_543 : decode code 543 = .ok (.ifCond .eq 5, 3) := by decide +kernel
theorem d_Law_law_546 : decode code 546 = .ok (.iconst 0, 1) := by decide +kernel
theorem d_Law_law_547 : decode code 547 = .ok (.ireturn, 1) := by decide +kernel
theorem d_Law_law_548 : decode code 548 = .ok (.goto 799, 3) := by decide +kernel
theorem d_Law_law_551 : decode code 551 = .ok (.aload_n 1, 1) := by decide +kernel
theorem d_Law_law_552 : decode code 552 = .ok (.aload_n 0, 1) := by decide +kernel
theorem d_Law_law_553 : decode code 553 = .ok (.iload 4, 2) := by decide +kernel
theorem d_Law_law_555 : decode code 555 = .ok (.iconst 1, 1) := by decide +kernel
theorem d_Law_law_556 : decode code 556 = .ok (.iadd, 1) := by decide +kernel
theorem d_Law_law_557 : decode code 557 = .ok (.iaload, 1) := by decide +kernel
theorem d_Law_law_558 : decode code 558 = .ok (.aload_n 0, 1) := by decide +kernel
theorem d_Law_law_559 : decode code 559 = .ok (.iload 4, 2) := by decide +kernel
theorem d_Law_law_561 : decode code 561 = .ok (.iconst 2, 1) := by decide +kernel
theorem d_Law_law_562 : decode code 562 = .ok (.iadd, 1) := by decide +kernel
theorem d_Law_law_563 : decode code 563 = .ok (.iaload, 1) := by decide +kernel
theorem d_Law_law_564 : decode code 564 = .ok (.aload_n 3, 1) := by decide +kernel
theorem d_Law_law_565 : decode code 565 = .ok (.invokestatic 110, 3) := by decide +kernel
theorem d_Law_law_568 : decode code 568 = .ok (.istore 5, 2) := by decide +kernel
theorem d_Law_law_570 : decode code 570 = .ok (.aload_n 2, 1) := by decide +kernel
theorem d_Law_law_571 : decode code 571 = .ok (.aload_n 0, 1) := by decide +kernel
theorem d_Law_law_572 : decode code 572 = .ok (.iload 4, 2) := by decide +kernel
theorem d_Law_law_574 : decode code 574 = .ok (.iconst 1, 1) := by decide +kernel
theorem d_Law_law_575 : decode code 575 = .ok (.iadd, 1) := by decide +kernel
theorem d_Law_law_576 : decode code 576 = .ok (.iaload, 1) := by decide +kernel
theorem d_Law_law_577 : decode code 577 = .ok (.aload_n 0, 1) := by decide +kernel
theorem d_Law_law_578 : decode code 578 = .ok (.iload 4, 2) := by decide +kernel
theorem d_Law_law_580 : decode code 580 = .ok (.iconst 2, 1) := by decide +kernel
theorem d_Law_law_581 : decode code 581 = .ok (.iadd, 1) := by decide +kernel
theorem d_Law_law_582 : decode code 582 = .ok (.iaload, 1) := by decide +kernel
theorem d_Law_law_583 : decode code 583 = .ok (.invokevirtual 113, 3) := by decide +kernel
theorem d_Law_law_586 : decode code 586 = .ok (.istore 6, 2) := by decide +kernel
theorem d_Law_law_588 : decode code 588 = .ok (.aload_n 2, 1) := by decide +kernel
theorem d_Law_law_589 : decode code 589 = .ok (.invokevirtual 92, 3) := by decide +kernel
theorem d_Law_law_592 : decode code 592 = .ok (.iload 5, 2) := by decide +kernel
theorem d_Law_law_594 : decode code 594 = .ok (.if_icmp .eq 5, 3) := by decide +kernel
theorem d_Law_law_597 : decode code 597 = .ok (.iconst 0, 1) := by decide +kernel
theorem d_Law_law_598 : decode code 598 = .ok (.ireturn, 1) := by decide +kernel
theorem d_Law_law_599 : decode code 599 = .ok (.iload 5, 2) := by decide +kernel
theorem d_Law_law_601 : decode code 601 = .ok (.ifCond .ne 22, 3) := by decide +kernel
theorem d_Law_law_604 : decode code 604 = .ok (.aload_n 3, 1) := by decide +kernel
theorem d_Law_law_605 : decode code 605 = .ok (.iconst 0, 1) := by decide +kernel
theorem d_Law_law_606 : decode code 606 = .ok (.laload, 1) := by decide +kernel
theorem d_Law_law_607 : decode code 607 = .ok (.iload 6, 2) := by decide +kernel
theorem d_Law_law_609 : decode code 609 = .ok (.ifCond .eq 7, 3) := by decide +kernel
theorem d_Law_law_612 : decode code 612 = .ok (.lconst 1, 1) := by decide +kernel
theorem d_Law_law_613 : decode code 613 = .ok (.goto 4, 3) := by decide +kernel
theorem d_Law_law_616 : decode code 616 = .ok (.lconst 0, 1) := by decide +kernel
theorem d_Law_law_617 : decode code 617 = .ok (.lcmp, 1) := by decide +kernel
