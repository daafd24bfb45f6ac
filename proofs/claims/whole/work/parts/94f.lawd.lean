theorem d_Law_law_618 : decode code 618 = .ok (.ifCond .eq 5, 3) := by decide +kernel
theorem d_Law_law_621 : decode code 621 = .ok (.iconst 0, 1) := by decide +kernel
theorem d_Law_law_622 : decode code 622 = .ok (.ireturn, 1) := by decide +kernel
theorem d_Law_law_623 : decode code 623 = .ok (.goto 724, 3) := by decide +kernel
theorem d_Law_law_626 : decode code 626 = .ok (.aload_n 1, 1) := by decide +kernel
theorem d_Law_law_627 : decode code 627 = .ok (.aload_n 0, 1) := by decide +kernel
theorem d_Law_law_628 : decode code 628 = .ok (.iload 4, 2) := by decide +kernel
theorem d_Law_law_630 : decode code 630 = .ok (.iconst 1, 1) := by decide +kernel
theorem d_Law_law_631 : decode code 631 = .ok (.iadd, 1) := by decide +kernel
theorem d_Law_law_632 : decode code 632 = .ok (.iaload, 1) := by decide +kernel
theorem d_Law_law_633 : decode code 633 = .ok (.aload_n 3, 1) := by decide +kernel
theorem d_Law_law_634 : decode code 634 = .ok (.invokestatic 114, 3) := by decide +kernel
theorem d_Law_law_637 : decode code 637 = .ok (.istore 5, 2) := by decide +kernel
theorem d_Law_law_639 : decode code 639 = .ok (.aload_n 2, 1) := by decide +kernel
theorem d_Law_law_640 : decode code 640 = .ok (.aload_n 0, 1) := by decide +kernel
theorem d_Law_law_641 : decode code 641 = .ok (.iload 4, 2) := by decide +kernel
theorem d_Law_law_643 : decode code 643 = .ok (.iconst 1, 1) := by decide +kernel
theorem d_Law_law_644 : decode code 644 = .ok (.iadd, 1) := by decide +kernel
theorem d_Law_law_645 : decode code 645 = .ok (.iaload, 1) := by decide +kernel
theorem d_Law_law_646 : decode code 646 = .ok (.invokevirtual 116, 3) := by decide +kernel
theorem d_Law_law_649 : decode code 649 = .ok (.istore 6, 2) := by decide +kernel
theorem d_Law_law_651 : decode code 651 = .ok (.aload_n 2, 1) := by decide +kernel
theorem d_Law_law_652 : decode code 652 = .ok (.invokevirtual 92, 3) := by decide +kernel
theorem d_Law_law_655 : decode code 655 = .ok (.iload 5, 2) := by decide +kernel
theorem d_Law_law_657 : decode code 657 = .ok (.if_icmp .eq 5, 3) := by decide +kernel
theorem d_Law_law_660 : decode code 660 = .ok (.iconst 0, 1) := by decide +kernel
theorem d_Law_law_661 : decode code 661 = .ok (.ireturn, 1) := by decide +kernel
theorem d_Law_law_662 : decode code 662 = .ok (.iload 5, 2) := by decide +kernel
theorem d_Law_law_664 : decode code 664 = .ok (.ifCond .ne 22, 3) := by decide +kernel
theorem d_Law_law_667 : decode code 667 = .ok (.aload_n 3, 1) := by decide +kernel
theorem d_Law_law_668 : decode code 668 = .ok (.iconst 0, 1) := by decide +kernel
theorem d_Law_law_669 : decode code 669 = .ok (.laload, 1) := by decide +kernel
theorem d_Law_law_670 : decode code 670 = .ok (.iload 6, 2) := by decide +kernel
theorem d_Law_law_672 : decode code 672 = .ok (.ifCond .eq 7, 3) := by decide +kernel
theorem d_Law_law_675 : decode code 675 = .ok (.lconst 1, 1) := by decide +kernel
theorem d_Law_law_676 : decode code 676 = .ok (.goto 4, 3) := by decide +kernel
theorem d_Law_law_679 : decode code 679 = .ok (.lconst 0, 1) := by decide +kernel
theorem d_Law_law_680 : decode code 680 = .ok (.lcmp, 1) := by decide +kernel
theorem d_Law_law_681 : decode code 681 = .ok (.ifCond .eq 5, 3) := by decide +kernel
theorem d_Law_law_684 : decode code 684 = .ok (.iconst 0, 1) := by decide +kernel
theorem d_Law_law_685 : decode code 685 = .ok (.ireturn, 1) := by decide +kernel
theorem d_Law_law_686 : decode code 686 = .ok (.goto 661, 3) := by decide +kernel
theorem d_Law_law_689 : decode code 689 = .ok (.aload_n 1, 1) := by decide +kernel
theorem d_Law_law_690 : decode code 690 = .ok (.aload_n 0, 1) := by decide +kernel
theorem d_Law_law_691 : decode code 691 = .ok (.iload 4, 2) := by decide +kernel
theorem d_Law_law_693 : decode code 693 = .ok (.iconst 1, 1) := by decide +kernel
theorem d_Law_law_694 : decode code 694 = .ok (.iadd, 1) := by decide +kernel
theorem d_Law_law_695 : decode code 695 = .ok (.iaload, 1) := by decide +kernel
theorem d_Law_law_696 : decode code 696 = .ok (.aload_n 3, 1) := by decide +kernel
theorem d_Law_law_697 : decode code 697 = .ok (.invokestatic 117, 3) := by decide +kernel
theorem d_Law_law_700 : decode code 700 = .ok (.istore 5, 2) := by decide +kernel
theorem d_Law_law_702 : decode code 702 = .ok (.aload_n 2, 1) := by decide +kernel
theorem d_Law_law_703 : decode code 703 = .ok (.aload_n 0, 1) := by decide +kernel
theorem d_Law_law_704 : decode code 704 = .ok (.iload 4, 2) := by decide +kernel
theorem d_Law_law_706 : decode code 706 = .ok (.iconst 1, 1) := by decide +kernel
theorem d_Law_law_707 : decode code 707 = .ok (.iadd, 1) := by decide +kernel
theorem d_Law_law_708 : decode code 708 = .ok (.iaload, 1) := by decide +kernel
theorem d_Law_law_709 : decode code 709 = .ok (.invokevirtual 119, 3) := by decide +kernel
theorem d_Law_law_712 : decode code 712 = .ok (.istore 6, 2) := by decide +kernel
theorem d_Law_law_714 : decode code 714 = .ok (.aload_n 2, 1) := by decide +kernel
