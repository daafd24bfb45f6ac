theorem d_Law_law_715 : decode code 715 = .ok (.invokevirtual 92, 3) := by decide +kernel
theorem d_Law_law_718 : decode code 718 = .ok (.iload 5, 2) := by decide +kernel
theorem d_Law_law_720 : decode code 720 = .ok (.if_icmp .eq 5, 3) := by decide +kernel
theorem d_Law_law_723 : decode code 723 = .ok (.iconst 0, 1) := by decide +kernel
theorem d_Law_law_724 : decode code 724 = .ok (.ireturn, 1) := by decide +kernel
theorem d_Law_law_725 : decode code 725 = .ok (.iload 5, 2) := by decide +kernel
theorem d_Law_law_727 : decode code 727 = .ok (.ifCond .ne 22, 3) := by decide +kernel
theorem d_Law_law_730 : decode code 730 = .ok (.aload_n 3, 1) := by decide +kernel
theorem d_Law_law_731 : decode code 731 = .ok (.iconst 0, 1) := by decide +kernel
theorem d_Law_law_732 : decode code 732 = .ok (.laload, 1) := by decide +kernel
theorem d_Law_law_733 : decode code 733 = .ok (.iload 6, 2) := by decide +kernel
theorem d_Law_law_735 : decode code 735 = .ok (.ifCond .eq 7, 3) := by decide +kernel
theorem d_Law_law_738 : decode code 738 = .ok (.lconst 1, 1) := by decide +kernel
theorem d_Law_law_739 : decode code 739 = .ok (.goto 4, 3) := by decide +kernel
theorem d_Law_law_742 : decode code 742 = .ok (.lconst 0, 1) := by decide +kernel
theorem d_Law_law_743 : decode code 743 = .ok (.lcmp, 1) := by decide +kernel
theorem d_Law_law_744 : decode code 744 = .ok (.ifCond .eq 5, 3) := by decide +kernel
theorem d_Law_law_747 : decode code 747 = .ok (.iconst 0, 1) := by decide +kernel
theorem d_Law_law_748 : decode code 748 = .ok (.ireturn, 1) := by decide +kernel
theorem d_Law_law_749 : decode code 749 = .ok (.goto 598, 3) := by decide +kernel
theorem d_Law_law_752 : decode code 752 = .ok (.aload_n 1, 1) := by decide +kernel
theorem d_Law_law_753 : decode code 753 = .ok (.aload_n 0, 1) := by decide +kernel
theorem d_Law_law_754 : decode code 754 = .ok (.iload 4, 2) := by decide +kernel
theorem d_Law_law_756 : decode code 756 = .ok (.iconst 1, 1) := by decide +kernel
theorem d_Law_law_757 : decode code 757 = .ok (.iadd, 1) := by decide +kernel
theorem d_Law_law_758 : decode code 758 = .ok (.iaload, 1) := by decide +kernel
theorem d_Law_law_759 : decode code 759 = .ok (.aload_n 0, 1) := by decide +kernel
theorem d_Law_law_760 : decode code 760 = .ok (.iload 4, 2) := by decide +kernel
theorem d_Law_law_762 : decode code 762 = .ok (.iconst 2, 1) := by decide +kernel
theorem d_Law_law_763 : decode code 763 = .ok (.iadd, 1) := by decide +kernel
theorem d_Law_law_764 : decode code 764 = .ok (.iaload, 1) := by decide +kernel
theorem d_Law_law_765 : decode code 765 = .ok (.aload_n 3, 1) := by decide +kernel
theorem d_Law_law_766 : decode code 766 = .ok (.invokestatic 120, 3) := by decide +kernel
theorem d_Law_law_769 : decode code 769 = .ok (.istore 5, 2) := by decide +kernel
theorem d_Law_law_771 : decode code 771 = .ok (.aload_n 2, 1) := by decide +kernel
theorem d_Law_law_772 : decode code 772 = .ok (.aload_n 0, 1) := by decide +kernel
theorem d_Law_law_773 : decode code 773 = .ok (.iload 4, 2) := by decide +kernel
theorem d_Law_law_775 : decode code 775 = .ok (.iconst 1, 1) := by decide +kernel
theorem d_Law_law_776 : decode code 776 = .ok (.iadd, 1) := by decide +kernel
theorem d_Law_law_777 : decode code 777 = .ok (.iaload, 1) := by decide +kernel
theorem d_Law_law_778 : decode code 778 = .ok (.aload_n 0, 1) := by decide +kernel
theorem d_Law_law_779 : decode code 779 = .ok (.iload 4, 2) := by decide +kernel
theorem d_Law_law_781 : decode code 781 = .ok (.iconst 2, 1) := by decide +kernel
theorem d_Law_law_782 : decode code 782 = .ok (.iadd, 1) := by decide +kernel
theorem d_Law_law_783 : decode code 783 = .ok (.iaload, 1) := by decide +kernel
theorem d_Law_law_784 : decode code 784 = .ok (.invokevirtual 122, 3) := by decide +kernel
theorem d_Law_law_787 : decode code 787 = .ok (.istore 6, 2) := by decide +kernel
theorem d_Law_law_789 : decode code 789 = .ok (.aload_n 2, 1) := by decide +kernel
theorem d_Law_law_790 : decode code 790 = .ok (.invokevirtual 92, 3) := by decide +kernel
theorem d_Law_law_793 : decode code 793 = .ok (.iload 5, 2) := by decide +kernel
theorem d_Law_law_795 : decode code 795 = .ok (.if_icmp .eq 5, 3) := by decide +kernel
theorem d_Law_law_798 : decode code 798 = .ok (.iconst 0, 1) := by decide +kernel
theorem d_Law_law_799 : decode code 799 = .ok (.ireturn, 1) := by decide +kernel
theorem d_Law_law_800 : decode code 800 = .ok (.iload 5, 2) := by decide +kernel
theorem d_Law_law_802 : decode code 802 = .ok (.ifCond .ne 15, 3) := by decide +kernel
theorem d_Law_law_805 : decode code 805 = .ok (.aload_n 3, 1) := by decide +kernel
theorem d_Law_law_806 : decode code 806 = .ok (.iconst 0, 1) := by decide +kernel
theorem d_Law_law_807 : decode code 807 = .ok (.laload, 1) := by decide +kernel
theorem d_Law_law_808 : decode code 808 = .ok (.iload 6, 2) := by decide +kernel
theorem d_Law_law_810 : decode code 810 = .ok (.i2l, 1) := by decide +kernel
