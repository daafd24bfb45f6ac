theorem d_Law_law_811 : decode code 811 = .ok (.lcmp, 1) := by decide +kernel
theorem d_Law_law_812 : decode code 812 = .ok (.ifCond .eq 5, 3) := by decide +kernel
theorem d_Law_law_815 : decode code 815 = .ok (.iconst 0, 1) := by decide +kernel
theorem d_Law_law_816 : decode code 816 = .ok (.ireturn, 1) := by decide +kernel
theorem d_Law_law_817 : decode code 817 = .ok (.goto 530, 3) := by decide +kernel
theorem d_Law_law_820 : decode code 820 = .ok (.aload_n 1, 1) := by decide +kernel
theorem d_Law_law_821 : decode code 821 = .ok (.aload_n 0, 1) := by decide +kernel
theorem d_Law_law_822 : decode code 822 = .ok (.iload 4, 2) := by decide +kernel
theorem d_Law_law_824 : decode code 824 = .ok (.iconst 1, 1) := by decide +kernel
theorem d_Law_law_825 : decode code 825 = .ok (.iadd, 1) := by decide +kernel
theorem d_Law_law_826 : decode code 826 = .ok (.iaload, 1) := by decide +kernel
theorem d_Law_law_827 : decode code 827 = .ok (.aload_n 3, 1) := by decide +kernel
theorem d_Law_law_828 : decode code 828 = .ok (.invokestatic 123, 3) := by decide +kernel
theorem d_Law_law_831 : decode code 831 = .ok (.istore 5, 2) := by decide +kernel
theorem d_Law_law_833 : decode code 833 = .ok (.aload_n 2, 1) := by decide +kernel
theorem d_Law_law_834 : decode code 834 = .ok (.aload_n 0, 1) := by decide +kernel
theorem d_Law_law_835 : decode code 835 = .ok (.iload 4, 2) := by decide +kernel
theorem d_Law_law_837 : decode code 837 = .ok (.iconst 1, 1) := by decide +kernel
theorem d_Law_law_838 : decode code 838 = .ok (.iadd, 1) := by decide +kernel
theorem d_Law_law_839 : decode code 839 = .ok (.iaload, 1) := by decide +kernel
theorem d_Law_law_840 : decode code 840 = .ok (.invokevirtual 125, 3) := by decide +kernel
theorem d_Law_law_843 : decode code 843 = .ok (.istore 6, 2) := by decide +kernel
theorem d_Law_law_845 : decode code 845 = .ok (.aload_n 2, 1) := by decide +kernel
theorem d_Law_law_846 : decode code 846 = .ok (.invokevirtual 92, 3) := by decide +kernel
theorem d_Law_law_849 : decode code 849 = .ok (.iload 5, 2) := by decide +kernel
theorem d_Law_law_851 : decode code 851 = .ok (.if_icmp .eq 5, 3) := by decide +kernel
theorem d_Law_law_854 : decode code 854 = .ok (.iconst 0, 1) := by decide +kernel
theorem d_Law_law_855 : decode code 855 = .ok (.ireturn, 1) := by decide +kernel
theorem d_Law_law_856 : decode code 856 = .ok (.iload 5, 2) := by decide +kernel
theorem d_Law_law_858 : decode code 858 = .ok (.ifCond .ne 15, 3) := by decide +kernel
theorem d_Law_law_861 : decode code 861 = .ok (.aload_n 3, 1) := by decide +kernel
theorem d_Law_law_862 : decode code 862 = .ok (.iconst 0, 1) := by decide +kernel
theorem d_Law_law_863 : decode code 863 = .ok (.laload, 1) := by decide +kernel
theorem d_Law_law_864 : decode code 864 = .ok (.iload 6, 2) := by decide +kernel
theorem d_Law_law_866 : decode code 866 = .ok (.i2l, 1) := by decide +kernel
theorem d_Law_law_867 : decode code 867 = .ok (.lcmp, 1) := by decide +kernel
theorem d_Law_law_868 : decode code 868 = .ok (.ifCond .eq 5, 3) := by decide +kernel
theorem d_Law_law_871 : decode code 871 = .ok (.iconst 0, 1) := by decide +kernel
theorem d_Law_law_872 : decode code 872 = .ok (.ireturn, 1) := by decide +kernel
theorem d_Law_law_873 : decode code 873 = .ok (.goto 474, 3) := by decide +kernel
theorem d_Law_law_876 : decode code 876 = .ok (.aload_n 1, 1) := by decide +kernel
theorem d_Law_law_877 : decode code 877 = .ok (.aload_n 3, 1) := by decide +kernel
theorem d_Law_law_878 : decode code 878 = .ok (.invokestatic 126, 3) := by decide +kernel
theorem d_Law_law_881 : decode code 881 = .ok (.istore 5, 2) := by decide +kernel
theorem d_Law_law_883 : decode code 883 = .ok (.aload_n 2, 1) := by decide +kernel
theorem d_Law_law_884 : decode code 884 = .ok (.invokevirtual 129, 3) := by decide +kernel
theorem d_Law_law_887 : decode code 887 = .ok (.lstore 6, 2) := by decide +kernel
theorem d_Law_law_889 : decode code 889 = .ok (.aload_n 2, 1) := by decide +kernel
theorem d_Law_law_890 : decode code 890 = .ok (.invokevirtual 92, 3) := by decide +kernel
theorem d_Law_law_893 : decode code 893 = .ok (.iload 5, 2) := by decide +kernel
theorem d_Law_law_895 : decode code 895 = .ok (.if_icmp .eq 5, 3) := by decide +kernel
theorem d_Law_law_898 : decode code 898 = .ok (.iconst 0, 1) := by decide +kernel
theorem d_Law_law_899 : decode code 899 = .ok (.ireturn, 1) := by decide +kernel
theorem d_Law_law_900 : decode code 900 = .ok (.iload 5, 2) := by decide +kernel
theorem d_Law_law_902 : decode code 902 = .ok (.ifCond .ne 14, 3) := by decide +kernel
theorem d_Law_law_905 : decode code 905 = .ok (.aload_n 3, 1) := by decide +kernel
theorem d_Law_law_906 : decode code 906 = .ok (.iconst 0, 1) := by decide +kernel
theorem d_Law_law_907 : decode code 907 = .ok (.laload, 1) := by decide +kernel
theorem d_Law_law_908 : decode code 908 = .ok (.lload 6, 2) := by decide +kernel
theorem d_Law_law_910 : decode code 910 = .ok (.lcmp, 1) := by decide +kernel
