theorem d_Law_law_911 : decode code 911 = .ok (.ifCond .eq 5, 3) := by decide +kernel
theorem d_Law_law_914 : decode code 914 = .ok (.iconst 0, 1) := by decide +kernel
theorem d_Law_law_915 : decode code 915 = .ok (.ireturn, 1) := by decide +kernel
theorem d_Law_law_916 : decode code 916 = .ok (.goto 431, 3) := by decide +kernel
theorem d_Law_law_919 : decode code 919 = .ok (.aload_n 1, 1) := by decide +kernel
theorem d_Law_law_920 : decode code 920 = .ok (.aload_n 0, 1) := by decide +kernel
theorem d_Law_law_921 : decode code 921 = .ok (.iload 4, 2) := by decide +kernel
theorem d_Law_law_923 : decode code 923 = .ok (.iconst 1, 1) := by decide +kernel
theorem d_Law_law_924 : decode code 924 = .ok (.iadd, 1) := by decide +kernel
theorem d_Law_law_925 : decode code 925 = .ok (.iaload, 1) := by decide +kernel
theorem d_Law_law_926 : decode code 926 = .ok (.aload_n 0, 1) := by decide +kernel
theorem d_Law_law_927 : decode code 927 = .ok (.iload 4, 2) := by decide +kernel
theorem d_Law_law_929 : decode code 929 = .ok (.iconst 2, 1) := by decide +kernel
theorem d_Law_law_930 : decode code 930 = .ok (.iadd, 1) := by decide +kernel
theorem d_Law_law_931 : decode code 931 = .ok (.iaload, 1) := by decide +kernel
theorem d_Law_law_932 : decode code 932 = .ok (.aload_n 3, 1) := by decide +kernel
theorem d_Law_law_933 : decode code 933 = .ok (.invokestatic 130, 3) := by decide +kernel
theorem d_Law_law_936 : decode code 936 = .ok (.istore 5, 2) := by decide +kernel
theorem d_Law_law_938 : decode code 938 = .ok (.aload_n 2, 1) := by decide +kernel
theorem d_Law_law_939 : decode code 939 = .ok (.aload_n 0, 1) := by decide +kernel
theorem d_Law_law_940 : decode code 940 = .ok (.iload 4, 2) := by decide +kernel
theorem d_Law_law_942 : decode code 942 = .ok (.iconst 1, 1) := by decide +kernel
theorem d_Law_law_943 : decode code 943 = .ok (.iadd, 1) := by decide +kernel
theorem d_Law_law_944 : decode code 944 = .ok (.iaload, 1) := by decide +kernel
theorem d_Law_law_945 : decode code 945 = .ok (.aload_n 0, 1) := by decide +kernel
theorem d_Law_law_946 : decode code 946 = .ok (.iload 4, 2) := by decide +kernel
theorem d_Law_law_948 : decode code 948 = .ok (.iconst 2, 1) := by decide +kernel
theorem d_Law_law_949 : decode code 949 = .ok (.iadd, 1) := by decide +kernel
theorem d_Law_law_950 : decode code 950 = .ok (.iaload, 1) := by decide +kernel
theorem d_Law_law_951 : decode code 951 = .ok (.invokevirtual 132, 3) := by decide +kernel
theorem d_Law_law_954 : decode code 954 = .ok (.istore 6, 2) := by decide +kernel
theorem d_Law_law_956 : decode code 956 = .ok (.aload_n 2, 1) := by decide +kernel
theorem d_Law_law_957 : decode code 957 = .ok (.invokevirtual 92, 3) := by decide +kernel
theorem d_Law_law_960 : decode code 960 = .ok (.iload 5, 2) := by decide +kernel
theorem d_Law_law_962 : decode code 962 = .ok (.if_icmp .eq 5, 3) := by decide +kernel
theorem d_Law_law_965 : decode code 965 = .ok (.iconst 0, 1) := by decide +kernel
theorem d_Law_law_966 : decode code 966 = .ok (.ireturn, 1) := by decide +kernel
theorem d_Law_law_967 : decode code 967 = .ok (.iload 5, 2) := by decide +kernel
theorem d_Law_law_969 : decode code 969 = .ok (.ifCond .ne 15, 3) := by decide +kernel
theorem d_Law_law_972 : decode code 972 = .ok (.aload_n 3, 1) := by decide +kernel
theorem d_Law_law_973 : decode code 973 = .ok (.iconst 0, 1) := by decide +kernel
theorem d_Law_law_974 : decode code 974 = .ok (.laload, 1) := by decide +kernel
theorem d_Law_law_975 : decode code 975 = .ok (.iload 6, 2) := by decide +kernel
theorem d_Law_law_977 : decode code 977 = .ok (.i2l, 1) := by decide +kernel
theorem d_Law_law_978 : decode code 978 = .ok (.lcmp, 1) := by decide +kernel
theorem d_Law_law_979 : decode code 979 = .ok (.ifCond .eq 5, 3) := by decide +kernel
theorem d_Law_law_982 : decode code 982 = .ok (.iconst 0, 1) := by decide +kernel
theorem d_Law_law_983 : decode code 983 = .ok (.ireturn, 1) := by decide +kernel
theorem d_Law_law_984 : decode code 984 = .ok (.goto 363, 3) := by decide +kernel
theorem d_Law_law_987 : decode code 987 = .ok (.aload_n 1, 1) := by decide +kernel
theorem d_Law_law_988 : decode code 988 = .ok (.aload_n 0, 1) := by decide +kernel
theorem d_Law_law_989 : decode code 989 = .ok (.iload 4, 2) := by decide +kernel
theorem d_Law_law_991 : decode code 991 = .ok (.iconst 1, 1) := by decide +kernel
theorem d_Law_law_992 : decode code 992 = .ok (.iadd, 1) := by decide +kernel
theorem d_Law_law_993 : decode code 993 = .ok (.iaload, 1) := by decide +kernel
theorem d_Law_law_994 : decode code 994 = .ok (.aload_n 3, 1) := by decide +kernel
theorem d_Law_law_995 : decode code 995 = .ok (.invokestatic 133, 3) := by decide +kernel
theorem d_Law_law_998 : decode code 998 = .ok (.istore 5, 2) := by decide +kernel
theorem d_Law_law_1000 : decode code 1000 = .ok (.aload_n 2, 1) := by decide +kernel
theorem d_Law_law_1001 : decode code 1001 = .ok (.aload_n 0, 1) := by decide +kernel
