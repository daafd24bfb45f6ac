theorem d_Law_law_1002 : decode code 1002 = .ok (.iload 4, 2) := by decide +kernel
theorem d_Law_law_1004 : decode code 1004 = .ok (.iconst 1, 1) := by decide +kernel
theorem d_Law_law_1005 : decode code 1005 = .ok (.iadd, 1) := by decide +kernel
theorem d_Law_law_1006 : decode code 1006 = .ok (.iaload, 1) := by decide +kernel
theorem d_Law_law_1007 : decode code 1007 = .ok (.invokevirtual 135, 3) := by decide +kernel
theorem d_Law_law_1010 : decode code 1010 = .ok (.istore 6, 2) := by decide +kernel
theorem d_Law_law_1012 : decode code 1012 = .ok (.aload_n 2, 1) := by decide +kernel
theorem d_Law_law_1013 : decode code 1013 = .ok (.invokevirtual 92, 3) := by decide +kernel
theorem d_Law_law_1016 : decode code 1016 = .ok (.iload 5, 2) := by decide +kernel
theorem d_Law_law_1018 : decode code 1018 = .ok (.if_icmp .eq 5, 3) := by decide +kernel
theorem d_Law_law_1021 : decode code 1021 = .ok (.iconst 0, 1) := by decide +kernel
theorem d_Law_law_1022 : decode code 1022 = .ok (.ireturn, 1) := by decide +kernel
theorem d_Law_law_1023 : decode code 1023 = .ok (.iload 5, 2) := by decide +kernel
theorem d_Law_law_1025 : decode code 1025 = .ok (.ifCond .ne 22, 3) := by decide +kernel
theorem d_Law_law_1028 : decode code 1028 = .ok (.aload_n 3, 1) := by decide +kernel
theorem d_Law_law_1029 : decode code 1029 = .ok (.iconst 0, 1) := by decide +kernel
theorem d_Law_law_1030 : decode code 1030 = .ok (.laload, 1) := by decide +kernel
theorem d_Law_law_1031 : decode code 1031 = .ok (.iload 6, 2) := by decide +kernel
theorem d_Law_law_1033 : decode code 1033 = .ok (.ifCond .eq 7, 3) := by decide +kernel
theorem d_Law_law_1036 : decode code 1036 = .ok (.lconst 1, 1) := by decide +kernel
theorem d_Law_law_1037 : decode code 1037 = .ok (.goto 4, 3) := by decide +kernel
theorem d_Law_law_1040 : decode code 1040 = .ok (.lconst 0, 1) := by decide +kernel
theorem d_Law_law_1041 : decode code 1041 = .ok (.lcmp, 1) := by decide +kernel
theorem d_Law_law_1042 : decode code 1042 = .ok (.ifCond .eq 5, 3) := by decide +kernel
theorem d_Law_law_1045 : decode code 1045 = .ok (.iconst 0, 1) := by decide +kernel
theorem d_Law_law_1046 : decode code 1046 = .ok (.ireturn, 1) := by decide +kernel
theorem d_Law_law_1047 : decode code 1047 = .ok (.goto 300, 3) := by decide +kernel
theorem d_Law_law_1050 : decode code 1050 = .ok (.aload_n 1, 1) := by decide +kernel
theorem d_Law_law_1051 : decode code 1051 = .ok (.aload_n 3, 1) := by decide +kernel
theorem d_Law_law_1052 : decode code 1052 = .ok (.invokestatic 136, 3) := by decide +kernel
theorem d_Law_law_1055 : decode code 1055 = .ok (.istore 5, 2) := by decide +kernel
theorem d_Law_law_1057 : decode code 1057 = .ok (.aload_n 2, 1) := by decide +kernel
theorem d_Law_law_1058 : decode code 1058 = .ok (.invokevirtual 138, 3) := by decide +kernel
theorem d_Law_law_1061 : decode code 1061 = .ok (.lstore 6, 2) := by decide +kernel
theorem d_Law_law_1063 : decode code 1063 = .ok (.aload_n 2, 1) := by decide +kernel
theorem d_Law_law_1064 : decode code 1064 = .ok (.invokevirtual 92, 3) := by decide +kernel
theorem d_Law_law_1067 : decode code 1067 = .ok (.iload 5, 2) := by decide +kernel
theorem d_Law_law_1069 : decode code 1069 = .ok (.if_icmp .eq 5, 3) := by decide +kernel
theorem d_Law_law_1072 : decode code 1072 = .ok (.iconst 0, 1) := by decide +kernel
theorem d_Law_law_1073 : decode code 1073 = .ok (.ireturn, 1) := by decide +kernel
theorem d_Law_law_1074 : decode code 1074 = .ok (.iload 5, 2) := by decide +kernel
theorem d_Law_law_1076 : decode code 1076 = .ok (.ifCond .ne 14, 3) := by decide +kernel
theorem d_Law_law_1079 : decode code 1079 = .ok (.aload_n 3, 1) := by decide +kernel
theorem d_Law_law_1080 : decode code 1080 = .ok (.iconst 0, 1) := by decide +kernel
theorem d_Law_law_1081 : decode code 1081 = .ok (.laload, 1) := by decide +kernel
theorem d_Law_law_1082 : decode code 1082 = .ok (.lload 6, 2) := by decide +kernel
theorem d_Law_law_1084 : decode code 1084 = .ok (.lcmp, 1) := by decide +kernel
theorem d_Law_law_1085 : decode code 1085 = .ok (.ifCond .eq 5, 3) := by decide +kernel
theorem d_Law_law_1088 : decode code 1088 = .ok (.iconst 0, 1) := by decide +kernel
theorem d_Law_law_1089 : decode code 1089 = .ok (.ireturn, 1) := by decide +kernel
theorem d_Law_law_1090 : decode code 1090 = .ok (.goto 257, 3) := by decide +kernel
theorem d_Law_law_1093 : decode code 1093 = .ok (.aload_n 1, 1) := by decide +kernel
theorem d_Law_law_1094 : decode code 1094 = .ok (.aload_n 0, 1) := by decide +kernel
theorem d_Law_law_1095 : decode code 1095 = .ok (.iload 4, 2) := by decide +kernel
theorem d_Law_law_1097 : decode code 1097 = .ok (.iconst 1, 1) := by decide +kernel
theorem d_Law_law_1098 : decode code 1098 = .ok (.iadd, 1) := by decide +kernel
theorem d_Law_law_1099 : decode code 1099 = .ok (.iaload, 1) := by decide +kernel
theorem d_Law_law_1100 : decode code 1100 = .ok (.aload_n 0, 1) := by decide +kernel
theorem d_Law_law_1101 : decode code 1101 = .ok (.iload 4, 2) := by decide +kernel
theorem d_Law_law_1103 : decode code 1103 = .ok (.iconst 2, 1) := by decide +kernel
