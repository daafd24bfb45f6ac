theorem d_Law_law_1104 : decode code 1104 = .ok (.iadd, 1) := by decide +kernel
theorem d_Law_law_1105 : decode code 1105 = .ok (.iaload, 1) := by decide +kernel
theorem d_Law_law_1106 : decode code 1106 = .ok (.aload_n 3, 1) := by decide +kernel
theorem d_Law_law_1107 : decode code 1107 = .ok (.invokestatic 139, 3) := by decide +kernel
theorem d_Law_law_1110 : decode code 1110 = .ok (.istore 5, 2) := by decide +kernel
theorem d_Law_law_1112 : decode code 1112 = .ok (.aload_n 2, 1) := by decide +kernel
theorem d_Law_law_1113 : decode code 1113 = .ok (.aload_n 0, 1) := by decide +kernel
theorem d_Law_law_1114 : decode code 1114 = .ok (.iload 4, 2) := by decide +kernel
theorem d_Law_law_1116 : decode code 1116 = .ok (.iconst 1, 1) := by decide +kernel
theorem d_Law_law_1117 : decode code 1117 = .ok (.iadd, 1) := by decide +kernel
theorem d_Law_law_1118 : decode code 1118 = .ok (.iaload, 1) := by decide +kernel
theorem d_Law_law_1119 : decode code 1119 = .ok (.aload_n 0, 1) := by decide +kernel
theorem d_Law_law_1120 : decode code 1120 = .ok (.iload 4, 2) := by decide +kernel
theorem d_Law_law_1122 : decode code 1122 = .ok (.iconst 2, 1) := by decide +kernel
theorem d_Law_law_1123 : decode code 1123 = .ok (.iadd, 1) := by decide +kernel
theorem d_Law_law_1124 : decode code 1124 = .ok (.iaload, 1) := by decide +kernel
theorem d_Law_law_1125 : decode code 1125 = .ok (.invokevirtual 141, 3) := by decide +kernel
theorem d_Law_law_1128 : decode code 1128 = .ok (.lstore 6, 2) := by decide +kernel
theorem d_Law_law_1130 : decode code 1130 = .ok (.aload_n 2, 1) := by decide +kernel
theorem d_Law_law_1131 : decode code 1131 = .ok (.invokevirtual 92, 3) := by decide +kernel
theorem d_Law_law_1134 : decode code 1134 = .ok (.iload 5, 2) := by decide +kernel
theorem d_Law_law_1136 : decode code 1136 = .ok (.if_icmp .eq 5, 3) := by decide +kernel
theorem d_Law_law_1139 : decode code 1139 = .ok (.iconst 0, 1) := by decide +kernel
theorem d_Law_law_1140 : decode code 1140 = .ok (.ireturn, 1) := by decide +kernel
theorem d_Law_law_1141 : decode code 1141 = .ok (.iload 5, 2) := by decide +kernel
theorem d_Law_law_1143 : decode code 1143 = .ok (.ifCond .ne 14, 3) := by decide +kernel
theorem d_Law_law_1146 : decode code 1146 = .ok (.aload_n 3, 1) := by decide +kernel
theorem d_Law_law_1147 : decode code 1147 = .ok (.iconst 0, 1) := by decide +kernel
theorem d_Law_law_1148 : decode code 1148 = .ok (.laload, 1) := by decide +kernel
theorem d_Law_law_1149 : decode code 1149 = .ok (.lload 6, 2) := by decide +kernel
theorem d_Law_law_1151 : decode code 1151 = .ok (.lcmp, 1) := by decide +kernel
theorem d_Law_law_1152 : decode code 1152 = .ok (.ifCond .eq 5, 3) := by decide +kernel
theorem d_Law_law_1155 : decode code 1155 = .ok (.iconst 0, 1) := by decide +kernel
theorem d_Law_law_1156 : decode code 1156 = .ok (.ireturn, 1) := by decide +kernel
theorem d_Law_law_1157 : decode code 1157 = .ok (.goto 190, 3) := by decide +kernel
theorem d_Law_law_1160 : decode code 1160 = .ok (.aload_n 1, 1) := by decide +kernel
theorem d_Law_law_1161 : decode code 1161 = .ok (.aload_n 0, 1) := by decide +kernel
theorem d_Law_law_1162 : decode code 1162 = .ok (.iload 4, 2) := by decide +kernel
theorem d_Law_law_1164 : decode code 1164 = .ok (.iconst 1, 1) := by decide +kernel
theorem d_Law_law_1165 : decode code 1165 = .ok (.iadd, 1) := by decide +kernel
theorem d_Law_law_1166 : decode code 1166 = .ok (.iaload, 1) := by decide +kernel
theorem d_Law_law_1167 : decode code 1167 = .ok (.aload_n 0, 1) := by decide +kernel
theorem d_Law_law_1168 : decode code 1168 = .ok (.iload 4, 2) := by decide +kernel
theorem d_Law_law_1170 : decode code 1170 = .ok (.iconst 2, 1) := by decide +kernel
theorem d_Law_law_1171 : decode code 1171 = .ok (.iadd, 1) := by decide +kernel
theorem d_Law_law_1172 : decode code 1172 = .ok (.iaload, 1) := by decide +kernel
theorem d_Law_law_1173 : decode code 1173 = .ok (.aload_n 3, 1) := by decide +kernel
theorem d_Law_law_1174 : decode code 1174 = .ok (.invokestatic 142, 3) := by decide +kernel
theorem d_Law_law_1177 : decode code 1177 = .ok (.istore 5, 2) := by decide +kernel
theorem d_Law_law_1179 : decode code 1179 = .ok (.aload_n 2, 1) := by decide +kernel
theorem d_Law_law_1180 : decode code 1180 = .ok (.aload_n 0, 1) := by decide +kernel
theorem d_Law_law_1181 : decode code 1181 = .ok (.iload 4, 2) := by decide +kernel
theorem d_Law_law_1183 : decode code 1183 = .ok (.iconst 1, 1) := by decide +kernel
theorem d_Law_law_1184 : decode code 1184 = .ok (.iadd, 1) := by decide +kernel
theorem d_Law_law_1185 : decode code 1185 = .ok (.iaload, 1) := by decide +kernel
theorem d_Law_law_1186 : decode code 1186 = .ok (.aload_n 0, 1) := by decide +kernel
theorem d_Law_law_1187 : decode code 1187 = .ok (.iload 4, 2) := by decide +kernel
theorem d_Law_law_1189 : decode code 1189 = .ok (.iconst 2, 1) := by decide +kernel
theorem d_Law_law_1190 : decode code 1190 = .ok (.iadd, 1) := by decide +kernel
theorem d_Law_law_1191 : decode code 1191 = .ok (.iaload, 1) := by decide +kernel
