theorem d_Law_law_1192 : decode code 1192 = .ok (.invokevirtual 144, 3) := by decide +kernel
theorem d_Law_law_1195 : decode code 1195 = .ok (.istore 6, 2) := by decide +kernel
theorem d_Law_law_1197 : decode code 1197 = .ok (.aload_n 2, 1) := by decide +kernel
theorem d_Law_law_1198 : decode code 1198 = .ok (.invokevirtual 92, 3) := by decide +kernel
theorem d_Law_law_1201 : decode code 1201 = .ok (.iload 5, 2) := by decide +kernel
theorem d_Law_law_1203 : decode code 1203 = .ok (.if_icmp .eq 5, 3) := by decide +kernel
theorem d_Law_law_1206 : decode code 1206 = .ok (.iconst 0, 1) := by decide +kernel
theorem d_Law_law_1207 : decode code 1207 = .ok (.ireturn, 1) := by decide +kernel
theorem d_Law_law_1208 : decode code 1208 = .ok (.iload 5, 2) := by decide +kernel
theorem d_Law_law_1210 : decode code 1210 = .ok (.ifCond .ne 15, 3) := by decide +kernel
theorem d_Law_law_1213 : decode code 1213 = .ok (.aload_n 3, 1) := by decide +kernel
theorem d_Law_law_1214 : decode code 1214 = .ok (.iconst 0, 1) := by decide +kernel
theorem d_Law_law_1215 : decode code 1215 = .ok (.laload, 1) := by decide +kernel
theorem d_Law_law_1216 : decode code 1216 = .ok (.iload 6, 2) := by decide +kernel
theorem d_Law_law_1218 : decode code 1218 = .ok (.i2l, 1) := by decide +kernel
theorem d_Law_law_1219 : decode code 1219 = .ok (.lcmp, 1) := by decide +kernel
theorem d_Law_law_1220 : decode code 1220 = .ok (.ifCond .eq 5, 3) := by decide +kernel
theorem d_Law_law_1223 : decode code 1223 = .ok (.iconst 0, 1) := by decide +kernel
theorem d_Law_law_1224 : decode code 1224 = .ok (.ireturn, 1) := by decide +kernel
theorem d_Law_law_1225 : decode code 1225 = .ok (.goto 122, 3) := by decide +kernel
theorem d_Law_law_1228 : decode code 1228 = .ok (.aload_n 1, 1) := by decide +kernel
theorem d_Law_law_1229 : decode code 1229 = .ok (.aload_n 0, 1) := by decide +kernel
theorem d_Law_law_1230 : decode code 1230 = .ok (.iload 4, 2) := by decide +kernel
theorem d_Law_law_1232 : decode code 1232 = .ok (.iconst 1, 1) := by decide +kernel
theorem d_Law_law_1233 : decode code 1233 = .ok (.iadd, 1) := by decide +kernel
theorem d_Law_law_1234 : decode code 1234 = .ok (.iaload, 1) := by decide +kernel
theorem d_Law_law_1235 : decode code 1235 = .ok (.aload_n 0, 1) := by decide +kernel
theorem d_Law_law_1236 : decode code 1236 = .ok (.iload 4, 2) := by decide +kernel
theorem d_Law_law_1238 : decode code 1238 = .ok (.iconst 2, 1) := by decide +kernel
theorem d_Law_law_1239 : decode code 1239 = .ok (.iadd, 1) := by decide +kernel
theorem d_Law_law_1240 : decode code 1240 = .ok (.iaload, 1) := by decide +kernel
theorem d_Law_law_1241 : decode code 1241 = .ok (.aload_n 3, 1) := by decide +kernel
theorem d_Law_law_1242 : decode code 1242 = .ok (.invokestatic 145, 3) := by decide +kernel
theorem d_Law_law_1245 : decode code 1245 = .ok (.istore 5, 2) := by decide +kernel
theorem d_Law_law_1247 : decode code 1247 = .ok (.aload_n 2, 1) := by decide +kernel
theorem d_Law_law_1248 : decode code 1248 = .ok (.aload_n 0, 1) := by decide +kernel
theorem d_Law_law_1249 : decode code 1249 = .ok (.iload 4, 2) := by decide +kernel
theorem d_Law_law_1251 : decode code 1251 = .ok (.iconst 1, 1) := by decide +kernel
theorem d_Law_law_1252 : decode code 1252 = .ok (.iadd, 1) := by decide +kernel
theorem d_Law_law_1253 : decode code 1253 = .ok (.iaload, 1) := by decide +kernel
theorem d_Law_law_1254 : decode code 1254 = .ok (.aload_n 0, 1) := by decide +kernel
theorem d_Law_law_1255 : decode code 1255 = .ok (.iload 4, 2) := by decide +kernel
theorem d_Law_law_1257 : decode code 1257 = .ok (.iconst 2, 1) := by decide +kernel
theorem d_Law_law_1258 : decode code 1258 = .ok (.iadd, 1) := by decide +kernel
theorem d_Law_law_1259 : decode code 1259 = .ok (.iaload, 1) := by decide +kernel
theorem d_Law_law_1260 : decode code 1260 = .ok (.invokevirtual 147, 3) := by decide +kernel
theorem d_Law_law_1263 : decode code 1263 = .ok (.istore 6, 2) := by decide +kernel
theorem d_Law_law_1265 : decode code 1265 = .ok (.aload_n 2, 1) := by decide +kernel
theorem d_Law_law_1266 : decode code 1266 = .ok (.invokevirtual 92, 3) := by decide +kernel
theorem d_Law_law_1269 : decode code 1269 = .ok (.iload 5, 2) := by decide +kernel
theorem d_Law_law_1271 : decode code 1271 = .ok (.if_icmp .eq 5, 3) := by decide +kernel
theorem d_Law_law_1274 : decode code 1274 = .ok (.iconst 0, 1) := by decide +kernel
theorem d_Law_law_1275 : decode code 1275 = .ok (.ireturn, 1) := by decide +kernel
theorem d_Law_law_1276 : decode code 1276 = .ok (.iload 5, 2) := by decide +kernel
theorem d_Law_law_1278 : decode code 1278 = .ok (.ifCond .ne 15, 3) := by decide +kernel
theorem d_Law_law_1281 : decode code 1281 = .ok (.aload_n 3, 1) := by decide +kernel
theorem d_Law_law_1282 : decode code 1282 = .ok (.iconst 0, 1) := by decide +kernel
theorem d_Law_law_1283 : decode code 1283 = .ok (.laload, 1) := by decide +kernel
theorem d_Law_law_1284 : decode code 1284 = .ok (.iload 6, 2) := by decide +kernel
theorem d_Law_law_1286 : decode code 1286 = .ok (.i2l, 1) := by decide +kernel
