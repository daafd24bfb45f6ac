theorem d_Law_law_1287 : decode code 1287 = .ok (.lcmp, 1) := by decide +kernel
theorem d_Law_law_1288 : decode code 1288 = .ok (.ifCond .eq 5, 3) := by decide +kernel
theorem d_Law_law_1291 : decode code 1291 = .ok (.iconst 0, 1) := by decide +kernel
theorem d_Law_law_1292 : decode code 1292 = .ok (.ireturn, 1) := by decide +kernel
theorem d_Law_law_1293 : decode code 1293 = .ok (.goto 54, 3) := by decide +kernel
theorem d_Law_law_1296 : decode code 1296 = .ok (.aload_n 1, 1) := by decide +kernel
theorem d_Law_law_1297 : decode code 1297 = .ok (.aload_n 3, 1) := by decide +kernel
theorem d_Law_law_1298 : decode code 1298 = .ok (.invokestatic 148, 3) := by decide +kernel
theorem d_Law_law_1301 : decode code 1301 = .ok (.istore 5, 2) := by decide +kernel
theorem d_Law_law_1303 : decode code 1303 = .ok (.aload_n 2, 1) := by decide +kernel
theorem d_Law_law_1304 : decode code 1304 = .ok (.invokevirtual 150, 3) := by decide +kernel
theorem d_Law_law_1307 : decode code 1307 = .ok (.istore 6, 2) := by decide +kernel
theorem d_Law_law_1309 : decode code 1309 = .ok (.aload_n 2, 1) := by decide +kernel
theorem d_Law_law_1310 : decode code 1310 = .ok (.invokevirtual 92, 3) := by decide +kernel
theorem d_Law_law_1313 : decode code 1313 = .ok (.iload 5, 2) := by decide +kernel
theorem d_Law_law_1315 : decode code 1315 = .ok (.if_icmp .eq 5, 3) := by decide +kernel
theorem d_Law_law_1318 : decode code 1318 = .ok (.iconst 0, 1) := by decide +kernel
theorem d_Law_law_1319 : decode code 1319 = .ok (.ireturn, 1) := by decide +kernel
theorem d_Law_law_1320 : decode code 1320 = .ok (.iload 5, 2) := by decide +kernel
theorem d_Law_law_1322 : decode code 1322 = .ok (.ifCond .ne 22, 3) := by decide +kernel
theorem d_Law_law_1325 : decode code 1325 = .ok (.aload_n 3, 1) := by decide +kernel
theorem d_Law_law_1326 : decode code 1326 = .ok (.iconst 0, 1) := by decide +kernel
theorem d_Law_law_1327 : decode code 1327 = .ok (.laload, 1) := by decide +kernel
theorem d_Law_law_1328 : decode code 1328 = .ok (.iload 6, 2) := by decide +kernel
theorem d_Law_law_1330 : decode code 1330 = .ok (.ifCond .eq 7, 3) := by decide +kernel
theorem d_Law_law_1333 : decode code 1333 = .ok (.lconst 1, 1) := by decide +kernel
theorem d_Law_law_1334 : decode code 1334 = .ok (.goto 4, 3) := by decide +kernel
theorem d_Law_law_1337 : decode code 1337 = .ok (.lconst 0, 1) := by decide +kernel
theorem d_Law_law_1338 : decode code 1338 = .ok (.lcmp, 1) := by decide +kernel
theorem d_Law_law_1339 : decode code 1339 = .ok (.ifCond .eq 5, 3) := by decide +kernel
theorem d_Law_law_1342 : decode code 1342 = .ok (.iconst 0, 1) := by decide +kernel
theorem d_Law_law_1343 : decode code 1343 = .ok (.ireturn, 1) := by decide +kernel
theorem d_Law_law_1344 : decode code 1344 = .ok (.goto 3, 3) := by decide +kernel
theorem d_Law_law_1347 : decode code 1347 = .ok (.iinc 4 7, 3) := by decide +kernel
theorem d_Law_law_1350 : decode code 1350 = .ok (.goto (-1297), 3) := by decide +kernel
theorem d_Law_law_1353 : decode code 1353 = .ok (.iconst 1, 1) := by decide +kernel
theorem d_Law_law_1354 : decode code 1354 = .ok (.ireturn, 1) := by decide +kernel
