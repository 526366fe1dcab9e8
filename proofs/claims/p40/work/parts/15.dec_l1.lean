theorem d_l_refused_1323 : decode (ch_bc m_l_refused) 1323 = .ok (.ifCond .eq 91, 3) := by decide +kernel
theorem d_l_refused_1326 : decode (ch_bc m_l_refused) 1326 = .ok (.aload_n 0, 1) := by decide +kernel
theorem d_l_refused_1327 : decode (ch_bc m_l_refused) 1327 = .ok (.ldc_w 269, 3) := by decide +kernel
theorem d_l_refused_1330 : decode (ch_bc m_l_refused) 1330 = .ok (.invokestatic 248, 3) := by decide +kernel
theorem d_l_refused_1333 : decode (ch_bc m_l_refused) 1333 = .ok (.sipush (-1001), 3) := by decide +kernel
theorem d_l_refused_1336 : decode (ch_bc m_l_refused) 1336 = .ok (.if_icmp .ne 78, 3) := by decide +kernel
theorem d_l_refused_1339 : decode (ch_bc m_l_refused) 1339 = .ok (.aload_n 0, 1) := by decide +kernel
theorem d_l_refused_1340 : decode (ch_bc m_l_refused) 1340 = .ok (.invokevirtual 271, 3) := by decide +kernel
theorem d_l_refused_1343 : decode (ch_bc m_l_refused) 1343 = .ok (.ifCond .ne 71, 3) := by decide +kernel
theorem d_l_refused_1346 : decode (ch_bc m_l_refused) 1346 = .ok (.aload_n 0, 1) := by decide +kernel
theorem d_l_refused_1347 : decode (ch_bc m_l_refused) 1347 = .ok (.ldc_w 274, 3) := by decide +kernel
theorem d_l_refused_1350 : decode (ch_bc m_l_refused) 1350 = .ok (.invokestatic 248, 3) := by decide +kernel
theorem d_l_refused_1353 : decode (ch_bc m_l_refused) 1353 = .ok (.sipush (-1002), 3) := by decide +kernel
theorem d_l_refused_1356 : decode (ch_bc m_l_refused) 1356 = .ok (.if_icmp .ne 58, 3) := by decide +kernel
theorem d_l_refused_1359 : decode (ch_bc m_l_refused) 1359 = .ok (.aload_n 0, 1) := by decide +kernel
theorem d_l_refused_1360 : decode (ch_bc m_l_refused) 1360 = .ok (.iconst 2, 1) := by decide +kernel
theorem d_l_refused_1361 : decode (ch_bc m_l_refused) 1361 = .ok (.iconst 3, 1) := by decide +kernel
theorem d_l_refused_1362 : decode (ch_bc m_l_refused) 1362 = .ok (.iload_n 3, 1) := by decide +kernel
theorem d_l_refused_1363 : decode (ch_bc m_l_refused) 1363 = .ok (.invokestatic 137, 3) := by decide +kernel
theorem d_l_refused_1366 : decode (ch_bc m_l_refused) 1366 = .ok (.ifCond .eq 48, 3) := by decide +kernel
theorem d_l_refused_1369 : decode (ch_bc m_l_refused) 1369 = .ok (.aload_n 0, 1) := by decide +kernel
theorem d_l_refused_1370 : decode (ch_bc m_l_refused) 1370 = .ok (.ldc_w 276, 3) := by decide +kernel
theorem d_l_refused_1373 : decode (ch_bc m_l_refused) 1373 = .ok (.invokestatic 248, 3) := by decide +kernel
theorem d_l_refused_1376 : decode (ch_bc m_l_refused) 1376 = .ok (.sipush (-1002), 3) := by decide +kernel
theorem d_l_refused_1379 : decode (ch_bc m_l_refused) 1379 = .ok (.if_icmp .ne 35, 3) := by decide +kernel
theorem d_l_refused_1382 : decode (ch_bc m_l_refused) 1382 = .ok (.aload_n 0, 1) := by decide +kernel
theorem d_l_refused_1383 : decode (ch_bc m_l_refused) 1383 = .ok (.iconst 1, 1) := by decide +kernel
theorem d_l_refused_1384 : decode (ch_bc m_l_refused) 1384 = .ok (.bipush 11, 2) := by decide +kernel
theorem d_l_refused_1386 : decode (ch_bc m_l_refused) 1386 = .ok (.iconst 1, 1) := by decide +kernel
theorem d_l_refused_1387 : decode (ch_bc m_l_refused) 1387 = .ok (.invokestatic 137, 3) := by decide +kernel
theorem d_l_refused_1390 : decode (ch_bc m_l_refused) 1390 = .ok (.ifCond .eq 24, 3) := by decide +kernel
theorem d_l_refused_1393 : decode (ch_bc m_l_refused) 1393 = .ok (.aload_n 0, 1) := by decide +kernel
theorem d_l_refused_1394 : decode (ch_bc m_l_refused) 1394 = .ok (.invokevirtual 271, 3) := by decide +kernel
theorem d_l_refused_1397 : decode (ch_bc m_l_refused) 1397 = .ok (.iconst (-1), 1) := by decide +kernel
theorem d_l_refused_1398 : decode (ch_bc m_l_refused) 1398 = .ok (.if_icmp .ne 16, 3) := by decide +kernel
theorem d_l_refused_1401 : decode (ch_bc m_l_refused) 1401 = .ok (.aload_n 0, 1) := by decide +kernel
theorem d_l_refused_1402 : decode (ch_bc m_l_refused) 1402 = .ok (.invokestatic 254, 3) := by decide +kernel
theorem d_l_refused_1405 : decode (ch_bc m_l_refused) 1405 = .ok (.lload_n 1, 1) := by decide +kernel
theorem d_l_refused_1406 : decode (ch_bc m_l_refused) 1406 = .ok (.lcmp, 1) := by decide +kernel
theorem d_l_refused_1407 : decode (ch_bc m_l_refused) 1407 = .ok (.ifCond .ne 7, 3) := by decide +kernel
theorem d_l_refused_1410 : decode (ch_bc m_l_refused) 1410 = .ok (.iconst 1, 1) := by decide +kernel
theorem d_l_refused_1411 : decode (ch_bc m_l_refused) 1411 = .ok (.goto 4, 3) := by decide +kernel
theorem d_l_refused_1414 : decode (ch_bc m_l_refused) 1414 = .ok (.iconst 0, 1) := by decide +kernel
theorem d_l_refused_1415 : decode (ch_bc m_l_refused) 1415 = .ok (.ireturn, 1) := by decide +kernel
