theorem dL_acts_1355 : decode cL_acts 1355 = .ok (.iadd, 1) := by decide +kernel
theorem dL_acts_1356 : decode cL_acts 1356 = .ok (.iload 38, 2) := by decide +kernel
theorem dL_acts_1358 : decode cL_acts 1358 = .ok (.ifCond .eq 10, 3) := by decide +kernel
theorem dL_acts_1361 : decode cL_acts 1361 = .ok (.aload_n 2, 1) := by decide +kernel
theorem dL_acts_1362 : decode cL_acts 1362 = .ok (.iload 8, 2) := by decide +kernel
theorem dL_acts_1364 : decode cL_acts 1364 = .ok (.iaload, 1) := by decide +kernel
theorem dL_acts_1365 : decode cL_acts 1365 = .ok (.goto 10, 3) := by decide +kernel
theorem dL_acts_1368 : decode cL_acts 1368 = .ok (.aload_n 2, 1) := by decide +kernel
theorem dL_acts_1369 : decode cL_acts 1369 = .ok (.bipush 6, 2) := by decide +kernel
theorem dL_acts_1371 : decode cL_acts 1371 = .ok (.iload 8, 2) := by decide +kernel
theorem dL_acts_1373 : decode cL_acts 1373 = .ok (.iadd, 1) := by decide +kernel
theorem dL_acts_1374 : decode cL_acts 1374 = .ok (.iaload, 1) := by decide +kernel
theorem dL_acts_1375 : decode cL_acts 1375 = .ok (.iastore, 1) := by decide +kernel
theorem dL_acts_1376 : decode cL_acts 1376 = .ok (.aload_n 0, 1) := by decide +kernel
theorem dL_acts_1377 : decode cL_acts 1377 = .ok (.iload 8, 2) := by decide +kernel
theorem dL_acts_1379 : decode cL_acts 1379 = .ok (.invokevirtual 93, 3) := by decide +kernel
theorem dL_acts_1382 : decode cL_acts 1382 = .ok (.iload 38, 2) := by decide +kernel
theorem dL_acts_1384 : decode cL_acts 1384 = .ok (.ifCond .eq 10, 3) := by decide +kernel
theorem dL_acts_1387 : decode cL_acts 1387 = .ok (.aload_n 2, 1) := by decide +kernel
theorem dL_acts_1388 : decode cL_acts 1388 = .ok (.iload 8, 2) := by decide +kernel
theorem dL_acts_1390 : decode cL_acts 1390 = .ok (.iaload, 1) := by decide +kernel
theorem dL_acts_1391 : decode cL_acts 1391 = .ok (.goto 5, 3) := by decide +kernel
theorem dL_acts_1394 : decode cL_acts 1394 = .ok (.bipush (-2), 2) := by decide +kernel
theorem dL_acts_1396 : decode cL_acts 1396 = .ok (.if_icmp .ne 7, 3) := by decide +kernel
theorem dL_acts_1399 : decode cL_acts 1399 = .ok (.iconst 1, 1) := by decide +kernel
theorem dL_acts_1400 : decode cL_acts 1400 = .ok (.goto 4, 3) := by decide +kernel
theorem dL_acts_1403 : decode cL_acts 1403 = .ok (.iconst 0, 1) := by decide +kernel
theorem dL_acts_1404 : decode cL_acts 1404 = .ok (.ireturn, 1) := by decide +kernel
theorem dL_acts_1405 : decode cL_acts 1405 = .ok (.aload_n 2, 1) := by decide +kernel
theorem dL_acts_1406 : decode cL_acts 1406 = .ok (.bipush 12, 2) := by decide +kernel
theorem dL_acts_1408 : decode cL_acts 1408 = .ok (.iload 8, 2) := by decide +kernel
theorem dL_acts_1410 : decode cL_acts 1410 = .ok (.iadd, 1) := by decide +kernel
theorem dL_acts_1411 : decode cL_acts 1411 = .ok (.iaload, 1) := by decide +kernel
theorem dL_acts_1412 : decode cL_acts 1412 = .ok (.istore 39, 2) := by decide +kernel
theorem dL_acts_1414 : decode cL_acts 1414 = .ok (.aload_n 2, 1) := by decide +kernel
theorem dL_acts_1415 : decode cL_acts 1415 = .ok (.bipush 12, 2) := by decide +kernel
theorem dL_acts_1417 : decode cL_acts 1417 = .ok (.iload 8, 2) := by decide +kernel
theorem dL_acts_1419 : decode cL_acts 1419 = .ok (.iadd, 1) := by decide +kernel
theorem dL_acts_1420 : decode cL_acts 1420 = .ok (.iconst 1, 1) := by decide +kernel
theorem dL_acts_1421 : decode cL_acts 1421 = .ok (.iload 6, 2) := by decide +kernel
theorem dL_acts_1423 : decode cL_acts 1423 = .ok (.bipush 6, 2) := by decide +kernel
theorem dL_acts_1425 : decode cL_acts 1425 = .ok (.idiv, 1) := by decide +kernel
theorem dL_acts_1426 : decode cL_acts 1426 = .ok (.iload 6, 2) := by decide +kernel
theorem dL_acts_1428 : decode cL_acts 1428 = .ok (.iconst 2, 1) := by decide +kernel
theorem dL_acts_1429 : decode cL_acts 1429 = .ok (.irem, 1) := by decide +kernel
theorem dL_acts_1430 : decode cL_acts 1430 = .ok (.ifCond .ne 8, 3) := by decide +kernel
theorem dL_acts_1433 : decode cL_acts 1433 = .ok (.ldc 96, 2) := by decide +kernel
theorem dL_acts_1435 : decode cL_acts 1435 = .ok (.goto 6, 3) := by decide +kernel
theorem dL_acts_1438 : decode cL_acts 1438 = .ok (.sipush 2000, 3) := by decide +kernel
theorem dL_acts_1441 : decode cL_acts 1441 = .ok (.irem, 1) := by decide +kernel
theorem dL_acts_1442 : decode cL_acts 1442 = .ok (.iadd, 1) := by decide +kernel
theorem dL_acts_1443 : decode cL_acts 1443 = .ok (.iastore, 1) := by decide +kernel
theorem dL_acts_1444 : decode cL_acts 1444 = .ok (.aload_n 0, 1) := by decide +kernel
theorem dL_acts_1445 : decode cL_acts 1445 = .ok (.iload 8, 2) := by decide +kernel
theorem dL_acts_1447 : decode cL_acts 1447 = .ok (.aload_n 2, 1) := by decide +kernel
theorem dL_acts_1448 : decode cL_acts 1448 = .ok (.bipush 12, 2) := by decide +kernel
theorem dL_acts_1450 : decode cL_acts 1450 = .ok (.iload 8, 2) := by decide +kernel
theorem dL_acts_1452 : decode cL_acts 1452 = .ok (.iadd, 1) := by decide +kernel
theorem dL_acts_1453 : decode cL_acts 1453 = .ok (.iaload, 1) := by decide +kernel
theorem dL_acts_1454 : decode cL_acts 1454 = .ok (.invokevirtual 97, 3) := by decide +kernel
theorem dL_acts_1457 : decode cL_acts 1457 = .ok (.iload 39, 2) := by decide +kernel
theorem dL_acts_1459 : decode cL_acts 1459 = .ok (.if_icmp .ne 7, 3) := by decide +kernel
theorem dL_acts_1462 : decode cL_acts 1462 = .ok (.iconst 1, 1) := by decide +kernel
theorem dL_acts_1463 : decode cL_acts 1463 = .ok (.goto 4, 3) := by decide +kernel
theorem dL_acts_1466 : decode cL_acts 1466 = .ok (.iconst 0, 1) := by decide +kernel
theorem dL_acts_1467 : decode cL_acts 1467 = .ok (.ireturn, 1) := by decide +kernel
theorem dL_block_0 : decode cL_block 0 = .ok (.iconst 1, 1) := by decide +kernel
theorem dL_block_1 : decode cL_block 1 = .ok (.iload_n 1, 1) := by decide +kernel
theorem dL_block_2 : decode cL_block 2 = .ok (.ishl, 1) := by decide +kernel
theorem dL_block_3 : decode cL_block 3 = .ok (.istore_n 2, 1) := by decide +kernel
theorem dL_block_4 : decode cL_block 4 = .ok (.iconst 0, 1) := by decide +kernel
theorem dL_block_5 : decode cL_block 5 = .ok (.istore_n 3, 1) := by decide +kernel
theorem dL_block_6 : decode cL_block 6 = .ok (.iload_n 3, 1) := by decide +kernel
theorem dL_block_7 : decode cL_block 7 = .ok (.bipush 6, 2) := by decide +kernel
theorem dL_block_9 : decode cL_block 9 = .ok (.if_icmp .ge 81, 3) := by decide +kernel
theorem dL_block_12 : decode cL_block 12 = .ok (.iconst 0, 1) := by decide +kernel
theorem dL_block_13 : decode cL_block 13 = .ok (.istore 4, 2) := by decide +kernel
theorem dL_block_15 : decode cL_block 15 = .ok (.aload_n 0, 1) := by decide +kernel
theorem dL_block_16 : decode cL_block 16 = .ok (.iload 4, 2) := by decide +kernel
theorem dL_block_18 : decode cL_block 18 = .ok (.invokestatic 31, 3) := by decide +kernel
theorem dL_block_21 : decode cL_block 21 = .ok (.ifCond .lt 63, 3) := by decide +kernel
theorem dL_block_24 : decode cL_block 24 = .ok (.aload_n 0, 1) := by decide +kernel
theorem dL_block_25 : decode cL_block 25 = .ok (.iload 4, 2) := by decide +kernel
theorem dL_block_27 : decode cL_block 27 = .ok (.invokestatic 31, 3) := by decide +kernel
theorem dL_block_30 : decode cL_block 30 = .ok (.istore 5, 2) := by decide +kernel
theorem dL_block_32 : decode cL_block 32 = .ok (.iconst 1, 1) := by decide +kernel
theorem dL_block_33 : decode cL_block 33 = .ok (.iload 5, 2) := by decide +kernel
theorem dL_block_35 : decode cL_block 35 = .ok (.bipush 10, 2) := by decide +kernel
theorem dL_block_37 : decode cL_block 37 = .ok (.irem, 1) := by decide +kernel
theorem dL_block_38 : decode cL_block 38 = .ok (.ishl, 1) := by decide +kernel
theorem dL_block_39 : decode cL_block 39 = .ok (.iconst 1, 1) := by decide +kernel
theorem dL_block_40 : decode cL_block 40 = .ok (.aload_n 0, 1) := by decide +kernel
theorem dL_block_41 : decode cL_block 41 = .ok (.iload 5, 2) := by decide +kernel
theorem dL_block_43 : decode cL_block 43 = .ok (.invokestatic 23, 3) := by decide +kernel
theorem dL_block_46 : decode cL_block 46 = .ok (.ishl, 1) := by decide +kernel
theorem dL_block_47 : decode cL_block 47 = .ok (.ior, 1) := by decide +kernel
theorem dL_block_48 : decode cL_block 48 = .ok (.istore 6, 2) := by decide +kernel
theorem dL_block_50 : decode cL_block 50 = .ok (.iload_n 2, 1) := by decide +kernel
theorem dL_block_51 : decode cL_block 51 = .ok (.aload_n 0, 1) := by decide +kernel
theorem dL_block_52 : decode cL_block 52 = .ok (.iconst 4, 1) := by decide +kernel
theorem dL_block_53 : decode cL_block 53 = .ok (.iaload, 1) := by decide +kernel
theorem dL_block_54 : decode cL_block 54 = .ok (.iload 4, 2) := by decide +kernel
theorem dL_block_56 : decode cL_block 56 = .ok (.ishr, 1) := by decide +kernel
theorem dL_block_57 : decode cL_block 57 = .ok (.iconst 1, 1) := by decide +kernel
theorem dL_block_58 : decode cL_block 58 = .ok (.iand, 1) := by decide +kernel
theorem dL_block_59 : decode cL_block 59 = .ok (.iconst 1, 1) := by decide +kernel
theorem dL_block_60 : decode cL_block 60 = .ok (.if_icmp .ne 15, 3) := by decide +kernel
theorem dL_block_63 : decode cL_block 63 = .ok (.iload_n 2, 1) := by decide +kernel
theorem dL_block_64 : decode cL_block 64 = .ok (.iload 6, 2) := by decide +kernel
theorem dL_block_66 : decode cL_block 66 = .ok (.iand, 1) := by decide +kernel
theorem dL_block_67 : decode cL_block 67 = .ok (.ifCond .eq 8, 3) := by decide +kernel
theorem dL_block_70 : decode cL_block 70 = .ok (.iload 6, 2) := by decide +kernel
theorem dL_block_72 : decode cL_block 72 = .ok (.goto 4, 3) := by decide +kernel
theorem dL_block_75 : decode cL_block 75 = .ok (.iconst 0, 1) := by decide +kernel
theorem dL_block_76 : decode cL_block 76 = .ok (.ior, 1) := by decide +kernel
theorem dL_block_77 : decode cL_block 77 = .ok (.istore_n 2, 1) := by decide +kernel
theorem dL_block_78 : decode cL_block 78 = .ok (.iinc 4 1, 3) := by decide +kernel
theorem dL_block_81 : decode cL_block 81 = .ok (.goto (-66), 3) := by decide +kernel
theorem dL_block_84 : decode cL_block 84 = .ok (.iinc 3 1, 3) := by decide +kernel
theorem dL_block_87 : decode cL_block 87 = .ok (.goto (-81), 3) := by decide +kernel
theorem dL_block_90 : decode cL_block 90 = .ok (.iconst 0, 1) := by decide +kernel
theorem dL_block_91 : decode cL_block 91 = .ok (.istore_n 3, 1) := by decide +kernel
theorem dL_block_92 : decode cL_block 92 = .ok (.iload_n 2, 1) := by decide +kernel
theorem dL_block_93 : decode cL_block 93 = .ok (.iload_n 3, 1) := by decide +kernel
theorem dL_block_94 : decode cL_block 94 = .ok (.ishr, 1) := by decide +kernel
theorem dL_block_95 : decode cL_block 95 = .ok (.iconst 1, 1) := by decide +kernel
theorem dL_block_96 : decode cL_block 96 = .ok (.iand, 1) := by decide +kernel
theorem dL_block_97 : decode cL_block 97 = .ok (.ifCond .ne 9, 3) := by decide +kernel
theorem dL_block_100 : decode cL_block 100 = .ok (.iinc 3 1, 3) := by decide +kernel
theorem dL_block_103 : decode cL_block 103 = .ok (.goto (-11), 3) := by decide +kernel
theorem dL_block_106 : decode cL_block 106 = .ok (.iload_n 3, 1) := by decide +kernel
theorem dL_block_107 : decode cL_block 107 = .ok (.ireturn, 1) := by decide +kernel
theorem dL_areEdges_0 : decode cL_areEdges 0 = .ok (.iconst 0, 1) := by decide +kernel
theorem dL_areEdges_1 : decode cL_areEdges 1 = .ok (.istore 4, 2) := by decide +kernel
theorem dL_areEdges_3 : decode cL_areEdges 3 = .ok (.iconst 0, 1) := by decide +kernel
theorem dL_areEdges_4 : decode cL_areEdges 4 = .ok (.istore 5, 2) := by decide +kernel
theorem dL_areEdges_6 : decode cL_areEdges 6 = .ok (.iconst 0, 1) := by decide +kernel
theorem dL_areEdges_7 : decode cL_areEdges 7 = .ok (.istore 6, 2) := by decide +kernel
theorem dL_areEdges_9 : decode cL_areEdges 9 = .ok (.iconst 0, 1) := by decide +kernel
theorem dL_areEdges_10 : decode cL_areEdges 10 = .ok (.istore 7, 2) := by decide +kernel
theorem dL_areEdges_12 : decode cL_areEdges 12 = .ok (.iconst 1, 1) := by decide +kernel
theorem dL_areEdges_13 : decode cL_areEdges 13 = .ok (.istore 8, 2) := by decide +kernel
theorem dL_areEdges_15 : decode cL_areEdges 15 = .ok (.aload_n 1, 1) := by decide +kernel
theorem dL_areEdges_16 : decode cL_areEdges 16 = .ok (.iload 4, 2) := by decide +kernel
theorem dL_areEdges_18 : decode cL_areEdges 18 = .ok (.invokestatic 31, 3) := by decide +kernel
theorem dL_areEdges_21 : decode cL_areEdges 21 = .ok (.ifCond .lt 404, 3) := by decide +kernel
theorem dL_areEdges_24 : decode cL_areEdges 24 = .ok (.iload 8, 2) := by decide +kernel
theorem dL_areEdges_26 : decode cL_areEdges 26 = .ok (.ifCond .eq 399, 3) := by decide +kernel
theorem dL_areEdges_29 : decode cL_areEdges 29 = .ok (.aload_n 1, 1) := by decide +kernel
theorem dL_areEdges_30 : decode cL_areEdges 30 = .ok (.iload 4, 2) := by decide +kernel
theorem dL_areEdges_32 : decode cL_areEdges 32 = .ok (.invokestatic 31, 3) := by decide +kernel
theorem dL_areEdges_35 : decode cL_areEdges 35 = .ok (.istore 9, 2) := by decide +kernel
theorem dL_areEdges_37 : decode cL_areEdges 37 = .ok (.iconst 0, 1) := by decide +kernel
theorem dL_areEdges_38 : decode cL_areEdges 38 = .ok (.istore 10, 2) := by decide +kernel
theorem dL_areEdges_40 : decode cL_areEdges 40 = .ok (.iconst 0, 1) := by decide +kernel
theorem dL_areEdges_41 : decode cL_areEdges 41 = .ok (.istore 11, 2) := by decide +kernel
theorem dL_areEdges_43 : decode cL_areEdges 43 = .ok (.iconst 0, 1) := by decide +kernel
theorem dL_areEdges_44 : decode cL_areEdges 44 = .ok (.istore 12, 2) := by decide +kernel
theorem dL_areEdges_46 : decode cL_areEdges 46 = .ok (.iload 12, 2) := by decide +kernel
theorem dL_areEdges_48 : decode cL_areEdges 48 = .ok (.bipush 10, 2) := by decide +kernel
theorem dL_areEdges_50 : decode cL_areEdges 50 = .ok (.if_icmp .ge 198, 3) := by decide +kernel
theorem dL_areEdges_53 : decode cL_areEdges 53 = .ok (.aload_n 2, 1) := by decide +kernel
theorem dL_areEdges_54 : decode cL_areEdges 54 = .ok (.aload_n 3, 1) := by decide +kernel
theorem dL_areEdges_55 : decode cL_areEdges 55 = .ok (.iload 9, 2) := by decide +kernel
theorem dL_areEdges_57 : decode cL_areEdges 57 = .ok (.bipush 10, 2) := by decide +kernel
theorem dL_areEdges_59 : decode cL_areEdges 59 = .ok (.irem, 1) := by decide +kernel
