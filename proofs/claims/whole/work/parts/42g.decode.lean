theorem d_L_law_1376 : decode code 1376 = .ok (.iconst 0, 1) := by decide +kernel
theorem d_L_law_1377 : decode code 1377 = .ok (.ireturn, 1) := by decide +kernel
theorem d_L_law_1378 : decode code 1378 = .ok (.goto 221, 3) := by decide +kernel
theorem d_L_law_1381 : decode code 1381 = .ok (.aload_n 1, 1) := by decide +kernel
theorem d_L_law_1382 : decode code 1382 = .ok (.aload_n 0, 1) := by decide +kernel
theorem d_L_law_1383 : decode code 1383 = .ok (.iload 4, 2) := by decide +kernel
theorem d_L_law_1385 : decode code 1385 = .ok (.iconst 1, 1) := by decide +kernel
theorem d_L_law_1386 : decode code 1386 = .ok (.iadd, 1) := by decide +kernel
theorem d_L_law_1387 : decode code 1387 = .ok (.iaload, 1) := by decide +kernel
theorem d_L_law_1388 : decode code 1388 = .ok (.aload_n 0, 1) := by decide +kernel
theorem d_L_law_1389 : decode code 1389 = .ok (.iload 4, 2) := by decide +kernel
theorem d_L_law_1391 : decode code 1391 = .ok (.iconst 2, 1) := by decide +kernel
theorem d_L_law_1392 : decode code 1392 = .ok (.iadd, 1) := by decide +kernel
theorem d_L_law_1393 : decode code 1393 = .ok (.iaload, 1) := by decide +kernel
theorem d_L_law_1394 : decode code 1394 = .ok (.aload_n 3, 1) := by decide +kernel
theorem d_L_law_1395 : decode code 1395 = .ok (.invokestatic 125, 3) := by decide +kernel
theorem d_L_law_1398 : decode code 1398 = .ok (.istore 5, 2) := by decide +kernel
theorem d_L_law_1400 : decode code 1400 = .ok (.aload_n 2, 1) := by decide +kernel
theorem d_L_law_1401 : decode code 1401 = .ok (.aload_n 0, 1) := by decide +kernel
theorem d_L_law_1402 : decode code 1402 = .ok (.iload 4, 2) := by decide +kernel
theorem d_L_law_1404 : decode code 1404 = .ok (.iconst 1, 1) := by decide +kernel
theorem d_L_law_1405 : decode code 1405 = .ok (.iadd, 1) := by decide +kernel
theorem d_L_law_1406 : decode code 1406 = .ok (.iaload, 1) := by decide +kernel
theorem d_L_law_1407 : decode code 1407 = .ok (.aload_n 0, 1) := by decide +kernel
theorem d_L_law_1408 : decode code 1408 = .ok (.iload 4, 2) := by decide +kernel
theorem d_L_law_1410 : decode code 1410 = .ok (.iconst 2, 1) := by decide +kernel
theorem d_L_law_1411 : decode code 1411 = .ok (.iadd, 1) := by decide +kernel
theorem d_L_law_1412 : decode code 1412 = .ok (.iaload, 1) := by decide +kernel
theorem d_L_law_1413 : decode code 1413 = .ok (.invokevirtual 127, 3) := by decide +kernel
theorem d_L_law_1416 : decode code 1416 = .ok (.lstore 6, 2) := by decide +kernel
theorem d_L_law_1418 : decode code 1418 = .ok (.aload_n 2, 1) := by decide +kernel
theorem d_L_law_1419 : decode code 1419 = .ok (.invokevirtual 85, 3) := by decide +kernel
theorem d_L_law_1422 : decode code 1422 = .ok (.iload 5, 2) := by decide +kernel
theorem d_L_law_1424 : decode code 1424 = .ok (.if_icmp .eq 5, 3) := by decide +kernel
theorem d_L_law_1427 : decode code 1427 = .ok (.iconst 0, 1) := by decide +kernel
theorem d_L_law_1428 : decode code 1428 = .ok (.ireturn, 1) := by decide +kernel
theorem d_L_law_1429 : decode code 1429 = .ok (.iload 5, 2) := by decide +kernel
theorem d_L_law_1431 : decode code 1431 = .ok (.ifCond .ne 14, 3) := by decide +kernel
theorem d_L_law_1434 : decode code 1434 = .ok (.aload_n 3, 1) := by decide +kernel
theorem d_L_law_1435 : decode code 1435 = .ok (.iconst 0, 1) := by decide +kernel
theorem d_L_law_1436 : decode code 1436 = .ok (.laload, 1) := by decide +kernel
theorem d_L_law_1437 : decode code 1437 = .ok (.lload 6, 2) := by decide +kernel
theorem d_L_law_1439 : decode code 1439 = .ok (.lcmp, 1) := by decide +kernel
theorem d_L_law_1440 : decode code 1440 = .ok (.ifCond .eq 5, 3) := by decide +kernel
theorem d_L_law_1443 : decode code 1443 = .ok (.iconst 0, 1) := by decide +kernel
theorem d_L_law_1444 : decode code 1444 = .ok (.ireturn, 1) := by decide +kernel
theorem d_L_law_1445 : decode code 1445 = .ok (.goto 154, 3) := by decide +kernel
theorem d_L_law_1448 : decode code 1448 = .ok (.aload_n 1, 1) := by decide +kernel
theorem d_L_law_1449 : decode code 1449 = .ok (.aload_n 0, 1) := by decide +kernel
theorem d_L_law_1450 : decode code 1450 = .ok (.iload 4, 2) := by decide +kernel
theorem d_L_law_1452 : decode code 1452 = .ok (.iconst 1, 1) := by decide +kernel
theorem d_L_law_1453 : decode code 1453 = .ok (.iadd, 1) := by decide +kernel
theorem d_L_law_1454 : decode code 1454 = .ok (.iaload, 1) := by decide +kernel
theorem d_L_law_1455 : decode code 1455 = .ok (.aload_n 3, 1) := by decide +kernel
theorem d_L_law_1456 : decode code 1456 = .ok (.invokestatic 128, 3) := by decide +kernel
theorem d_L_law_1459 : decode code 1459 = .ok (.istore 5, 2) := by decide +kernel
theorem d_L_law_1461 : decode code 1461 = .ok (.aload_n 2, 1) := by decide +kernel
theorem d_L_law_1462 : decode code 1462 = .ok (.aload_n 0, 1) := by decide +kernel
theorem d_L_law_1463 : decode code 1463 = .ok (.iload 4, 2) := by decide +kernel
theorem d_L_law_1465 : decode code 1465 = .ok (.iconst 1, 1) := by decide +kernel
theorem d_L_law_1466 : decode code 1466 = .ok (.iadd, 1) := by decide +kernel
theorem d_L_law_1467 : decode code 1467 = .ok (.iaload, 1) := by decide +kernel
theorem d_L_law_1468 : decode code 1468 = .ok (.invokevirtual 131, 3) := by decide +kernel
theorem d_L_law_1471 : decode code 1471 = .ok (.istore 6, 2) := by decide +kernel
theorem d_L_law_1473 : decode code 1473 = .ok (.aload_n 2, 1) := by decide +kernel
theorem d_L_law_1474 : decode code 1474 = .ok (.invokevirtual 85, 3) := by decide +kernel
theorem d_L_law_1477 : decode code 1477 = .ok (.iload 5, 2) := by decide +kernel
theorem d_L_law_1479 : decode code 1479 = .ok (.if_icmp .eq 5, 3) := by decide +kernel
theorem d_L_law_1482 : decode code 1482 = .ok (.iconst 0, 1) := by decide +kernel
theorem d_L_law_1483 : decode code 1483 = .ok (.ireturn, 1) := by decide +kernel
theorem d_L_law_1484 : decode code 1484 = .ok (.iload 5, 2) := by decide +kernel
theorem d_L_law_1486 : decode code 1486 = .ok (.ifCond .ne 15, 3) := by decide +kernel
theorem d_L_law_1489 : decode code 1489 = .ok (.aload_n 3, 1) := by decide +kernel
theorem d_L_law_1490 : decode code 1490 = .ok (.iconst 0, 1) := by decide +kernel
theorem d_L_law_1491 : decode code 1491 = .ok (.laload, 1) := by decide +kernel
theorem d_L_law_1492 : decode code 1492 = .ok (.iload 6, 2) := by decide +kernel
theorem d_L_law_1494 : decode code 1494 = .ok (.i2l, 1) := by decide +kernel
theorem d_L_law_1495 : decode code 1495 = .ok (.lcmp, 1) := by decide +kernel
theorem d_L_law_1496 : decode code 1496 = .ok (.ifCond .eq 5, 3) := by decide +kernel
theorem d_L_law_1499 : decode code 1499 = .ok (.iconst 0, 1) := by decide +kernel
theorem d_L_law_1500 : decode code 1500 = .ok (.ireturn, 1) := by decide +kernel
theorem d_L_law_1501 : decode code 1501 = .ok (.goto 98, 3) := by decide +kernel
theorem d_L_law_1504 : decode code 1504 = .ok (.aload_n 1, 1) := by decide +kernel
theorem d_L_law_1505 : decode code 1505 = .ok (.aload_n 0, 1) := by decide +kernel
theorem d_L_law_1506 : decode code 1506 = .ok (.iload 4, 2) := by decide +kernel
theorem d_L_law_1508 : decode code 1508 = .ok (.iconst 1, 1) := by decide +kernel
theorem d_L_law_1509 : decode code 1509 = .ok (.iadd, 1) := by decide +kernel
theorem d_L_law_1510 : decode code 1510 = .ok (.iaload, 1) := by decide +kernel
theorem d_L_law_1511 : decode code 1511 = .ok (.aload_n 0, 1) := by decide +kernel
theorem d_L_law_1512 : decode code 1512 = .ok (.iload 4, 2) := by decide +kernel
theorem d_L_law_1514 : decode code 1514 = .ok (.iconst 2, 1) := by decide +kernel
theorem d_L_law_1515 : decode code 1515 = .ok (.iadd, 1) := by decide +kernel
theorem d_L_law_1516 : decode code 1516 = .ok (.iaload, 1) := by decide +kernel
theorem d_L_law_1517 : decode code 1517 = .ok (.aload_n 3, 1) := by decide +kernel
theorem d_L_law_1518 : decode code 1518 = .ok (.invokestatic 132, 3) := by decide +kernel
theorem d_L_law_1521 : decode code 1521 = .ok (.istore 5, 2) := by decide +kernel
theorem d_L_law_1523 : decode code 1523 = .ok (.aload_n 2, 1) := by decide +kernel
theorem d_L_law_1524 : decode code 1524 = .ok (.aload_n 0, 1) := by decide +kernel
theorem d_L_law_1525 : decode code 1525 = .ok (.iload 4, 2) := by decide +kernel
theorem d_L_law_1527 : decode code 1527 = .ok (.iconst 1, 1) := by decide +kernel
theorem d_L_law_1528 : decode code 1528 = .ok (.iadd, 1) := by decide +kernel
theorem d_L_law_1529 : decode code 1529 = .ok (.iaload, 1) := by decide +kernel
theorem d_L_law_1530 : decode code 1530 = .ok (.aload_n 0, 1) := by decide +kernel
theorem d_L_law_1531 : decode code 1531 = .ok (.iload 4, 2) := by decide +kernel
theorem d_L_law_1533 : decode code 1533 = .ok (.iconst 2, 1) := by decide +kernel
theorem d_L_law_1534 : decode code 1534 = .ok (.iadd, 1) := by decide +kernel
theorem d_L_law_1535 : decode code 1535 = .ok (.iaload, 1) := by decide +kernel
theorem d_L_law_1536 : decode code 1536 = .ok (.invokevirtual 134, 3) := by decide +kernel
theorem d_L_law_1539 : decode code 1539 = .ok (.istore 6, 2) := by decide +kernel
theorem d_L_law_1541 : decode code 1541 = .ok (.aload_n 2, 1) := by decide +kernel
theorem d_L_law_1542 : decode code 1542 = .ok (.invokevirtual 85, 3) := by decide +kernel
theorem d_L_law_1545 : decode code 1545 = .ok (.iload 5, 2) := by decide +kernel
theorem d_L_law_1547 : decode code 1547 = .ok (.if_icmp .eq 5, 3) := by decide +kernel
theorem d_L_law_1550 : decode code 1550 = .ok (.iconst 0, 1) := by decide +kernel
theorem d_L_law_1551 : decode code 1551 = .ok (.ireturn, 1) := by decide +kernel
theorem d_L_law_1552 : decode code 1552 = .ok (.iload 5, 2) := by decide +kernel
theorem d_L_law_1554 : decode code 1554 = .ok (.ifCond .ne 15, 3) := by decide +kernel
theorem d_L_law_1557 : decode code 1557 = .ok (.aload_n 3, 1) := by decide +kernel
theorem d_L_law_1558 : decode code 1558 = .ok (.iconst 0, 1) := by decide +kernel
theorem d_L_law_1559 : decode code 1559 = .ok (.laload, 1) := by decide +kernel
theorem d_L_law_1560 : decode code 1560 = .ok (.iload 6, 2) := by decide +kernel
theorem d_L_law_1562 : decode code 1562 = .ok (.i2l, 1) := by decide +kernel
theorem d_L_law_1563 : decode code 1563 = .ok (.lcmp, 1) := by decide +kernel
theorem d_L_law_1564 : decode code 1564 = .ok (.ifCond .eq 5, 3) := by decide +kernel
theorem d_L_law_1567 : decode code 1567 = .ok (.iconst 0, 1) := by decide +kernel
theorem d_L_law_1568 : decode code 1568 = .ok (.ireturn, 1) := by decide +kernel
theorem d_L_law_1569 : decode code 1569 = .ok (.goto 30, 3) := by decide +kernel
theorem d_L_law_1572 : decode code 1572 = .ok (.aload_n 1, 1) := by decide +kernel
theorem d_L_law_1573 : decode code 1573 = .ok (.invokevirtual 135, 3) := by decide +kernel
theorem d_L_law_1576 : decode code 1576 = .ok (.aload_n 2, 1) := by decide +kernel
theorem d_L_law_1577 : decode code 1577 = .ok (.invokevirtual 138, 3) := by decide +kernel
theorem d_L_law_1580 : decode code 1580 = .ok (.if_icmp .eq 19, 3) := by decide +kernel
theorem d_L_law_1583 : decode code 1583 = .ok (.iconst 0, 1) := by decide +kernel
theorem d_L_law_1584 : decode code 1584 = .ok (.ireturn, 1) := by decide +kernel
theorem d_L_law_1585 : decode code 1585 = .ok (.aload_n 1, 1) := by decide +kernel
theorem d_L_law_1586 : decode code 1586 = .ok (.invokevirtual 139, 3) := by decide +kernel
theorem d_L_law_1589 : decode code 1589 = .ok (.aload_n 2, 1) := by decide +kernel
theorem d_L_law_1590 : decode code 1590 = .ok (.invokevirtual 143, 3) := by decide +kernel
theorem d_L_law_1593 : decode code 1593 = .ok (.lcmp, 1) := by decide +kernel
theorem d_L_law_1594 : decode code 1594 = .ok (.ifCond .eq 5, 3) := by decide +kernel
theorem d_L_law_1597 : decode code 1597 = .ok (.iconst 0, 1) := by decide +kernel
theorem d_L_law_1598 : decode code 1598 = .ok (.ireturn, 1) := by decide +kernel
theorem d_L_law_1599 : decode code 1599 = .ok (.iinc 4 9, 3) := by decide +kernel
theorem d_L_law_1602 : decode code 1602 = .ok (.goto (-1569), 3) := by decide +kernel
theorem d_L_law_1605 : decode code 1605 = .ok (.iconst 1, 1) := by decide +kernel
theorem d_L_law_1606 : decode code 1606 = .ok (.ireturn, 1) := by decide +kernel
