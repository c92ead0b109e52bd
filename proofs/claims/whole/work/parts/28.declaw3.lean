theorem dL_law_1320 : decode code 1320 = .ok (.aload_n 0, 1) := by decide +kernel
theorem dL_law_1321 : decode code 1321 = .ok (.iload 4, 2) := by decide +kernel
theorem dL_law_1323 : decode code 1323 = .ok (.iconst 1, 1) := by decide +kernel
theorem dL_law_1324 : decode code 1324 = .ok (.iadd, 1) := by decide +kernel
theorem dL_law_1325 : decode code 1325 = .ok (.iaload, 1) := by decide +kernel
theorem dL_law_1326 : decode code 1326 = .ok (.aload_n 0, 1) := by decide +kernel
theorem dL_law_1327 : decode code 1327 = .ok (.iload 4, 2) := by decide +kernel
theorem dL_law_1329 : decode code 1329 = .ok (.iconst 2, 1) := by decide +kernel
theorem dL_law_1330 : decode code 1330 = .ok (.iadd, 1) := by decide +kernel
theorem dL_law_1331 : decode code 1331 = .ok (.iaload, 1) := by decide +kernel
theorem dL_law_1332 : decode code 1332 = .ok (.aload_n 3, 1) := by decide +kernel
theorem dL_law_1333 : decode code 1333 = .ok (.invokestatic 185, 3) := by decide +kernel
theorem dL_law_1336 : decode code 1336 = .ok (.istore 5, 2) := by decide +kernel
theorem dL_law_1338 : decode code 1338 = .ok (.aload_n 2, 1) := by decide +kernel
theorem dL_law_1339 : decode code 1339 = .ok (.aload_n 0, 1) := by decide +kernel
theorem dL_law_1340 : decode code 1340 = .ok (.iload 4, 2) := by decide +kernel
theorem dL_law_1342 : decode code 1342 = .ok (.iconst 1, 1) := by decide +kernel
theorem dL_law_1343 : decode code 1343 = .ok (.iadd, 1) := by decide +kernel
theorem dL_law_1344 : decode code 1344 = .ok (.iaload, 1) := by decide +kernel
theorem dL_law_1345 : decode code 1345 = .ok (.aload_n 0, 1) := by decide +kernel
theorem dL_law_1346 : decode code 1346 = .ok (.iload 4, 2) := by decide +kernel
theorem dL_law_1348 : decode code 1348 = .ok (.iconst 2, 1) := by decide +kernel
theorem dL_law_1349 : decode code 1349 = .ok (.iadd, 1) := by decide +kernel
theorem dL_law_1350 : decode code 1350 = .ok (.iaload, 1) := by decide +kernel
theorem dL_law_1351 : decode code 1351 = .ok (.invokevirtual 187, 3) := by decide +kernel
theorem dL_law_1354 : decode code 1354 = .ok (.istore 6, 2) := by decide +kernel
theorem dL_law_1356 : decode code 1356 = .ok (.aload_n 2, 1) := by decide +kernel
theorem dL_law_1357 : decode code 1357 = .ok (.invokevirtual 100, 3) := by decide +kernel
theorem dL_law_1360 : decode code 1360 = .ok (.iload 5, 2) := by decide +kernel
theorem dL_law_1362 : decode code 1362 = .ok (.if_icmp .eq 5, 3) := by decide +kernel
theorem dL_law_1365 : decode code 1365 = .ok (.iconst 0, 1) := by decide +kernel
theorem dL_law_1366 : decode code 1366 = .ok (.ireturn, 1) := by decide +kernel
theorem dL_law_1367 : decode code 1367 = .ok (.iload 5, 2) := by decide +kernel
theorem dL_law_1369 : decode code 1369 = .ok (.ifCond .ne 15, 3) := by decide +kernel
theorem dL_law_1372 : decode code 1372 = .ok (.aload_n 3, 1) := by decide +kernel
theorem dL_law_1373 : decode code 1373 = .ok (.iconst 0, 1) := by decide +kernel
theorem dL_law_1374 : decode code 1374 = .ok (.laload, 1) := by decide +kernel
theorem dL_law_1375 : decode code 1375 = .ok (.iload 6, 2) := by decide +kernel
theorem dL_law_1377 : decode code 1377 = .ok (.i2l, 1) := by decide +kernel
theorem dL_law_1378 : decode code 1378 = .ok (.lcmp, 1) := by decide +kernel
theorem dL_law_1379 : decode code 1379 = .ok (.ifCond .eq 5, 3) := by decide +kernel
theorem dL_law_1382 : decode code 1382 = .ok (.iconst 0, 1) := by decide +kernel
theorem dL_law_1383 : decode code 1383 = .ok (.ireturn, 1) := by decide +kernel
theorem dL_law_1384 : decode code 1384 = .ok (.goto 320, 3) := by decide +kernel
theorem dL_law_1387 : decode code 1387 = .ok (.aload_n 1, 1) := by decide +kernel
theorem dL_law_1388 : decode code 1388 = .ok (.aload_n 0, 1) := by decide +kernel
theorem dL_law_1389 : decode code 1389 = .ok (.iload 4, 2) := by decide +kernel
theorem dL_law_1391 : decode code 1391 = .ok (.iconst 1, 1) := by decide +kernel
theorem dL_law_1392 : decode code 1392 = .ok (.iadd, 1) := by decide +kernel
theorem dL_law_1393 : decode code 1393 = .ok (.iaload, 1) := by decide +kernel
theorem dL_law_1394 : decode code 1394 = .ok (.aload_n 0, 1) := by decide +kernel
theorem dL_law_1395 : decode code 1395 = .ok (.iload 4, 2) := by decide +kernel
theorem dL_law_1397 : decode code 1397 = .ok (.iconst 2, 1) := by decide +kernel
theorem dL_law_1398 : decode code 1398 = .ok (.iadd, 1) := by decide +kernel
theorem dL_law_1399 : decode code 1399 = .ok (.iaload, 1) := by decide +kernel
theorem dL_law_1400 : decode code 1400 = .ok (.aload_n 3, 1) := by decide +kernel
theorem dL_law_1401 : decode code 1401 = .ok (.invokestatic 188, 3) := by decide +kernel
theorem dL_law_1404 : decode code 1404 = .ok (.istore 5, 2) := by decide +kernel
theorem dL_law_1406 : decode code 1406 = .ok (.aload_n 2, 1) := by decide +kernel
theorem dL_law_1407 : decode code 1407 = .ok (.aload_n 0, 1) := by decide +kernel
theorem dL_law_1408 : decode code 1408 = .ok (.iload 4, 2) := by decide +kernel
theorem dL_law_1410 : decode code 1410 = .ok (.iconst 1, 1) := by decide +kernel
theorem dL_law_1411 : decode code 1411 = .ok (.iadd, 1) := by decide +kernel
theorem dL_law_1412 : decode code 1412 = .ok (.iaload, 1) := by decide +kernel
theorem dL_law_1413 : decode code 1413 = .ok (.aload_n 0, 1) := by decide +kernel
theorem dL_law_1414 : decode code 1414 = .ok (.iload 4, 2) := by decide +kernel
theorem dL_law_1416 : decode code 1416 = .ok (.iconst 2, 1) := by decide +kernel
theorem dL_law_1417 : decode code 1417 = .ok (.iadd, 1) := by decide +kernel
theorem dL_law_1418 : decode code 1418 = .ok (.iaload, 1) := by decide +kernel
theorem dL_law_1419 : decode code 1419 = .ok (.invokevirtual 190, 3) := by decide +kernel
theorem dL_law_1422 : decode code 1422 = .ok (.istore 6, 2) := by decide +kernel
theorem dL_law_1424 : decode code 1424 = .ok (.aload_n 2, 1) := by decide +kernel
theorem dL_law_1425 : decode code 1425 = .ok (.invokevirtual 100, 3) := by decide +kernel
theorem dL_law_1428 : decode code 1428 = .ok (.iload 5, 2) := by decide +kernel
theorem dL_law_1430 : decode code 1430 = .ok (.if_icmp .eq 5, 3) := by decide +kernel
theorem dL_law_1433 : decode code 1433 = .ok (.iconst 0, 1) := by decide +kernel
theorem dL_law_1434 : decode code 1434 = .ok (.ireturn, 1) := by decide +kernel
theorem dL_law_1435 : decode code 1435 = .ok (.iload 5, 2) := by decide +kernel
theorem dL_law_1437 : decode code 1437 = .ok (.ifCond .ne 15, 3) := by decide +kernel
theorem dL_law_1440 : decode code 1440 = .ok (.aload_n 3, 1) := by decide +kernel
theorem dL_law_1441 : decode code 1441 = .ok (.iconst 0, 1) := by decide +kernel
theorem dL_law_1442 : decode code 1442 = .ok (.laload, 1) := by decide +kernel
theorem dL_law_1443 : decode code 1443 = .ok (.iload 6, 2) := by decide +kernel
theorem dL_law_1445 : decode code 1445 = .ok (.i2l, 1) := by decide +kernel
theorem dL_law_1446 : decode code 1446 = .ok (.lcmp, 1) := by decide +kernel
theorem dL_law_1447 : decode code 1447 = .ok (.ifCond .eq 5, 3) := by decide +kernel
theorem dL_law_1450 : decode code 1450 = .ok (.iconst 0, 1) := by decide +kernel
theorem dL_law_1451 : decode code 1451 = .ok (.ireturn, 1) := by decide +kernel
theorem dL_law_1452 : decode code 1452 = .ok (.goto 252, 3) := by decide +kernel
theorem dL_law_1455 : decode code 1455 = .ok (.aload_n 1, 1) := by decide +kernel
theorem dL_law_1456 : decode code 1456 = .ok (.aload_n 0, 1) := by decide +kernel
theorem dL_law_1457 : decode code 1457 = .ok (.iload 4, 2) := by decide +kernel
theorem dL_law_1459 : decode code 1459 = .ok (.iconst 1, 1) := by decide +kernel
theorem dL_law_1460 : decode code 1460 = .ok (.iadd, 1) := by decide +kernel
theorem dL_law_1461 : decode code 1461 = .ok (.iaload, 1) := by decide +kernel
theorem dL_law_1462 : decode code 1462 = .ok (.aload_n 3, 1) := by decide +kernel
theorem dL_law_1463 : decode code 1463 = .ok (.invokestatic 191, 3) := by decide +kernel
theorem dL_law_1466 : decode code 1466 = .ok (.istore 5, 2) := by decide +kernel
theorem dL_law_1468 : decode code 1468 = .ok (.aload_n 2, 1) := by decide +kernel
theorem dL_law_1469 : decode code 1469 = .ok (.aload_n 0, 1) := by decide +kernel
theorem dL_law_1470 : decode code 1470 = .ok (.iload 4, 2) := by decide +kernel
theorem dL_law_1472 : decode code 1472 = .ok (.iconst 1, 1) := by decide +kernel
theorem dL_law_1473 : decode code 1473 = .ok (.iadd, 1) := by decide +kernel
theorem dL_law_1474 : decode code 1474 = .ok (.iaload, 1) := by decide +kernel
theorem dL_law_1475 : decode code 1475 = .ok (.invokevirtual 193, 3) := by decide +kernel
theorem dL_law_1478 : decode code 1478 = .ok (.istore 6, 2) := by decide +kernel
theorem dL_law_1480 : decode code 1480 = .ok (.aload_n 2, 1) := by decide +kernel
theorem dL_law_1481 : decode code 1481 = .ok (.invokevirtual 100, 3) := by decide +kernel
theorem dL_law_1484 : decode code 1484 = .ok (.iload 5, 2) := by decide +kernel
theorem dL_law_1486 : decode code 1486 = .ok (.if_icmp .eq 5, 3) := by decide +kernel
theorem dL_law_1489 : decode code 1489 = .ok (.iconst 0, 1) := by decide +kernel
theorem dL_law_1490 : decode code 1490 = .ok (.ireturn, 1) := by decide +kernel
theorem dL_law_1491 : decode code 1491 = .ok (.iload 5, 2) := by decide +kernel
theorem dL_law_1493 : decode code 1493 = .ok (.ifCond .ne 15, 3) := by decide +kernel
theorem dL_law_1496 : decode code 1496 = .ok (.aload_n 3, 1) := by decide +kernel
theorem dL_law_1497 : decode code 1497 = .ok (.iconst 0, 1) := by decide +kernel
theorem dL_law_1498 : decode code 1498 = .ok (.laload, 1) := by decide +kernel
theorem dL_law_1499 : decode code 1499 = .ok (.iload 6, 2) := by decide +kernel
theorem dL_law_1501 : decode code 1501 = .ok (.i2l, 1) := by decide +kernel
theorem dL_law_1502 : decode code 1502 = .ok (.lcmp, 1) := by decide +kernel
theorem dL_law_1503 : decode code 1503 = .ok (.ifCond .eq 5, 3) := by decide +kernel
theorem dL_law_1506 : decode code 1506 = .ok (.iconst 0, 1) := by decide +kernel
theorem dL_law_1507 : decode code 1507 = .ok (.ireturn, 1) := by decide +kernel
theorem dL_law_1508 : decode code 1508 = .ok (.goto 196, 3) := by decide +kernel
theorem dL_law_1511 : decode code 1511 = .ok (.aload_n 1, 1) := by decide +kernel
theorem dL_law_1512 : decode code 1512 = .ok (.aload_n 0, 1) := by decide +kernel
theorem dL_law_1513 : decode code 1513 = .ok (.iload 4, 2) := by decide +kernel
theorem dL_law_1515 : decode code 1515 = .ok (.iconst 1, 1) := by decide +kernel
theorem dL_law_1516 : decode code 1516 = .ok (.iadd, 1) := by decide +kernel
theorem dL_law_1517 : decode code 1517 = .ok (.iaload, 1) := by decide +kernel
theorem dL_law_1518 : decode code 1518 = .ok (.aload_n 3, 1) := by decide +kernel
theorem dL_law_1519 : decode code 1519 = .ok (.invokestatic 194, 3) := by decide +kernel
theorem dL_law_1522 : decode code 1522 = .ok (.istore 5, 2) := by decide +kernel
theorem dL_law_1524 : decode code 1524 = .ok (.aload_n 2, 1) := by decide +kernel
theorem dL_law_1525 : decode code 1525 = .ok (.aload_n 0, 1) := by decide +kernel
theorem dL_law_1526 : decode code 1526 = .ok (.iload 4, 2) := by decide +kernel
theorem dL_law_1528 : decode code 1528 = .ok (.iconst 1, 1) := by decide +kernel
theorem dL_law_1529 : decode code 1529 = .ok (.iadd, 1) := by decide +kernel
theorem dL_law_1530 : decode code 1530 = .ok (.iaload, 1) := by decide +kernel
theorem dL_law_1531 : decode code 1531 = .ok (.invokevirtual 196, 3) := by decide +kernel
theorem dL_law_1534 : decode code 1534 = .ok (.istore 6, 2) := by decide +kernel
theorem dL_law_1536 : decode code 1536 = .ok (.aload_n 2, 1) := by decide +kernel
theorem dL_law_1537 : decode code 1537 = .ok (.invokevirtual 100, 3) := by decide +kernel
theorem dL_law_1540 : decode code 1540 = .ok (.iload 5, 2) := by decide +kernel
theorem dL_law_1542 : decode code 1542 = .ok (.if_icmp .eq 5, 3) := by decide +kernel
theorem dL_law_1545 : decode code 1545 = .ok (.iconst 0, 1) := by decide +kernel
theorem dL_law_1546 : decode code 1546 = .ok (.ireturn, 1) := by decide +kernel
theorem dL_law_1547 : decode code 1547 = .ok (.iload 5, 2) := by decide +kernel
theorem dL_law_1549 : decode code 1549 = .ok (.ifCond .ne 15, 3) := by decide +kernel
theorem dL_law_1552 : decode code 1552 = .ok (.aload_n 3, 1) := by decide +kernel
theorem dL_law_1553 : decode code 1553 = .ok (.iconst 0, 1) := by decide +kernel
theorem dL_law_1554 : decode code 1554 = .ok (.laload, 1) := by decide +kernel
theorem dL_law_1555 : decode code 1555 = .ok (.iload 6, 2) := by decide +kernel
theorem dL_law_1557 : decode code 1557 = .ok (.i2l, 1) := by decide +kernel
theorem dL_law_1558 : decode code 1558 = .ok (.lcmp, 1) := by decide +kernel
theorem dL_law_1559 : decode code 1559 = .ok (.ifCond .eq 5, 3) := by decide +kernel
theorem dL_law_1562 : decode code 1562 = .ok (.iconst 0, 1) := by decide +kernel
theorem dL_law_1563 : decode code 1563 = .ok (.ireturn, 1) := by decide +kernel
theorem dL_law_1564 : decode code 1564 = .ok (.goto 140, 3) := by decide +kernel
theorem dL_law_1567 : decode code 1567 = .ok (.aload_n 1, 1) := by decide +kernel
theorem dL_law_1568 : decode code 1568 = .ok (.aload_n 0, 1) := by decide +kernel
theorem dL_law_1569 : decode code 1569 = .ok (.iload 4, 2) := by decide +kernel
theorem dL_law_1571 : decode code 1571 = .ok (.iconst 1, 1) := by decide +kernel
theorem dL_law_1572 : decode code 1572 = .ok (.iadd, 1) := by decide +kernel
theorem dL_law_1573 : decode code 1573 = .ok (.iaload, 1) := by decide +kernel
theorem dL_law_1574 : decode code 1574 = .ok (.aload_n 3, 1) := by decide +kernel
theorem dL_law_1575 : decode code 1575 = .ok (.invokestatic 197, 3) := by decide +kernel
theorem dL_law_1578 : decode code 1578 = .ok (.istore 5, 2) := by decide +kernel
theorem dL_law_1580 : decode code 1580 = .ok (.aload_n 2, 1) := by decide +kernel
theorem dL_law_1581 : decode code 1581 = .ok (.aload_n 0, 1) := by decide +kernel
theorem dL_law_1582 : decode code 1582 = .ok (.iload 4, 2) := by decide +kernel
theorem dL_law_1584 : decode code 1584 = .ok (.iconst 1, 1) := by decide +kernel
theorem dL_law_1585 : decode code 1585 = .ok (.iadd, 1) := by decide +kernel
theorem dL_law_1586 : decode code 1586 = .ok (.iaload, 1) := by decide +kernel
theorem dL_law_1587 : decode code 1587 = .ok (.invokevirtual 199, 3) := by decide +kernel
theorem dL_law_1590 : decode code 1590 = .ok (.istore 6, 2) := by decide +kernel
theorem dL_law_1592 : decode code 1592 = .ok (.aload_n 2, 1) := by decide +kernel
theorem dL_law_1593 : decode code 1593 = .ok (.invokevirtual 100, 3) := by decide +kernel
theorem dL_law_1596 : decode code 1596 = .ok (.iload 5, 2) := by decide +kernel
theorem dL_law_1598 : decode code 1598 = .ok (.if_icmp .eq 5, 3) := by decide +kernel
theorem dL_law_1601 : decode code 1601 = .ok (.iconst 0, 1) := by decide +kernel
theorem dL_law_1602 : decode code 1602 = .ok (.ireturn, 1) := by decide +kernel
theorem dL_law_1603 : decode code 1603 = .ok (.iload 5, 2) := by decide +kernel
theorem dL_law_1605 : decode code 1605 = .ok (.ifCond .ne 15, 3) := by decide +kernel
theorem dL_law_1608 : decode code 1608 = .ok (.aload_n 3, 1) := by decide +kernel
theorem dL_law_1609 : decode code 1609 = .ok (.iconst 0, 1) := by decide +kernel
theorem dL_law_1610 : decode code 1610 = .ok (.laload, 1) := by decide +kernel
theorem dL_law_1611 : decode code 1611 = .ok (.iload 6, 2) := by decide +kernel
theorem dL_law_1613 : decode code 1613 = .ok (.i2l, 1) := by decide +kernel
theorem dL_law_1614 : decode code 1614 = .ok (.lcmp, 1) := by decide +kernel
theorem dL_law_1615 : decode code 1615 = .ok (.ifCond .eq 5, 3) := by decide +kernel
theorem dL_law_1618 : decode code 1618 = .ok (.iconst 0, 1) := by decide +kernel
theorem dL_law_1619 : decode code 1619 = .ok (.ireturn, 1) := by decide +kernel
theorem dL_law_1620 : decode code 1620 = .ok (.goto 84, 3) := by decide +kernel
theorem dL_law_1623 : decode code 1623 = .ok (.aload_n 1, 1) := by decide +kernel
theorem dL_law_1624 : decode code 1624 = .ok (.aload_n 0, 1) := by decide +kernel
theorem dL_law_1625 : decode code 1625 = .ok (.iload 4, 2) := by decide +kernel
theorem dL_law_1627 : decode code 1627 = .ok (.iconst 1, 1) := by decide +kernel
theorem dL_law_1628 : decode code 1628 = .ok (.iadd, 1) := by decide +kernel
theorem dL_law_1629 : decode code 1629 = .ok (.iaload, 1) := by decide +kernel
theorem dL_law_1630 : decode code 1630 = .ok (.aload_n 3, 1) := by decide +kernel
theorem dL_law_1631 : decode code 1631 = .ok (.invokestatic 200, 3) := by decide +kernel
theorem dL_law_1634 : decode code 1634 = .ok (.istore 5, 2) := by decide +kernel
theorem dL_law_1636 : decode code 1636 = .ok (.aload_n 2, 1) := by decide +kernel
theorem dL_law_1637 : decode code 1637 = .ok (.aload_n 0, 1) := by decide +kernel
theorem dL_law_1638 : decode code 1638 = .ok (.iload 4, 2) := by decide +kernel
theorem dL_law_1640 : decode code 1640 = .ok (.iconst 1, 1) := by decide +kernel
theorem dL_law_1641 : decode code 1641 = .ok (.iadd, 1) := by decide +kernel
theorem dL_law_1642 : decode code 1642 = .ok (.iaload, 1) := by decide +kernel
theorem dL_law_1643 : decode code 1643 = .ok (.invokevirtual 202, 3) := by decide +kernel
theorem dL_law_1646 : decode code 1646 = .ok (.istore 6, 2) := by decide +kernel
theorem dL_law_1648 : decode code 1648 = .ok (.aload_n 2, 1) := by decide +kernel
theorem dL_law_1649 : decode code 1649 = .ok (.invokevirtual 100, 3) := by decide +kernel
theorem dL_law_1652 : decode code 1652 = .ok (.iload 5, 2) := by decide +kernel
theorem dL_law_1654 : decode code 1654 = .ok (.if_icmp .eq 5, 3) := by decide +kernel
theorem dL_law_1657 : decode code 1657 = .ok (.iconst 0, 1) := by decide +kernel
theorem dL_law_1658 : decode code 1658 = .ok (.ireturn, 1) := by decide +kernel
theorem dL_law_1659 : decode code 1659 = .ok (.iload 5, 2) := by decide +kernel
theorem dL_law_1661 : decode code 1661 = .ok (.ifCond .ne 15, 3) := by decide +kernel
theorem dL_law_1664 : decode code 1664 = .ok (.aload_n 3, 1) := by decide +kernel
theorem dL_law_1665 : decode code 1665 = .ok (.iconst 0, 1) := by decide +kernel
theorem dL_law_1666 : decode code 1666 = .ok (.laload, 1) := by decide +kernel
theorem dL_law_1667 : decode code 1667 = .ok (.iload 6, 2) := by decide +kernel
theorem dL_law_1669 : decode code 1669 = .ok (.i2l, 1) := by decide +kernel
theorem dL_law_1670 : decode code 1670 = .ok (.lcmp, 1) := by decide +kernel
theorem dL_law_1671 : decode code 1671 = .ok (.ifCond .eq 5, 3) := by decide +kernel
theorem dL_law_1674 : decode code 1674 = .ok (.iconst 0, 1) := by decide +kernel
theorem dL_law_1675 : decode code 1675 = .ok (.ireturn, 1) := by decide +kernel
theorem dL_law_1676 : decode code 1676 = .ok (.goto 28, 3) := by decide +kernel
theorem dL_law_1679 : decode code 1679 = .ok (.aload_n 1, 1) := by decide +kernel
theorem dL_law_1680 : decode code 1680 = .ok (.aload_n 0, 1) := by decide +kernel
theorem dL_law_1681 : decode code 1681 = .ok (.iload 4, 2) := by decide +kernel
theorem dL_law_1683 : decode code 1683 = .ok (.iconst 1, 1) := by decide +kernel
theorem dL_law_1684 : decode code 1684 = .ok (.iadd, 1) := by decide +kernel
theorem dL_law_1685 : decode code 1685 = .ok (.iaload, 1) := by decide +kernel
theorem dL_law_1686 : decode code 1686 = .ok (.invokevirtual 203, 3) := by decide +kernel
theorem dL_law_1689 : decode code 1689 = .ok (.aload_n 2, 1) := by decide +kernel
theorem dL_law_1690 : decode code 1690 = .ok (.aload_n 0, 1) := by decide +kernel
theorem dL_law_1691 : decode code 1691 = .ok (.iload 4, 2) := by decide +kernel
theorem dL_law_1693 : decode code 1693 = .ok (.iconst 1, 1) := by decide +kernel
theorem dL_law_1694 : decode code 1694 = .ok (.iadd, 1) := by decide +kernel
theorem dL_law_1695 : decode code 1695 = .ok (.iaload, 1) := by decide +kernel
theorem dL_law_1696 : decode code 1696 = .ok (.invokevirtual 206, 3) := by decide +kernel
theorem dL_law_1699 : decode code 1699 = .ok (.if_icmp .eq 5, 3) := by decide +kernel
theorem dL_law_1702 : decode code 1702 = .ok (.iconst 0, 1) := by decide +kernel
theorem dL_law_1703 : decode code 1703 = .ok (.ireturn, 1) := by decide +kernel
theorem dL_law_1704 : decode code 1704 = .ok (.iinc 4 5, 3) := by decide +kernel
theorem dL_law_1707 : decode code 1707 = .ok (.goto (-1684), 3) := by decide +kernel
theorem dL_law_1710 : decode code 1710 = .ok (.iconst 1, 1) := by decide +kernel
theorem dL_law_1711 : decode code 1711 = .ok (.ireturn, 1) := by decide +kernel
