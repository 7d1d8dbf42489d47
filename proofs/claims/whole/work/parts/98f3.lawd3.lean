theorem qL_law_1387 : decode (mB mL_law) 1387 = .ok (.aload_n 0, 1) := by decide +kernel
theorem qL_law_1388 : decode (mB mL_law) 1388 = .ok (.iload 4, 2) := by decide +kernel
theorem qL_law_1390 : decode (mB mL_law) 1390 = .ok (.iconst 1, 1) := by decide +kernel
theorem qL_law_1391 : decode (mB mL_law) 1391 = .ok (.iadd, 1) := by decide +kernel
theorem qL_law_1392 : decode (mB mL_law) 1392 = .ok (.iaload, 1) := by decide +kernel
theorem qL_law_1393 : decode (mB mL_law) 1393 = .ok (.invokevirtual 260, 3) := by decide +kernel
theorem qL_law_1396 : decode (mB mL_law) 1396 = .ok (.istore 6, 2) := by decide +kernel
theorem qL_law_1398 : decode (mB mL_law) 1398 = .ok (.aload_n 2, 1) := by decide +kernel
theorem qL_law_1399 : decode (mB mL_law) 1399 = .ok (.invokevirtual 180, 3) := by decide +kernel
theorem qL_law_1402 : decode (mB mL_law) 1402 = .ok (.iload 5, 2) := by decide +kernel
theorem qL_law_1404 : decode (mB mL_law) 1404 = .ok (.if_icmp .eq 5, 3) := by decide +kernel
theorem qL_law_1407 : decode (mB mL_law) 1407 = .ok (.iconst 0, 1) := by decide +kernel
theorem qL_law_1408 : decode (mB mL_law) 1408 = .ok (.ireturn, 1) := by decide +kernel
theorem qL_law_1409 : decode (mB mL_law) 1409 = .ok (.iload 5, 2) := by decide +kernel
theorem qL_law_1411 : decode (mB mL_law) 1411 = .ok (.ifCond .ne 15, 3) := by decide +kernel
theorem qL_law_1414 : decode (mB mL_law) 1414 = .ok (.aload_n 3, 1) := by decide +kernel
theorem qL_law_1415 : decode (mB mL_law) 1415 = .ok (.iconst 0, 1) := by decide +kernel
theorem qL_law_1416 : decode (mB mL_law) 1416 = .ok (.laload, 1) := by decide +kernel
theorem qL_law_1417 : decode (mB mL_law) 1417 = .ok (.iload 6, 2) := by decide +kernel
theorem qL_law_1419 : decode (mB mL_law) 1419 = .ok (.i2l, 1) := by decide +kernel
theorem qL_law_1420 : decode (mB mL_law) 1420 = .ok (.lcmp, 1) := by decide +kernel
theorem qL_law_1421 : decode (mB mL_law) 1421 = .ok (.ifCond .eq 5, 3) := by decide +kernel
theorem qL_law_1424 : decode (mB mL_law) 1424 = .ok (.iconst 0, 1) := by decide +kernel
theorem qL_law_1425 : decode (mB mL_law) 1425 = .ok (.ireturn, 1) := by decide +kernel
theorem qL_law_1426 : decode (mB mL_law) 1426 = .ok (.goto 2131, 3) := by decide +kernel
theorem qL_law_1429 : decode (mB mL_law) 1429 = .ok (.aload_n 1, 1) := by decide +kernel
theorem qL_law_1430 : decode (mB mL_law) 1430 = .ok (.aload_n 0, 1) := by decide +kernel
theorem qL_law_1431 : decode (mB mL_law) 1431 = .ok (.iload 4, 2) := by decide +kernel
theorem qL_law_1433 : decode (mB mL_law) 1433 = .ok (.iconst 1, 1) := by decide +kernel
theorem qL_law_1434 : decode (mB mL_law) 1434 = .ok (.iadd, 1) := by decide +kernel
theorem qL_law_1435 : decode (mB mL_law) 1435 = .ok (.iaload, 1) := by decide +kernel
theorem qL_law_1436 : decode (mB mL_law) 1436 = .ok (.aload_n 0, 1) := by decide +kernel
theorem qL_law_1437 : decode (mB mL_law) 1437 = .ok (.iload 4, 2) := by decide +kernel
theorem qL_law_1439 : decode (mB mL_law) 1439 = .ok (.iconst 2, 1) := by decide +kernel
theorem qL_law_1440 : decode (mB mL_law) 1440 = .ok (.iadd, 1) := by decide +kernel
theorem qL_law_1441 : decode (mB mL_law) 1441 = .ok (.iaload, 1) := by decide +kernel
theorem qL_law_1442 : decode (mB mL_law) 1442 = .ok (.aload_n 3, 1) := by decide +kernel
theorem qL_law_1443 : decode (mB mL_law) 1443 = .ok (.invokestatic 261, 3) := by decide +kernel
theorem qL_law_1446 : decode (mB mL_law) 1446 = .ok (.istore 5, 2) := by decide +kernel
theorem qL_law_1448 : decode (mB mL_law) 1448 = .ok (.aload_n 2, 1) := by decide +kernel
theorem qL_law_1449 : decode (mB mL_law) 1449 = .ok (.aload_n 0, 1) := by decide +kernel
theorem qL_law_1450 : decode (mB mL_law) 1450 = .ok (.iload 4, 2) := by decide +kernel
theorem qL_law_1452 : decode (mB mL_law) 1452 = .ok (.iconst 1, 1) := by decide +kernel
theorem qL_law_1453 : decode (mB mL_law) 1453 = .ok (.iadd, 1) := by decide +kernel
theorem qL_law_1454 : decode (mB mL_law) 1454 = .ok (.iaload, 1) := by decide +kernel
theorem qL_law_1455 : decode (mB mL_law) 1455 = .ok (.aload_n 0, 1) := by decide +kernel
theorem qL_law_1456 : decode (mB mL_law) 1456 = .ok (.iload 4, 2) := by decide +kernel
theorem qL_law_1458 : decode (mB mL_law) 1458 = .ok (.iconst 2, 1) := by decide +kernel
theorem qL_law_1459 : decode (mB mL_law) 1459 = .ok (.iadd, 1) := by decide +kernel
theorem qL_law_1460 : decode (mB mL_law) 1460 = .ok (.iaload, 1) := by decide +kernel
theorem qL_law_1461 : decode (mB mL_law) 1461 = .ok (.invokevirtual 263, 3) := by decide +kernel
theorem qL_law_1464 : decode (mB mL_law) 1464 = .ok (.istore 6, 2) := by decide +kernel
theorem qL_law_1466 : decode (mB mL_law) 1466 = .ok (.aload_n 2, 1) := by decide +kernel
theorem qL_law_1467 : decode (mB mL_law) 1467 = .ok (.invokevirtual 180, 3) := by decide +kernel
theorem qL_law_1470 : decode (mB mL_law) 1470 = .ok (.iload 5, 2) := by decide +kernel
theorem qL_law_1472 : decode (mB mL_law) 1472 = .ok (.if_icmp .eq 5, 3) := by decide +kernel
theorem qL_law_1475 : decode (mB mL_law) 1475 = .ok (.iconst 0, 1) := by decide +kernel
theorem qL_law_1476 : decode (mB mL_law) 1476 = .ok (.ireturn, 1) := by decide +kernel
theorem qL_law_1477 : decode (mB mL_law) 1477 = .ok (.iload 5, 2) := by decide +kernel
theorem qL_law_1479 : decode (mB mL_law) 1479 = .ok (.ifCond .ne 15, 3) := by decide +kernel
theorem qL_law_1482 : decode (mB mL_law) 1482 = .ok (.aload_n 3, 1) := by decide +kernel
theorem qL_law_1483 : decode (mB mL_law) 1483 = .ok (.iconst 0, 1) := by decide +kernel
theorem qL_law_1484 : decode (mB mL_law) 1484 = .ok (.laload, 1) := by decide +kernel
theorem qL_law_1485 : decode (mB mL_law) 1485 = .ok (.iload 6, 2) := by decide +kernel
theorem qL_law_1487 : decode (mB mL_law) 1487 = .ok (.i2l, 1) := by decide +kernel
theorem qL_law_1488 : decode (mB mL_law) 1488 = .ok (.lcmp, 1) := by decide +kernel
theorem qL_law_1489 : decode (mB mL_law) 1489 = .ok (.ifCond .eq 5, 3) := by decide +kernel
theorem qL_law_1492 : decode (mB mL_law) 1492 = .ok (.iconst 0, 1) := by decide +kernel
theorem qL_law_1493 : decode (mB mL_law) 1493 = .ok (.ireturn, 1) := by decide +kernel
theorem qL_law_1494 : decode (mB mL_law) 1494 = .ok (.goto 2063, 3) := by decide +kernel
theorem qL_law_1497 : decode (mB mL_law) 1497 = .ok (.aload_n 1, 1) := by decide +kernel
theorem qL_law_1498 : decode (mB mL_law) 1498 = .ok (.aload_n 0, 1) := by decide +kernel
theorem qL_law_1499 : decode (mB mL_law) 1499 = .ok (.iload 4, 2) := by decide +kernel
theorem qL_law_1501 : decode (mB mL_law) 1501 = .ok (.iconst 1, 1) := by decide +kernel
theorem qL_law_1502 : decode (mB mL_law) 1502 = .ok (.iadd, 1) := by decide +kernel
theorem qL_law_1503 : decode (mB mL_law) 1503 = .ok (.iaload, 1) := by decide +kernel
theorem qL_law_1504 : decode (mB mL_law) 1504 = .ok (.aload_n 0, 1) := by decide +kernel
theorem qL_law_1505 : decode (mB mL_law) 1505 = .ok (.iload 4, 2) := by decide +kernel
theorem qL_law_1507 : decode (mB mL_law) 1507 = .ok (.iconst 2, 1) := by decide +kernel
theorem qL_law_1508 : decode (mB mL_law) 1508 = .ok (.iadd, 1) := by decide +kernel
theorem qL_law_1509 : decode (mB mL_law) 1509 = .ok (.iaload, 1) := by decide +kernel
theorem qL_law_1510 : decode (mB mL_law) 1510 = .ok (.aload_n 3, 1) := by decide +kernel
theorem qL_law_1511 : decode (mB mL_law) 1511 = .ok (.invokestatic 264, 3) := by decide +kernel
theorem qL_law_1514 : decode (mB mL_law) 1514 = .ok (.istore 5, 2) := by decide +kernel
theorem qL_law_1516 : decode (mB mL_law) 1516 = .ok (.aload_n 2, 1) := by decide +kernel
theorem qL_law_1517 : decode (mB mL_law) 1517 = .ok (.aload_n 0, 1) := by decide +kernel
theorem qL_law_1518 : decode (mB mL_law) 1518 = .ok (.iload 4, 2) := by decide +kernel
theorem qL_law_1520 : decode (mB mL_law) 1520 = .ok (.iconst 1, 1) := by decide +kernel
theorem qL_law_1521 : decode (mB mL_law) 1521 = .ok (.iadd, 1) := by decide +kernel
theorem qL_law_1522 : decode (mB mL_law) 1522 = .ok (.iaload, 1) := by decide +kernel
theorem qL_law_1523 : decode (mB mL_law) 1523 = .ok (.aload_n 0, 1) := by decide +kernel
theorem qL_law_1524 : decode (mB mL_law) 1524 = .ok (.iload 4, 2) := by decide +kernel
theorem qL_law_1526 : decode (mB mL_law) 1526 = .ok (.iconst 2, 1) := by decide +kernel
theorem qL_law_1527 : decode (mB mL_law) 1527 = .ok (.iadd, 1) := by decide +kernel
theorem qL_law_1528 : decode (mB mL_law) 1528 = .ok (.iaload, 1) := by decide +kernel
theorem qL_law_1529 : decode (mB mL_law) 1529 = .ok (.invokevirtual 266, 3) := by decide +kernel
theorem qL_law_1532 : decode (mB mL_law) 1532 = .ok (.istore 6, 2) := by decide +kernel
theorem qL_law_1534 : decode (mB mL_law) 1534 = .ok (.aload_n 2, 1) := by decide +kernel
theorem qL_law_1535 : decode (mB mL_law) 1535 = .ok (.invokevirtual 180, 3) := by decide +kernel
theorem qL_law_1538 : decode (mB mL_law) 1538 = .ok (.iload 5, 2) := by decide +kernel
theorem qL_law_1540 : decode (mB mL_law) 1540 = .ok (.if_icmp .eq 5, 3) := by decide +kernel
theorem qL_law_1543 : decode (mB mL_law) 1543 = .ok (.iconst 0, 1) := by decide +kernel
theorem qL_law_1544 : decode (mB mL_law) 1544 = .ok (.ireturn, 1) := by decide +kernel
theorem qL_law_1545 : decode (mB mL_law) 1545 = .ok (.iload 5, 2) := by decide +kernel
theorem qL_law_1547 : decode (mB mL_law) 1547 = .ok (.ifCond .ne 15, 3) := by decide +kernel
theorem qL_law_1550 : decode (mB mL_law) 1550 = .ok (.aload_n 3, 1) := by decide +kernel
theorem qL_law_1551 : decode (mB mL_law) 1551 = .ok (.iconst 0, 1) := by decide +kernel
theorem qL_law_1552 : decode (mB mL_law) 1552 = .ok (.laload, 1) := by decide +kernel
theorem qL_law_1553 : decode (mB mL_law) 1553 = .ok (.iload 6, 2) := by decide +kernel
theorem qL_law_1555 : decode (mB mL_law) 1555 = .ok (.i2l, 1) := by decide +kernel
theorem qL_law_1556 : decode (mB mL_law) 1556 = .ok (.lcmp, 1) := by decide +kernel
theorem qL_law_1557 : decode (mB mL_law) 1557 = .ok (.ifCond .eq 5, 3) := by decide +kernel
theorem qL_law_1560 : decode (mB mL_law) 1560 = .ok (.iconst 0, 1) := by decide +kernel
theorem qL_law_1561 : decode (mB mL_law) 1561 = .ok (.ireturn, 1) := by decide +kernel
theorem qL_law_1562 : decode (mB mL_law) 1562 = .ok (.goto 1995, 3) := by decide +kernel
theorem qL_law_1565 : decode (mB mL_law) 1565 = .ok (.aload_n 1, 1) := by decide +kernel
theorem qL_law_1566 : decode (mB mL_law) 1566 = .ok (.aload_n 0, 1) := by decide +kernel
theorem qL_law_1567 : decode (mB mL_law) 1567 = .ok (.iload 4, 2) := by decide +kernel
theorem qL_law_1569 : decode (mB mL_law) 1569 = .ok (.iconst 1, 1) := by decide +kernel
theorem qL_law_1570 : decode (mB mL_law) 1570 = .ok (.iadd, 1) := by decide +kernel
theorem qL_law_1571 : decode (mB mL_law) 1571 = .ok (.iaload, 1) := by decide +kernel
theorem qL_law_1572 : decode (mB mL_law) 1572 = .ok (.aload_n 3, 1) := by decide +kernel
theorem qL_law_1573 : decode (mB mL_law) 1573 = .ok (.invokestatic 267, 3) := by decide +kernel
theorem qL_law_1576 : decode (mB mL_law) 1576 = .ok (.istore 5, 2) := by decide +kernel
theorem qL_law_1578 : decode (mB mL_law) 1578 = .ok (.aload_n 2, 1) := by decide +kernel
theorem qL_law_1579 : decode (mB mL_law) 1579 = .ok (.aload_n 0, 1) := by decide +kernel
theorem qL_law_1580 : decode (mB mL_law) 1580 = .ok (.iload 4, 2) := by decide +kernel
theorem qL_law_1582 : decode (mB mL_law) 1582 = .ok (.iconst 1, 1) := by decide +kernel
theorem qL_law_1583 : decode (mB mL_law) 1583 = .ok (.iadd, 1) := by decide +kernel
theorem qL_law_1584 : decode (mB mL_law) 1584 = .ok (.iaload, 1) := by decide +kernel
theorem qL_law_1585 : decode (mB mL_law) 1585 = .ok (.invokevirtual 269, 3) := by decide +kernel
theorem qL_law_1588 : decode (mB mL_law) 1588 = .ok (.istore 6, 2) := by decide +kernel
theorem qL_law_1590 : decode (mB mL_law) 1590 = .ok (.aload_n 2, 1) := by decide +kernel
theorem qL_law_1591 : decode (mB mL_law) 1591 = .ok (.invokevirtual 180, 3) := by decide +kernel
theorem qL_law_1594 : decode (mB mL_law) 1594 = .ok (.iload 5, 2) := by decide +kernel
theorem qL_law_1596 : decode (mB mL_law) 1596 = .ok (.if_icmp .eq 5, 3) := by decide +kernel
theorem qL_law_1599 : decode (mB mL_law) 1599 = .ok (.iconst 0, 1) := by decide +kernel
theorem qL_law_1600 : decode (mB mL_law) 1600 = .ok (.ireturn, 1) := by decide +kernel
theorem qL_law_1601 : decode (mB mL_law) 1601 = .ok (.iload 5, 2) := by decide +kernel
theorem qL_law_1603 : decode (mB mL_law) 1603 = .ok (.ifCond .ne 22, 3) := by decide +kernel
theorem qL_law_1606 : decode (mB mL_law) 1606 = .ok (.aload_n 3, 1) := by decide +kernel
theorem qL_law_1607 : decode (mB mL_law) 1607 = .ok (.iconst 0, 1) := by decide +kernel
theorem qL_law_1608 : decode (mB mL_law) 1608 = .ok (.laload, 1) := by decide +kernel
theorem qL_law_1609 : decode (mB mL_law) 1609 = .ok (.iload 6, 2) := by decide +kernel
theorem qL_law_1611 : decode (mB mL_law) 1611 = .ok (.ifCond .eq 7, 3) := by decide +kernel
theorem qL_law_1614 : decode (mB mL_law) 1614 = .ok (.lconst 1, 1) := by decide +kernel
theorem qL_law_1615 : decode (mB mL_law) 1615 = .ok (.goto 4, 3) := by decide +kernel
theorem qL_law_1618 : decode (mB mL_law) 1618 = .ok (.lconst 0, 1) := by decide +kernel
theorem qL_law_1619 : decode (mB mL_law) 1619 = .ok (.lcmp, 1) := by decide +kernel
theorem qL_law_1620 : decode (mB mL_law) 1620 = .ok (.ifCond .eq 5, 3) := by decide +kernel
theorem qL_law_1623 : decode (mB mL_law) 1623 = .ok (.iconst 0, 1) := by decide +kernel
theorem qL_law_1624 : decode (mB mL_law) 1624 = .ok (.ireturn, 1) := by decide +kernel
theorem qL_law_1625 : decode (mB mL_law) 1625 = .ok (.goto 1932, 3) := by decide +kernel
theorem qL_law_1628 : decode (mB mL_law) 1628 = .ok (.aload_n 1, 1) := by decide +kernel
theorem qL_law_1629 : decode (mB mL_law) 1629 = .ok (.aload_n 0, 1) := by decide +kernel
theorem qL_law_1630 : decode (mB mL_law) 1630 = .ok (.iload 4, 2) := by decide +kernel
theorem qL_law_1632 : decode (mB mL_law) 1632 = .ok (.iconst 1, 1) := by decide +kernel
theorem qL_law_1633 : decode (mB mL_law) 1633 = .ok (.iadd, 1) := by decide +kernel
theorem qL_law_1634 : decode (mB mL_law) 1634 = .ok (.iaload, 1) := by decide +kernel
theorem qL_law_1635 : decode (mB mL_law) 1635 = .ok (.aload_n 3, 1) := by decide +kernel
theorem qL_law_1636 : decode (mB mL_law) 1636 = .ok (.invokestatic 270, 3) := by decide +kernel
theorem qL_law_1639 : decode (mB mL_law) 1639 = .ok (.istore 5, 2) := by decide +kernel
theorem qL_law_1641 : decode (mB mL_law) 1641 = .ok (.aload_n 2, 1) := by decide +kernel
theorem qL_law_1642 : decode (mB mL_law) 1642 = .ok (.aload_n 0, 1) := by decide +kernel
theorem qL_law_1643 : decode (mB mL_law) 1643 = .ok (.iload 4, 2) := by decide +kernel
theorem qL_law_1645 : decode (mB mL_law) 1645 = .ok (.iconst 1, 1) := by decide +kernel
theorem qL_law_1646 : decode (mB mL_law) 1646 = .ok (.iadd, 1) := by decide +kernel
theorem qL_law_1647 : decode (mB mL_law) 1647 = .ok (.iaload, 1) := by decide +kernel
theorem qL_law_1648 : decode (mB mL_law) 1648 = .ok (.invokevirtual 272, 3) := by decide +kernel
theorem qL_law_1651 : decode (mB mL_law) 1651 = .ok (.istore 6, 2) := by decide +kernel
theorem qL_law_1653 : decode (mB mL_law) 1653 = .ok (.aload_n 2, 1) := by decide +kernel
theorem qL_law_1654 : decode (mB mL_law) 1654 = .ok (.invokevirtual 180, 3) := by decide +kernel
theorem qL_law_1657 : decode (mB mL_law) 1657 = .ok (.iload 5, 2) := by decide +kernel
theorem qL_law_1659 : decode (mB mL_law) 1659 = .ok (.if_icmp .eq 5, 3) := by decide +kernel
theorem qL_law_1662 : decode (mB mL_law) 1662 = .ok (.iconst 0, 1) := by decide +kernel
theorem qL_law_1663 : decode (mB mL_law) 1663 = .ok (.ireturn, 1) := by decide +kernel
theorem qL_law_1664 : decode (mB mL_law) 1664 = .ok (.iload 5, 2) := by decide +kernel
theorem qL_law_1666 : decode (mB mL_law) 1666 = .ok (.ifCond .ne 15, 3) := by decide +kernel
theorem qL_law_1669 : decode (mB mL_law) 1669 = .ok (.aload_n 3, 1) := by decide +kernel
theorem qL_law_1670 : decode (mB mL_law) 1670 = .ok (.iconst 0, 1) := by decide +kernel
theorem qL_law_1671 : decode (mB mL_law) 1671 = .ok (.laload, 1) := by decide +kernel
theorem qL_law_1672 : decode (mB mL_law) 1672 = .ok (.iload 6, 2) := by decide +kernel
theorem qL_law_1674 : decode (mB mL_law) 1674 = .ok (.i2l, 1) := by decide +kernel
theorem qL_law_1675 : decode (mB mL_law) 1675 = .ok (.lcmp, 1) := by decide +kernel
theorem qL_law_1676 : decode (mB mL_law) 1676 = .ok (.ifCond .eq 5, 3) := by decide +kernel
theorem qL_law_1679 : decode (mB mL_law) 1679 = .ok (.iconst 0, 1) := by decide +kernel
theorem qL_law_1680 : decode (mB mL_law) 1680 = .ok (.ireturn, 1) := by decide +kernel
theorem qL_law_1681 : decode (mB mL_law) 1681 = .ok (.goto 1876, 3) := by decide +kernel
theorem qL_law_1684 : decode (mB mL_law) 1684 = .ok (.aload_n 1, 1) := by decide +kernel
theorem qL_law_1685 : decode (mB mL_law) 1685 = .ok (.aload_n 0, 1) := by decide +kernel
theorem qL_law_1686 : decode (mB mL_law) 1686 = .ok (.iload 4, 2) := by decide +kernel
theorem qL_law_1688 : decode (mB mL_law) 1688 = .ok (.iconst 1, 1) := by decide +kernel
theorem qL_law_1689 : decode (mB mL_law) 1689 = .ok (.iadd, 1) := by decide +kernel
theorem qL_law_1690 : decode (mB mL_law) 1690 = .ok (.iaload, 1) := by decide +kernel
theorem qL_law_1691 : decode (mB mL_law) 1691 = .ok (.aload_n 3, 1) := by decide +kernel
theorem qL_law_1692 : decode (mB mL_law) 1692 = .ok (.invokestatic 273, 3) := by decide +kernel
theorem qL_law_1695 : decode (mB mL_law) 1695 = .ok (.istore 5, 2) := by decide +kernel
theorem qL_law_1697 : decode (mB mL_law) 1697 = .ok (.aload_n 2, 1) := by decide +kernel
theorem qL_law_1698 : decode (mB mL_law) 1698 = .ok (.aload_n 0, 1) := by decide +kernel
theorem qL_law_1699 : decode (mB mL_law) 1699 = .ok (.iload 4, 2) := by decide +kernel
theorem qL_law_1701 : decode (mB mL_law) 1701 = .ok (.iconst 1, 1) := by decide +kernel
theorem qL_law_1702 : decode (mB mL_law) 1702 = .ok (.iadd, 1) := by decide +kernel
theorem qL_law_1703 : decode (mB mL_law) 1703 = .ok (.iaload, 1) := by decide +kernel
theorem qL_law_1704 : decode (mB mL_law) 1704 = .ok (.invokevirtual 275, 3) := by decide +kernel
theorem qL_law_1707 : decode (mB mL_law) 1707 = .ok (.istore 6, 2) := by decide +kernel
theorem qL_law_1709 : decode (mB mL_law) 1709 = .ok (.aload_n 2, 1) := by decide +kernel
theorem qL_law_1710 : decode (mB mL_law) 1710 = .ok (.invokevirtual 180, 3) := by decide +kernel
theorem qL_law_1713 : decode (mB mL_law) 1713 = .ok (.iload 5, 2) := by decide +kernel
theorem qL_law_1715 : decode (mB mL_law) 1715 = .ok (.if_icmp .eq 5, 3) := by decide +kernel
theorem qL_law_1718 : decode (mB mL_law) 1718 = .ok (.iconst 0, 1) := by decide +kernel
theorem qL_law_1719 : decode (mB mL_law) 1719 = .ok (.ireturn, 1) := by decide +kernel
theorem qL_law_1720 : decode (mB mL_law) 1720 = .ok (.iload 5, 2) := by decide +kernel
theorem qL_law_1722 : decode (mB mL_law) 1722 = .ok (.ifCond .ne 15, 3) := by decide +kernel
theorem qL_law_1725 : decode (mB mL_law) 1725 = .ok (.aload_n 3, 1) := by decide +kernel
theorem qL_law_1726 : decode (mB mL_law) 1726 = .ok (.iconst 0, 1) := by decide +kernel
theorem qL_law_1727 : decode (mB mL_law) 1727 = .ok (.laload, 1) := by decide +kernel
theorem qL_law_1728 : decode (mB mL_law) 1728 = .ok (.iload 6, 2) := by decide +kernel
theorem qL_law_1730 : decode (mB mL_law) 1730 = .ok (.i2l, 1) := by decide +kernel
theorem qL_law_1731 : decode (mB mL_law) 1731 = .ok (.lcmp, 1) := by decide +kernel
theorem qL_law_1732 : decode (mB mL_law) 1732 = .ok (.ifCond .eq 5, 3) := by decide +kernel
theorem qL_law_1735 : decode (mB mL_law) 1735 = .ok (.iconst 0, 1) := by decide +kernel
theorem qL_law_1736 : decode (mB mL_law) 1736 = .ok (.ireturn, 1) := by decide +kernel
theorem qL_law_1737 : decode (mB mL_law) 1737 = .ok (.goto 1820, 3) := by decide +kernel
theorem qL_law_1740 : decode (mB mL_law) 1740 = .ok (.aload_n 1, 1) := by decide +kernel
theorem qL_law_1741 : decode (mB mL_law) 1741 = .ok (.aload_n 0, 1) := by decide +kernel
theorem qL_law_1742 : decode (mB mL_law) 1742 = .ok (.iload 4, 2) := by decide +kernel
theorem qL_law_1744 : decode (mB mL_law) 1744 = .ok (.iconst 1, 1) := by decide +kernel
theorem qL_law_1745 : decode (mB mL_law) 1745 = .ok (.iadd, 1) := by decide +kernel
theorem qL_law_1746 : decode (mB mL_law) 1746 = .ok (.iaload, 1) := by decide +kernel
theorem qL_law_1747 : decode (mB mL_law) 1747 = .ok (.aload_n 0, 1) := by decide +kernel
theorem qL_law_1748 : decode (mB mL_law) 1748 = .ok (.iload 4, 2) := by decide +kernel
theorem qL_law_1750 : decode (mB mL_law) 1750 = .ok (.iconst 2, 1) := by decide +kernel
theorem qL_law_1751 : decode (mB mL_law) 1751 = .ok (.iadd, 1) := by decide +kernel
theorem qL_law_1752 : decode (mB mL_law) 1752 = .ok (.iaload, 1) := by decide +kernel
theorem qL_law_1753 : decode (mB mL_law) 1753 = .ok (.aload_n 3, 1) := by decide +kernel
theorem qL_law_1754 : decode (mB mL_law) 1754 = .ok (.invokestatic 276, 3) := by decide +kernel
theorem qL_law_1757 : decode (mB mL_law) 1757 = .ok (.istore 5, 2) := by decide +kernel
theorem qL_law_1759 : decode (mB mL_law) 1759 = .ok (.aload_n 2, 1) := by decide +kernel
theorem qL_law_1760 : decode (mB mL_law) 1760 = .ok (.aload_n 0, 1) := by decide +kernel
theorem qL_law_1761 : decode (mB mL_law) 1761 = .ok (.iload 4, 2) := by decide +kernel
theorem qL_law_1763 : decode (mB mL_law) 1763 = .ok (.iconst 1, 1) := by decide +kernel
theorem qL_law_1764 : decode (mB mL_law) 1764 = .ok (.iadd, 1) := by decide +kernel
theorem qL_law_1765 : decode (mB mL_law) 1765 = .ok (.iaload, 1) := by decide +kernel
theorem qL_law_1766 : decode (mB mL_law) 1766 = .ok (.aload_n 0, 1) := by decide +kernel
theorem qL_law_1767 : decode (mB mL_law) 1767 = .ok (.iload 4, 2) := by decide +kernel
theorem qL_law_1769 : decode (mB mL_law) 1769 = .ok (.iconst 2, 1) := by decide +kernel
theorem qL_law_1770 : decode (mB mL_law) 1770 = .ok (.iadd, 1) := by decide +kernel
theorem qL_law_1771 : decode (mB mL_law) 1771 = .ok (.iaload, 1) := by decide +kernel
theorem qL_law_1772 : decode (mB mL_law) 1772 = .ok (.invokevirtual 278, 3) := by decide +kernel
theorem qL_law_1775 : decode (mB mL_law) 1775 = .ok (.istore 6, 2) := by decide +kernel
theorem qL_law_1777 : decode (mB mL_law) 1777 = .ok (.aload_n 2, 1) := by decide +kernel
theorem qL_law_1778 : decode (mB mL_law) 1778 = .ok (.invokevirtual 180, 3) := by decide +kernel
theorem qL_law_1781 : decode (mB mL_law) 1781 = .ok (.iload 5, 2) := by decide +kernel
theorem qL_law_1783 : decode (mB mL_law) 1783 = .ok (.if_icmp .eq 5, 3) := by decide +kernel
theorem qL_law_1786 : decode (mB mL_law) 1786 = .ok (.iconst 0, 1) := by decide +kernel
theorem qL_law_1787 : decode (mB mL_law) 1787 = .ok (.ireturn, 1) := by decide +kernel
theorem qL_law_1788 : decode (mB mL_law) 1788 = .ok (.iload 5, 2) := by decide +kernel
theorem qL_law_1790 : decode (mB mL_law) 1790 = .ok (.ifCond .ne 15, 3) := by decide +kernel
theorem qL_law_1793 : decode (mB mL_law) 1793 = .ok (.aload_n 3, 1) := by decide +kernel
theorem qL_law_1794 : decode (mB mL_law) 1794 = .ok (.iconst 0, 1) := by decide +kernel
theorem qL_law_1795 : decode (mB mL_law) 1795 = .ok (.laload, 1) := by decide +kernel
theorem qL_law_1796 : decode (mB mL_law) 1796 = .ok (.iload 6, 2) := by decide +kernel
theorem qL_law_1798 : decode (mB mL_law) 1798 = .ok (.i2l, 1) := by decide +kernel
theorem qL_law_1799 : decode (mB mL_law) 1799 = .ok (.lcmp, 1) := by decide +kernel
theorem qL_law_1800 : decode (mB mL_law) 1800 = .ok (.ifCond .eq 5, 3) := by decide +kernel
theorem qL_law_1803 : decode (mB mL_law) 1803 = .ok (.iconst 0, 1) := by decide +kernel
theorem qL_law_1804 : decode (mB mL_law) 1804 = .ok (.ireturn, 1) := by decide +kernel
theorem qL_law_1805 : decode (mB mL_law) 1805 = .ok (.goto 1752, 3) := by decide +kernel
theorem qL_law_1808 : decode (mB mL_law) 1808 = .ok (.aload_n 1, 1) := by decide +kernel
theorem qL_law_1809 : decode (mB mL_law) 1809 = .ok (.aload_n 0, 1) := by decide +kernel
theorem qL_law_1810 : decode (mB mL_law) 1810 = .ok (.iload 4, 2) := by decide +kernel
theorem qL_law_1812 : decode (mB mL_law) 1812 = .ok (.iconst 1, 1) := by decide +kernel
theorem qL_law_1813 : decode (mB mL_law) 1813 = .ok (.iadd, 1) := by decide +kernel
theorem qL_law_1814 : decode (mB mL_law) 1814 = .ok (.iaload, 1) := by decide +kernel
theorem qL_law_1815 : decode (mB mL_law) 1815 = .ok (.aload_n 3, 1) := by decide +kernel
theorem qL_law_1816 : decode (mB mL_law) 1816 = .ok (.invokestatic 279, 3) := by decide +kernel
theorem qL_law_1819 : decode (mB mL_law) 1819 = .ok (.istore 5, 2) := by decide +kernel
theorem qL_law_1821 : decode (mB mL_law) 1821 = .ok (.aload_n 2, 1) := by decide +kernel
theorem qL_law_1822 : decode (mB mL_law) 1822 = .ok (.aload_n 0, 1) := by decide +kernel
theorem qL_law_1823 : decode (mB mL_law) 1823 = .ok (.iload 4, 2) := by decide +kernel
theorem qL_law_1825 : decode (mB mL_law) 1825 = .ok (.iconst 1, 1) := by decide +kernel
theorem qL_law_1826 : decode (mB mL_law) 1826 = .ok (.iadd, 1) := by decide +kernel
theorem qL_law_1827 : decode (mB mL_law) 1827 = .ok (.iaload, 1) := by decide +kernel
theorem qL_law_1828 : decode (mB mL_law) 1828 = .ok (.invokevirtual 281, 3) := by decide +kernel
theorem qL_law_1831 : decode (mB mL_law) 1831 = .ok (.istore 6, 2) := by decide +kernel
theorem qL_law_1833 : decode (mB mL_law) 1833 = .ok (.aload_n 2, 1) := by decide +kernel
theorem qL_law_1834 : decode (mB mL_law) 1834 = .ok (.invokevirtual 180, 3) := by decide +kernel
theorem qL_law_1837 : decode (mB mL_law) 1837 = .ok (.iload 5, 2) := by decide +kernel
theorem qL_law_1839 : decode (mB mL_law) 1839 = .ok (.if_icmp .eq 5, 3) := by decide +kernel
theorem qL_law_1842 : decode (mB mL_law) 1842 = .ok (.iconst 0, 1) := by decide +kernel
theorem qL_law_1843 : decode (mB mL_law) 1843 = .ok (.ireturn, 1) := by decide +kernel
theorem qL_law_1844 : decode (mB mL_law) 1844 = .ok (.iload 5, 2) := by decide +kernel
theorem qL_law_1846 : decode (mB mL_law) 1846 = .ok (.ifCond .ne 15, 3) := by decide +kernel
theorem qL_law_1849 : decode (mB mL_law) 1849 = .ok (.aload_n 3, 1) := by decide +kernel
theorem qL_law_1850 : decode (mB mL_law) 1850 = .ok (.iconst 0, 1) := by decide +kernel
theorem qL_law_1851 : decode (mB mL_law) 1851 = .ok (.laload, 1) := by decide +kernel
theorem qL_law_1852 : decode (mB mL_law) 1852 = .ok (.iload 6, 2) := by decide +kernel
theorem qL_law_1854 : decode (mB mL_law) 1854 = .ok (.i2l, 1) := by decide +kernel
theorem qL_law_1855 : decode (mB mL_law) 1855 = .ok (.lcmp, 1) := by decide +kernel
theorem qL_law_1856 : decode (mB mL_law) 1856 = .ok (.ifCond .eq 5, 3) := by decide +kernel
theorem qL_law_1859 : decode (mB mL_law) 1859 = .ok (.iconst 0, 1) := by decide +kernel
theorem qL_law_1860 : decode (mB mL_law) 1860 = .ok (.ireturn, 1) := by decide +kernel
theorem qL_law_1861 : decode (mB mL_law) 1861 = .ok (.goto 1696, 3) := by decide +kernel
theorem qL_law_1864 : decode (mB mL_law) 1864 = .ok (.aload_n 1, 1) := by decide +kernel
theorem qL_law_1865 : decode (mB mL_law) 1865 = .ok (.aload_n 0, 1) := by decide +kernel
theorem qL_law_1866 : decode (mB mL_law) 1866 = .ok (.iload 4, 2) := by decide +kernel
theorem qL_law_1868 : decode (mB mL_law) 1868 = .ok (.iconst 1, 1) := by decide +kernel
theorem qL_law_1869 : decode (mB mL_law) 1869 = .ok (.iadd, 1) := by decide +kernel
theorem qL_law_1870 : decode (mB mL_law) 1870 = .ok (.iaload, 1) := by decide +kernel
theorem qL_law_1871 : decode (mB mL_law) 1871 = .ok (.aload_n 3, 1) := by decide +kernel
theorem qL_law_1872 : decode (mB mL_law) 1872 = .ok (.invokestatic 282, 3) := by decide +kernel
theorem qL_law_1875 : decode (mB mL_law) 1875 = .ok (.istore 5, 2) := by decide +kernel
theorem qL_law_1877 : decode (mB mL_law) 1877 = .ok (.aload_n 2, 1) := by decide +kernel
theorem qL_law_1878 : decode (mB mL_law) 1878 = .ok (.aload_n 0, 1) := by decide +kernel
theorem qL_law_1879 : decode (mB mL_law) 1879 = .ok (.iload 4, 2) := by decide +kernel
theorem qL_law_1881 : decode (mB mL_law) 1881 = .ok (.iconst 1, 1) := by decide +kernel
theorem qL_law_1882 : decode (mB mL_law) 1882 = .ok (.iadd, 1) := by decide +kernel
theorem qL_law_1883 : decode (mB mL_law) 1883 = .ok (.iaload, 1) := by decide +kernel
theorem qL_law_1884 : decode (mB mL_law) 1884 = .ok (.invokevirtual 284, 3) := by decide +kernel
theorem qL_law_1887 : decode (mB mL_law) 1887 = .ok (.istore 6, 2) := by decide +kernel
theorem qL_law_1889 : decode (mB mL_law) 1889 = .ok (.aload_n 2, 1) := by decide +kernel
theorem qL_law_1890 : decode (mB mL_law) 1890 = .ok (.invokevirtual 180, 3) := by decide +kernel
theorem qL_law_1893 : decode (mB mL_law) 1893 = .ok (.iload 5, 2) := by decide +kernel
theorem qL_law_1895 : decode (mB mL_law) 1895 = .ok (.if_icmp .eq 5, 3) := by decide +kernel
theorem qL_law_1898 : decode (mB mL_law) 1898 = .ok (.iconst 0, 1) := by decide +kernel
theorem qL_law_1899 : decode (mB mL_law) 1899 = .ok (.ireturn, 1) := by decide +kernel
theorem qL_law_1900 : decode (mB mL_law) 1900 = .ok (.iload 5, 2) := by decide +kernel
theorem qL_law_1902 : decode (mB mL_law) 1902 = .ok (.ifCond .ne 15, 3) := by decide +kernel
theorem qL_law_1905 : decode (mB mL_law) 1905 = .ok (.aload_n 3, 1) := by decide +kernel
theorem qL_law_1906 : decode (mB mL_law) 1906 = .ok (.iconst 0, 1) := by decide +kernel
theorem qL_law_1907 : decode (mB mL_law) 1907 = .ok (.laload, 1) := by decide +kernel
theorem qL_law_1908 : decode (mB mL_law) 1908 = .ok (.iload 6, 2) := by decide +kernel
theorem qL_law_1910 : decode (mB mL_law) 1910 = .ok (.i2l, 1) := by decide +kernel
theorem qL_law_1911 : decode (mB mL_law) 1911 = .ok (.lcmp, 1) := by decide +kernel
theorem qL_law_1912 : decode (mB mL_law) 1912 = .ok (.ifCond .eq 5, 3) := by decide +kernel
theorem qL_law_1915 : decode (mB mL_law) 1915 = .ok (.iconst 0, 1) := by decide +kernel
theorem qL_law_1916 : decode (mB mL_law) 1916 = .ok (.ireturn, 1) := by decide +kernel
theorem qL_law_1917 : decode (mB mL_law) 1917 = .ok (.goto 1640, 3) := by decide +kernel
theorem qL_law_1920 : decode (mB mL_law) 1920 = .ok (.aload_n 1, 1) := by decide +kernel
theorem qL_law_1921 : decode (mB mL_law) 1921 = .ok (.aload_n 0, 1) := by decide +kernel
theorem qL_law_1922 : decode (mB mL_law) 1922 = .ok (.iload 4, 2) := by decide +kernel
theorem qL_law_1924 : decode (mB mL_law) 1924 = .ok (.iconst 1, 1) := by decide +kernel
theorem qL_law_1925 : decode (mB mL_law) 1925 = .ok (.iadd, 1) := by decide +kernel
theorem qL_law_1926 : decode (mB mL_law) 1926 = .ok (.iaload, 1) := by decide +kernel
theorem qL_law_1927 : decode (mB mL_law) 1927 = .ok (.aload_n 0, 1) := by decide +kernel
theorem qL_law_1928 : decode (mB mL_law) 1928 = .ok (.iload 4, 2) := by decide +kernel
theorem qL_law_1930 : decode (mB mL_law) 1930 = .ok (.iconst 2, 1) := by decide +kernel
theorem qL_law_1931 : decode (mB mL_law) 1931 = .ok (.iadd, 1) := by decide +kernel
theorem qL_law_1932 : decode (mB mL_law) 1932 = .ok (.iaload, 1) := by decide +kernel
theorem qL_law_1933 : decode (mB mL_law) 1933 = .ok (.aload_n 3, 1) := by decide +kernel

