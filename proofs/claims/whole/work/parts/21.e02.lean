theorem dL_law_1419 : decode code 1419 = .ok (.istore 5, 2) := by decide +kernel
theorem dL_law_1421 : decode code 1421 = .ok (.aload_n 2, 1) := by decide +kernel
theorem dL_law_1422 : decode code 1422 = .ok (.aload_n 0, 1) := by decide +kernel
theorem dL_law_1423 : decode code 1423 = .ok (.iload 4, 2) := by decide +kernel
theorem dL_law_1425 : decode code 1425 = .ok (.iconst 1, 1) := by decide +kernel
theorem dL_law_1426 : decode code 1426 = .ok (.iadd, 1) := by decide +kernel
theorem dL_law_1427 : decode code 1427 = .ok (.iaload, 1) := by decide +kernel
theorem dL_law_1428 : decode code 1428 = .ok (.aload_n 0, 1) := by decide +kernel
theorem dL_law_1429 : decode code 1429 = .ok (.iload 4, 2) := by decide +kernel
theorem dL_law_1431 : decode code 1431 = .ok (.iconst 2, 1) := by decide +kernel
theorem dL_law_1432 : decode code 1432 = .ok (.iadd, 1) := by decide +kernel
theorem dL_law_1433 : decode code 1433 = .ok (.iaload, 1) := by decide +kernel
theorem dL_law_1434 : decode code 1434 = .ok (.invokevirtual 206, 3) := by decide +kernel
theorem dL_law_1437 : decode code 1437 = .ok (.istore 6, 2) := by decide +kernel
theorem dL_law_1439 : decode code 1439 = .ok (.aload_n 2, 1) := by decide +kernel
theorem dL_law_1440 : decode code 1440 = .ok (.invokevirtual 133, 3) := by decide +kernel
theorem dL_law_1443 : decode code 1443 = .ok (.iload 5, 2) := by decide +kernel
theorem dL_law_1445 : decode code 1445 = .ok (.if_icmp .eq 5, 3) := by decide +kernel
theorem dL_law_1448 : decode code 1448 = .ok (.iconst 0, 1) := by decide +kernel
theorem dL_law_1449 : decode code 1449 = .ok (.ireturn, 1) := by decide +kernel
theorem dL_law_1450 : decode code 1450 = .ok (.iload 5, 2) := by decide +kernel
theorem dL_law_1452 : decode code 1452 = .ok (.ifCond .ne 15, 3) := by decide +kernel
theorem dL_law_1455 : decode code 1455 = .ok (.aload_n 3, 1) := by decide +kernel
theorem dL_law_1456 : decode code 1456 = .ok (.iconst 0, 1) := by decide +kernel
theorem dL_law_1457 : decode code 1457 = .ok (.laload, 1) := by decide +kernel
theorem dL_law_1458 : decode code 1458 = .ok (.iload 6, 2) := by decide +kernel
theorem dL_law_1460 : decode code 1460 = .ok (.i2l, 1) := by decide +kernel
theorem dL_law_1461 : decode code 1461 = .ok (.lcmp, 1) := by decide +kernel
theorem dL_law_1462 : decode code 1462 = .ok (.ifCond .eq 5, 3) := by decide +kernel
theorem dL_law_1465 : decode code 1465 = .ok (.iconst 0, 1) := by decide +kernel
theorem dL_law_1466 : decode code 1466 = .ok (.ireturn, 1) := by decide +kernel
theorem dL_law_1467 : decode code 1467 = .ok (.goto 1124, 3) := by decide +kernel
theorem dL_law_1470 : decode code 1470 = .ok (.aload_n 1, 1) := by decide +kernel
theorem dL_law_1471 : decode code 1471 = .ok (.aload_n 0, 1) := by decide +kernel
theorem dL_law_1472 : decode code 1472 = .ok (.iload 4, 2) := by decide +kernel
theorem dL_law_1474 : decode code 1474 = .ok (.iconst 1, 1) := by decide +kernel
theorem dL_law_1475 : decode code 1475 = .ok (.iadd, 1) := by decide +kernel
theorem dL_law_1476 : decode code 1476 = .ok (.iaload, 1) := by decide +kernel
theorem dL_law_1477 : decode code 1477 = .ok (.aload_n 3, 1) := by decide +kernel
theorem dL_law_1478 : decode code 1478 = .ok (.invokestatic 207, 3) := by decide +kernel
theorem dL_law_1481 : decode code 1481 = .ok (.istore 5, 2) := by decide +kernel
theorem dL_law_1483 : decode code 1483 = .ok (.aload_n 2, 1) := by decide +kernel
theorem dL_law_1484 : decode code 1484 = .ok (.aload_n 0, 1) := by decide +kernel
theorem dL_law_1485 : decode code 1485 = .ok (.iload 4, 2) := by decide +kernel
theorem dL_law_1487 : decode code 1487 = .ok (.iconst 1, 1) := by decide +kernel
theorem dL_law_1488 : decode code 1488 = .ok (.iadd, 1) := by decide +kernel
theorem dL_law_1489 : decode code 1489 = .ok (.iaload, 1) := by decide +kernel
theorem dL_law_1490 : decode code 1490 = .ok (.invokevirtual 209, 3) := by decide +kernel
theorem dL_law_1493 : decode code 1493 = .ok (.istore 6, 2) := by decide +kernel
theorem dL_law_1495 : decode code 1495 = .ok (.aload_n 2, 1) := by decide +kernel
theorem dL_law_1496 : decode code 1496 = .ok (.invokevirtual 133, 3) := by decide +kernel
theorem dL_law_1499 : decode code 1499 = .ok (.iload 5, 2) := by decide +kernel
theorem dL_law_1501 : decode code 1501 = .ok (.if_icmp .eq 5, 3) := by decide +kernel
theorem dL_law_1504 : decode code 1504 = .ok (.iconst 0, 1) := by decide +kernel
theorem dL_law_1505 : decode code 1505 = .ok (.ireturn, 1) := by decide +kernel
theorem dL_law_1506 : decode code 1506 = .ok (.iload 5, 2) := by decide +kernel
theorem dL_law_1508 : decode code 1508 = .ok (.ifCond .ne 15, 3) := by decide +kernel
theorem dL_law_1511 : decode code 1511 = .ok (.aload_n 3, 1) := by decide +kernel
theorem dL_law_1512 : decode code 1512 = .ok (.iconst 0, 1) := by decide +kernel
theorem dL_law_1513 : decode code 1513 = .ok (.laload, 1) := by decide +kernel
theorem dL_law_1514 : decode code 1514 = .ok (.iload 6, 2) := by decide +kernel
theorem dL_law_1516 : decode code 1516 = .ok (.i2l, 1) := by decide +kernel
theorem dL_law_1517 : decode code 1517 = .ok (.lcmp, 1) := by decide +kernel
theorem dL_law_1518 : decode code 1518 = .ok (.ifCond .eq 5, 3) := by decide +kernel
theorem dL_law_1521 : decode code 1521 = .ok (.iconst 0, 1) := by decide +kernel
theorem dL_law_1522 : decode code 1522 = .ok (.ireturn, 1) := by decide +kernel
theorem dL_law_1523 : decode code 1523 = .ok (.goto 1068, 3) := by decide +kernel
theorem dL_law_1526 : decode code 1526 = .ok (.aload_n 1, 1) := by decide +kernel
theorem dL_law_1527 : decode code 1527 = .ok (.aload_n 0, 1) := by decide +kernel
theorem dL_law_1528 : decode code 1528 = .ok (.iload 4, 2) := by decide +kernel
theorem dL_law_1530 : decode code 1530 = .ok (.iconst 1, 1) := by decide +kernel
theorem dL_law_1531 : decode code 1531 = .ok (.iadd, 1) := by decide +kernel
theorem dL_law_1532 : decode code 1532 = .ok (.iaload, 1) := by decide +kernel
theorem dL_law_1533 : decode code 1533 = .ok (.aload_n 3, 1) := by decide +kernel
theorem dL_law_1534 : decode code 1534 = .ok (.invokestatic 210, 3) := by decide +kernel
theorem dL_law_1537 : decode code 1537 = .ok (.istore 5, 2) := by decide +kernel
theorem dL_law_1539 : decode code 1539 = .ok (.aload_n 2, 1) := by decide +kernel
theorem dL_law_1540 : decode code 1540 = .ok (.aload_n 0, 1) := by decide +kernel
theorem dL_law_1541 : decode code 1541 = .ok (.iload 4, 2) := by decide +kernel
theorem dL_law_1543 : decode code 1543 = .ok (.iconst 1, 1) := by decide +kernel
theorem dL_law_1544 : decode code 1544 = .ok (.iadd, 1) := by decide +kernel
theorem dL_law_1545 : decode code 1545 = .ok (.iaload, 1) := by decide +kernel
theorem dL_law_1546 : decode code 1546 = .ok (.invokevirtual 212, 3) := by decide +kernel
theorem dL_law_1549 : decode code 1549 = .ok (.istore 6, 2) := by decide +kernel
theorem dL_law_1551 : decode code 1551 = .ok (.aload_n 2, 1) := by decide +kernel
theorem dL_law_1552 : decode code 1552 = .ok (.invokevirtual 133, 3) := by decide +kernel
theorem dL_law_1555 : decode code 1555 = .ok (.iload 5, 2) := by decide +kernel
theorem dL_law_1557 : decode code 1557 = .ok (.if_icmp .eq 5, 3) := by decide +kernel
theorem dL_law_1560 : decode code 1560 = .ok (.iconst 0, 1) := by decide +kernel
theorem dL_law_1561 : decode code 1561 = .ok (.ireturn, 1) := by decide +kernel
theorem dL_law_1562 : decode code 1562 = .ok (.iload 5, 2) := by decide +kernel
theorem dL_law_1564 : decode code 1564 = .ok (.ifCond .ne 15, 3) := by decide +kernel
theorem dL_law_1567 : decode code 1567 = .ok (.aload_n 3, 1) := by decide +kernel
theorem dL_law_1568 : decode code 1568 = .ok (.iconst 0, 1) := by decide +kernel
theorem dL_law_1569 : decode code 1569 = .ok (.laload, 1) := by decide +kernel
theorem dL_law_1570 : decode code 1570 = .ok (.iload 6, 2) := by decide +kernel
theorem dL_law_1572 : decode code 1572 = .ok (.i2l, 1) := by decide +kernel
theorem dL_law_1573 : decode code 1573 = .ok (.lcmp, 1) := by decide +kernel
theorem dL_law_1574 : decode code 1574 = .ok (.ifCond .eq 5, 3) := by decide +kernel
theorem dL_law_1577 : decode code 1577 = .ok (.iconst 0, 1) := by decide +kernel
theorem dL_law_1578 : decode code 1578 = .ok (.ireturn, 1) := by decide +kernel
theorem dL_law_1579 : decode code 1579 = .ok (.goto 1012, 3) := by decide +kernel
theorem dL_law_1582 : decode code 1582 = .ok (.aload_n 1, 1) := by decide +kernel
theorem dL_law_1583 : decode code 1583 = .ok (.invokevirtual 213, 3) := by decide +kernel
theorem dL_law_1586 : decode code 1586 = .ok (.aload_n 2, 1) := by decide +kernel
theorem dL_law_1587 : decode code 1587 = .ok (.invokevirtual 216, 3) := by decide +kernel
theorem dL_law_1590 : decode code 1590 = .ok (.if_icmp .eq 1001, 3) := by decide +kernel
theorem dL_law_1593 : decode code 1593 = .ok (.iconst 0, 1) := by decide +kernel
theorem dL_law_1594 : decode code 1594 = .ok (.ireturn, 1) := by decide +kernel
theorem dL_law_1595 : decode code 1595 = .ok (.aload_n 1, 1) := by decide +kernel
theorem dL_law_1596 : decode code 1596 = .ok (.aload_n 0, 1) := by decide +kernel
theorem dL_law_1597 : decode code 1597 = .ok (.iload 4, 2) := by decide +kernel
theorem dL_law_1599 : decode code 1599 = .ok (.iconst 1, 1) := by decide +kernel
theorem dL_law_1600 : decode code 1600 = .ok (.iadd, 1) := by decide +kernel
theorem dL_law_1601 : decode code 1601 = .ok (.iaload, 1) := by decide +kernel
theorem dL_law_1602 : decode code 1602 = .ok (.aload_n 0, 1) := by decide +kernel
theorem dL_law_1603 : decode code 1603 = .ok (.iload 4, 2) := by decide +kernel
theorem dL_law_1605 : decode code 1605 = .ok (.iconst 2, 1) := by decide +kernel
theorem dL_law_1606 : decode code 1606 = .ok (.iadd, 1) := by decide +kernel
theorem dL_law_1607 : decode code 1607 = .ok (.iaload, 1) := by decide +kernel
theorem dL_law_1608 : decode code 1608 = .ok (.aload_n 3, 1) := by decide +kernel
theorem dL_law_1609 : decode code 1609 = .ok (.invokestatic 217, 3) := by decide +kernel
theorem dL_law_1612 : decode code 1612 = .ok (.istore 5, 2) := by decide +kernel
theorem dL_law_1614 : decode code 1614 = .ok (.aload_n 2, 1) := by decide +kernel
theorem dL_law_1615 : decode code 1615 = .ok (.aload_n 0, 1) := by decide +kernel
theorem dL_law_1616 : decode code 1616 = .ok (.iload 4, 2) := by decide +kernel
theorem dL_law_1618 : decode code 1618 = .ok (.iconst 1, 1) := by decide +kernel
theorem dL_law_1619 : decode code 1619 = .ok (.iadd, 1) := by decide +kernel
theorem dL_law_1620 : decode code 1620 = .ok (.iaload, 1) := by decide +kernel
theorem dL_law_1621 : decode code 1621 = .ok (.aload_n 0, 1) := by decide +kernel
theorem dL_law_1622 : decode code 1622 = .ok (.iload 4, 2) := by decide +kernel
theorem dL_law_1624 : decode code 1624 = .ok (.iconst 2, 1) := by decide +kernel
theorem dL_law_1625 : decode code 1625 = .ok (.iadd, 1) := by decide +kernel
theorem dL_law_1626 : decode code 1626 = .ok (.iaload, 1) := by decide +kernel
theorem dL_law_1627 : decode code 1627 = .ok (.invokevirtual 219, 3) := by decide +kernel
theorem dL_law_1630 : decode code 1630 = .ok (.istore 6, 2) := by decide +kernel
theorem dL_law_1632 : decode code 1632 = .ok (.aload_n 2, 1) := by decide +kernel
theorem dL_law_1633 : decode code 1633 = .ok (.invokevirtual 133, 3) := by decide +kernel
theorem dL_law_1636 : decode code 1636 = .ok (.iload 5, 2) := by decide +kernel
theorem dL_law_1638 : decode code 1638 = .ok (.if_icmp .eq 5, 3) := by decide +kernel
theorem dL_law_1641 : decode code 1641 = .ok (.iconst 0, 1) := by decide +kernel
theorem dL_law_1642 : decode code 1642 = .ok (.ireturn, 1) := by decide +kernel
theorem dL_law_1643 : decode code 1643 = .ok (.iload 5, 2) := by decide +kernel
theorem dL_law_1645 : decode code 1645 = .ok (.ifCond .ne 15, 3) := by decide +kernel
theorem dL_law_1648 : decode code 1648 = .ok (.aload_n 3, 1) := by decide +kernel
theorem dL_law_1649 : decode code 1649 = .ok (.iconst 0, 1) := by decide +kernel
theorem dL_law_1650 : decode code 1650 = .ok (.laload, 1) := by decide +kernel
theorem dL_law_1651 : decode code 1651 = .ok (.iload 6, 2) := by decide +kernel
theorem dL_law_1653 : decode code 1653 = .ok (.i2l, 1) := by decide +kernel
theorem dL_law_1654 : decode code 1654 = .ok (.lcmp, 1) := by decide +kernel
theorem dL_law_1655 : decode code 1655 = .ok (.ifCond .eq 5, 3) := by decide +kernel
theorem dL_law_1658 : decode code 1658 = .ok (.iconst 0, 1) := by decide +kernel
theorem dL_law_1659 : decode code 1659 = .ok (.ireturn, 1) := by decide +kernel
theorem dL_law_1660 : decode code 1660 = .ok (.goto 931, 3) := by decide +kernel
theorem dL_law_1663 : decode code 1663 = .ok (.aload_n 1, 1) := by decide +kernel
theorem dL_law_1664 : decode code 1664 = .ok (.invokevirtual 220, 3) := by decide +kernel
theorem dL_law_1667 : decode code 1667 = .ok (.aload_n 2, 1) := by decide +kernel
theorem dL_law_1668 : decode code 1668 = .ok (.invokevirtual 223, 3) := by decide +kernel
theorem dL_law_1671 : decode code 1671 = .ok (.if_icmp .eq 920, 3) := by decide +kernel
theorem dL_law_1674 : decode code 1674 = .ok (.iconst 0, 1) := by decide +kernel
theorem dL_law_1675 : decode code 1675 = .ok (.ireturn, 1) := by decide +kernel
theorem dL_law_1676 : decode code 1676 = .ok (.aload_n 1, 1) := by decide +kernel
theorem dL_law_1677 : decode code 1677 = .ok (.aload_n 0, 1) := by decide +kernel
theorem dL_law_1678 : decode code 1678 = .ok (.iload 4, 2) := by decide +kernel
theorem dL_law_1680 : decode code 1680 = .ok (.iconst 1, 1) := by decide +kernel
theorem dL_law_1681 : decode code 1681 = .ok (.iadd, 1) := by decide +kernel
theorem dL_law_1682 : decode code 1682 = .ok (.iaload, 1) := by decide +kernel
theorem dL_law_1683 : decode code 1683 = .ok (.aload_n 3, 1) := by decide +kernel
theorem dL_law_1684 : decode code 1684 = .ok (.invokestatic 224, 3) := by decide +kernel
theorem dL_law_1687 : decode code 1687 = .ok (.istore 5, 2) := by decide +kernel
theorem dL_law_1689 : decode code 1689 = .ok (.aload_n 2, 1) := by decide +kernel
theorem dL_law_1690 : decode code 1690 = .ok (.aload_n 0, 1) := by decide +kernel
theorem dL_law_1691 : decode code 1691 = .ok (.iload 4, 2) := by decide +kernel
theorem dL_law_1693 : decode code 1693 = .ok (.iconst 1, 1) := by decide +kernel
theorem dL_law_1694 : decode code 1694 = .ok (.iadd, 1) := by decide +kernel
theorem dL_law_1695 : decode code 1695 = .ok (.iaload, 1) := by decide +kernel
theorem dL_law_1696 : decode code 1696 = .ok (.invokevirtual 226, 3) := by decide +kernel
theorem dL_law_1699 : decode code 1699 = .ok (.istore 6, 2) := by decide +kernel
theorem dL_law_1701 : decode code 1701 = .ok (.aload_n 2, 1) := by decide +kernel
theorem dL_law_1702 : decode code 1702 = .ok (.invokevirtual 133, 3) := by decide +kernel
theorem dL_law_1705 : decode code 1705 = .ok (.iload 5, 2) := by decide +kernel
theorem dL_law_1707 : decode code 1707 = .ok (.if_icmp .eq 5, 3) := by decide +kernel
theorem dL_law_1710 : decode code 1710 = .ok (.iconst 0, 1) := by decide +kernel
theorem dL_law_1711 : decode code 1711 = .ok (.ireturn, 1) := by decide +kernel
theorem dL_law_1712 : decode code 1712 = .ok (.iload 5, 2) := by decide +kernel
theorem dL_law_1714 : decode code 1714 = .ok (.ifCond .ne 15, 3) := by decide +kernel
theorem dL_law_1717 : decode code 1717 = .ok (.aload_n 3, 1) := by decide +kernel
theorem dL_law_1718 : decode code 1718 = .ok (.iconst 0, 1) := by decide +kernel
theorem dL_law_1719 : decode code 1719 = .ok (.laload, 1) := by decide +kernel
theorem dL_law_1720 : decode code 1720 = .ok (.iload 6, 2) := by decide +kernel
theorem dL_law_1722 : decode code 1722 = .ok (.i2l, 1) := by decide +kernel
theorem dL_law_1723 : decode code 1723 = .ok (.lcmp, 1) := by decide +kernel
theorem dL_law_1724 : decode code 1724 = .ok (.ifCond .eq 5, 3) := by decide +kernel
theorem dL_law_1727 : decode code 1727 = .ok (.iconst 0, 1) := by decide +kernel
theorem dL_law_1728 : decode code 1728 = .ok (.ireturn, 1) := by decide +kernel
theorem dL_law_1729 : decode code 1729 = .ok (.goto 862, 3) := by decide +kernel
theorem dL_law_1732 : decode code 1732 = .ok (.aload_n 1, 1) := by decide +kernel
theorem dL_law_1733 : decode code 1733 = .ok (.aload_n 0, 1) := by decide +kernel
theorem dL_law_1734 : decode code 1734 = .ok (.iload 4, 2) := by decide +kernel
theorem dL_law_1736 : decode code 1736 = .ok (.iconst 1, 1) := by decide +kernel
theorem dL_law_1737 : decode code 1737 = .ok (.iadd, 1) := by decide +kernel
theorem dL_law_1738 : decode code 1738 = .ok (.iaload, 1) := by decide +kernel
theorem dL_law_1739 : decode code 1739 = .ok (.aload_n 0, 1) := by decide +kernel
theorem dL_law_1740 : decode code 1740 = .ok (.iload 4, 2) := by decide +kernel
theorem dL_law_1742 : decode code 1742 = .ok (.iconst 2, 1) := by decide +kernel
theorem dL_law_1743 : decode code 1743 = .ok (.iadd, 1) := by decide +kernel
theorem dL_law_1744 : decode code 1744 = .ok (.iaload, 1) := by decide +kernel
theorem dL_law_1745 : decode code 1745 = .ok (.aload_n 3, 1) := by decide +kernel
theorem dL_law_1746 : decode code 1746 = .ok (.invokestatic 227, 3) := by decide +kernel
theorem dL_law_1749 : decode code 1749 = .ok (.istore 5, 2) := by decide +kernel
theorem dL_law_1751 : decode code 1751 = .ok (.aload_n 2, 1) := by decide +kernel
theorem dL_law_1752 : decode code 1752 = .ok (.aload_n 0, 1) := by decide +kernel
theorem dL_law_1753 : decode code 1753 = .ok (.iload 4, 2) := by decide +kernel
theorem dL_law_1755 : decode code 1755 = .ok (.iconst 1, 1) := by decide +kernel
theorem dL_law_1756 : decode code 1756 = .ok (.iadd, 1) := by decide +kernel
theorem dL_law_1757 : decode code 1757 = .ok (.iaload, 1) := by decide +kernel
theorem dL_law_1758 : decode code 1758 = .ok (.aload_n 0, 1) := by decide +kernel
theorem dL_law_1759 : decode code 1759 = .ok (.iload 4, 2) := by decide +kernel
theorem dL_law_1761 : decode code 1761 = .ok (.iconst 2, 1) := by decide +kernel
theorem dL_law_1762 : decode code 1762 = .ok (.iadd, 1) := by decide +kernel
theorem dL_law_1763 : decode code 1763 = .ok (.iaload, 1) := by decide +kernel
theorem dL_law_1764 : decode code 1764 = .ok (.invokevirtual 229, 3) := by decide +kernel
theorem dL_law_1767 : decode code 1767 = .ok (.istore 6, 2) := by decide +kernel
theorem dL_law_1769 : decode code 1769 = .ok (.aload_n 2, 1) := by decide +kernel
theorem dL_law_1770 : decode code 1770 = .ok (.invokevirtual 133, 3) := by decide +kernel
theorem dL_law_1773 : decode code 1773 = .ok (.iload 5, 2) := by decide +kernel
theorem dL_law_1775 : decode code 1775 = .ok (.if_icmp .eq 5, 3) := by decide +kernel
theorem dL_law_1778 : decode code 1778 = .ok (.iconst 0, 1) := by decide +kernel
theorem dL_law_1779 : decode code 1779 = .ok (.ireturn, 1) := by decide +kernel
theorem dL_law_1780 : decode code 1780 = .ok (.iload 5, 2) := by decide +kernel
theorem dL_law_1782 : decode code 1782 = .ok (.ifCond .ne 15, 3) := by decide +kernel
theorem dL_law_1785 : decode code 1785 = .ok (.aload_n 3, 1) := by decide +kernel
theorem dL_law_1786 : decode code 1786 = .ok (.iconst 0, 1) := by decide +kernel
theorem dL_law_1787 : decode code 1787 = .ok (.laload, 1) := by decide +kernel
theorem dL_law_1788 : decode code 1788 = .ok (.iload 6, 2) := by decide +kernel
theorem dL_law_1790 : decode code 1790 = .ok (.i2l, 1) := by decide +kernel
theorem dL_law_1791 : decode code 1791 = .ok (.lcmp, 1) := by decide +kernel
theorem dL_law_1792 : decode code 1792 = .ok (.ifCond .eq 5, 3) := by decide +kernel
theorem dL_law_1795 : decode code 1795 = .ok (.iconst 0, 1) := by decide +kernel
theorem dL_law_1796 : decode code 1796 = .ok (.ireturn, 1) := by decide +kernel
theorem dL_law_1797 : decode code 1797 = .ok (.goto 794, 3) := by decide +kernel
theorem dL_law_1800 : decode code 1800 = .ok (.aload_n 1, 1) := by decide +kernel
theorem dL_law_1801 : decode code 1801 = .ok (.aload_n 0, 1) := by decide +kernel
theorem dL_law_1802 : decode code 1802 = .ok (.iload 4, 2) := by decide +kernel
theorem dL_law_1804 : decode code 1804 = .ok (.iconst 1, 1) := by decide +kernel
theorem dL_law_1805 : decode code 1805 = .ok (.iadd, 1) := by decide +kernel
theorem dL_law_1806 : decode code 1806 = .ok (.iaload, 1) := by decide +kernel
theorem dL_law_1807 : decode code 1807 = .ok (.aload_n 3, 1) := by decide +kernel
theorem dL_law_1808 : decode code 1808 = .ok (.invokestatic 230, 3) := by decide +kernel
theorem dL_law_1811 : decode code 1811 = .ok (.istore 5, 2) := by decide +kernel
theorem dL_law_1813 : decode code 1813 = .ok (.aload_n 2, 1) := by decide +kernel
theorem dL_law_1814 : decode code 1814 = .ok (.aload_n 0, 1) := by decide +kernel
theorem dL_law_1815 : decode code 1815 = .ok (.iload 4, 2) := by decide +kernel
theorem dL_law_1817 : decode code 1817 = .ok (.iconst 1, 1) := by decide +kernel
theorem dL_law_1818 : decode code 1818 = .ok (.iadd, 1) := by decide +kernel
theorem dL_law_1819 : decode code 1819 = .ok (.iaload, 1) := by decide +kernel
theorem dL_law_1820 : decode code 1820 = .ok (.invokevirtual 232, 3) := by decide +kernel
theorem dL_law_1823 : decode code 1823 = .ok (.istore 6, 2) := by decide +kernel
theorem dL_law_1825 : decode code 1825 = .ok (.aload_n 2, 1) := by decide +kernel
theorem dL_law_1826 : decode code 1826 = .ok (.invokevirtual 133, 3) := by decide +kernel
theorem dL_law_1829 : decode code 1829 = .ok (.iload 5, 2) := by decide +kernel
theorem dL_law_1831 : decode code 1831 = .ok (.if_icmp .eq 5, 3) := by decide +kernel
theorem dL_law_1834 : decode code 1834 = .ok (.iconst 0, 1) := by decide +kernel
theorem dL_law_1835 : decode code 1835 = .ok (.ireturn, 1) := by decide +kernel
theorem dL_law_1836 : decode code 1836 = .ok (.iload 5, 2) := by decide +kernel
theorem dL_law_1838 : decode code 1838 = .ok (.ifCond .ne 15, 3) := by decide +kernel
theorem dL_law_1841 : decode code 1841 = .ok (.aload_n 3, 1) := by decide +kernel
theorem dL_law_1842 : decode code 1842 = .ok (.iconst 0, 1) := by decide +kernel
theorem dL_law_1843 : decode code 1843 = .ok (.laload, 1) := by decide +kernel
theorem dL_law_1844 : decode code 1844 = .ok (.iload 6, 2) := by decide +kernel
theorem dL_law_1846 : decode code 1846 = .ok (.i2l, 1) := by decide +kernel
theorem dL_law_1847 : decode code 1847 = .ok (.lcmp, 1) := by decide +kernel
theorem dL_law_1848 : decode code 1848 = .ok (.ifCond .eq 5, 3) := by decide +kernel
theorem dL_law_1851 : decode code 1851 = .ok (.iconst 0, 1) := by decide +kernel
theorem dL_law_1852 : decode code 1852 = .ok (.ireturn, 1) := by decide +kernel
theorem dL_law_1853 : decode code 1853 = .ok (.goto 738, 3) := by decide +kernel
theorem dL_law_1856 : decode code 1856 = .ok (.aload_n 1, 1) := by decide +kernel
theorem dL_law_1857 : decode code 1857 = .ok (.aload_n 0, 1) := by decide +kernel
theorem dL_law_1858 : decode code 1858 = .ok (.iload 4, 2) := by decide +kernel
theorem dL_law_1860 : decode code 1860 = .ok (.iconst 1, 1) := by decide +kernel
theorem dL_law_1861 : decode code 1861 = .ok (.iadd, 1) := by decide +kernel
theorem dL_law_1862 : decode code 1862 = .ok (.iaload, 1) := by decide +kernel
theorem dL_law_1863 : decode code 1863 = .ok (.aload_n 3, 1) := by decide +kernel
theorem dL_law_1864 : decode code 1864 = .ok (.invokestatic 233, 3) := by decide +kernel
theorem dL_law_1867 : decode code 1867 = .ok (.istore 5, 2) := by decide +kernel
theorem dL_law_1869 : decode code 1869 = .ok (.aload_n 2, 1) := by decide +kernel
theorem dL_law_1870 : decode code 1870 = .ok (.aload_n 0, 1) := by decide +kernel
theorem dL_law_1871 : decode code 1871 = .ok (.iload 4, 2) := by decide +kernel
theorem dL_law_1873 : decode code 1873 = .ok (.iconst 1, 1) := by decide +kernel
theorem dL_law_1874 : decode code 1874 = .ok (.iadd, 1) := by decide +kernel
theorem dL_law_1875 : decode code 1875 = .ok (.iaload, 1) := by decide +kernel
theorem dL_law_1876 : decode code 1876 = .ok (.invokevirtual 235, 3) := by decide +kernel
theorem dL_law_1879 : decode code 1879 = .ok (.istore 6, 2) := by decide +kernel
theorem dL_law_1881 : decode code 1881 = .ok (.aload_n 2, 1) := by decide +kernel
theorem dL_law_1882 : decode code 1882 = .ok (.invokevirtual 133, 3) := by decide +kernel
theorem dL_law_1885 : decode code 1885 = .ok (.iload 5, 2) := by decide +kernel
theorem dL_law_1887 : decode code 1887 = .ok (.if_icmp .eq 5, 3) := by decide +kernel
theorem dL_law_1890 : decode code 1890 = .ok (.iconst 0, 1) := by decide +kernel
theorem dL_law_1891 : decode code 1891 = .ok (.ireturn, 1) := by decide +kernel
theorem dL_law_1892 : decode code 1892 = .ok (.iload 5, 2) := by decide +kernel
theorem dL_law_1894 : decode code 1894 = .ok (.ifCond .ne 15, 3) := by decide +kernel
theorem dL_law_1897 : decode code 1897 = .ok (.aload_n 3, 1) := by decide +kernel
theorem dL_law_1898 : decode code 1898 = .ok (.iconst 0, 1) := by decide +kernel
theorem dL_law_1899 : decode code 1899 = .ok (.laload, 1) := by decide +kernel
theorem dL_law_1900 : decode code 1900 = .ok (.iload 6, 2) := by decide +kernel
theorem dL_law_1902 : decode code 1902 = .ok (.i2l, 1) := by decide +kernel
theorem dL_law_1903 : decode code 1903 = .ok (.lcmp, 1) := by decide +kernel
theorem dL_law_1904 : decode code 1904 = .ok (.ifCond .eq 5, 3) := by decide +kernel
theorem dL_law_1907 : decode code 1907 = .ok (.iconst 0, 1) := by decide +kernel
theorem dL_law_1908 : decode code 1908 = .ok (.ireturn, 1) := by decide +kernel
theorem dL_law_1909 : decode code 1909 = .ok (.goto 682, 3) := by decide +kernel
theorem dL_law_1912 : decode code 1912 = .ok (.aload_n 1, 1) := by decide +kernel
theorem dL_law_1913 : decode code 1913 = .ok (.aload_n 0, 1) := by decide +kernel
theorem dL_law_1914 : decode code 1914 = .ok (.iload 4, 2) := by decide +kernel
theorem dL_law_1916 : decode code 1916 = .ok (.iconst 1, 1) := by decide +kernel
theorem dL_law_1917 : decode code 1917 = .ok (.iadd, 1) := by decide +kernel
theorem dL_law_1918 : decode code 1918 = .ok (.iaload, 1) := by decide +kernel
theorem dL_law_1919 : decode code 1919 = .ok (.aload_n 3, 1) := by decide +kernel
theorem dL_law_1920 : decode code 1920 = .ok (.invokestatic 236, 3) := by decide +kernel
theorem dL_law_1923 : decode code 1923 = .ok (.istore 5, 2) := by decide +kernel
theorem dL_law_1925 : decode code 1925 = .ok (.aload_n 2, 1) := by decide +kernel
theorem dL_law_1926 : decode code 1926 = .ok (.aload_n 0, 1) := by decide +kernel
theorem dL_law_1927 : decode code 1927 = .ok (.iload 4, 2) := by decide +kernel
theorem dL_law_1929 : decode code 1929 = .ok (.iconst 1, 1) := by decide +kernel
theorem dL_law_1930 : decode code 1930 = .ok (.iadd, 1) := by decide +kernel
theorem dL_law_1931 : decode code 1931 = .ok (.iaload, 1) := by decide +kernel
theorem dL_law_1932 : decode code 1932 = .ok (.invokevirtual 238, 3) := by decide +kernel
theorem dL_law_1935 : decode code 1935 = .ok (.istore 6, 2) := by decide +kernel
theorem dL_law_1937 : decode code 1937 = .ok (.aload_n 2, 1) := by decide +kernel
theorem dL_law_1938 : decode code 1938 = .ok (.invokevirtual 133, 3) := by decide +kernel
theorem dL_law_1941 : decode code 1941 = .ok (.iload 5, 2) := by decide +kernel
theorem dL_law_1943 : decode code 1943 = .ok (.if_icmp .eq 5, 3) := by decide +kernel
theorem dL_law_1946 : decode code 1946 = .ok (.iconst 0, 1) := by decide +kernel
theorem dL_law_1947 : decode code 1947 = .ok (.ireturn, 1) := by decide +kernel
theorem dL_law_1948 : decode code 1948 = .ok (.iload 5, 2) := by decide +kernel
theorem dL_law_1950 : decode code 1950 = .ok (.ifCond .ne 15, 3) := by decide +kernel
theorem dL_law_1953 : decode code 1953 = .ok (.aload_n 3, 1) := by decide +kernel
theorem dL_law_1954 : decode code 1954 = .ok (.iconst 0, 1) := by decide +kernel
theorem dL_law_1955 : decode code 1955 = .ok (.laload, 1) := by decide +kernel
theorem dL_law_1956 : decode code 1956 = .ok (.iload 6, 2) := by decide +kernel
theorem dL_law_1958 : decode code 1958 = .ok (.i2l, 1) := by decide +kernel
theorem dL_law_1959 : decode code 1959 = .ok (.lcmp, 1) := by decide +kernel
theorem dL_law_1960 : decode code 1960 = .ok (.ifCond .eq 5, 3) := by decide +kernel
theorem dL_law_1963 : decode code 1963 = .ok (.iconst 0, 1) := by decide +kernel
theorem dL_law_1964 : decode code 1964 = .ok (.ireturn, 1) := by decide +kernel
theorem dL_law_1965 : decode code 1965 = .ok (.goto 626, 3) := by decide +kernel
theorem dL_law_1968 : decode code 1968 = .ok (.aload_n 1, 1) := by decide +kernel
theorem dL_law_1969 : decode code 1969 = .ok (.aload_n 0, 1) := by decide +kernel
theorem dL_law_1970 : decode code 1970 = .ok (.iload 4, 2) := by decide +kernel
theorem dL_law_1972 : decode code 1972 = .ok (.iconst 1, 1) := by decide +kernel
theorem dL_law_1973 : decode code 1973 = .ok (.iadd, 1) := by decide +kernel
theorem dL_law_1974 : decode code 1974 = .ok (.iaload, 1) := by decide +kernel
theorem dL_law_1975 : decode code 1975 = .ok (.aload_n 3, 1) := by decide +kernel
theorem dL_law_1976 : decode code 1976 = .ok (.invokestatic 239, 3) := by decide +kernel
theorem dL_law_1979 : decode code 1979 = .ok (.istore 5, 2) := by decide +kernel
theorem dL_law_1981 : decode code 1981 = .ok (.aload_n 2, 1) := by decide +kernel
theorem dL_law_1982 : decode code 1982 = .ok (.aload_n 0, 1) := by decide +kernel
theorem dL_law_1983 : decode code 1983 = .ok (.iload 4, 2) := by decide +kernel
theorem dL_law_1985 : decode code 1985 = .ok (.iconst 1, 1) := by decide +kernel
theorem dL_law_1986 : decode code 1986 = .ok (.iadd, 1) := by decide +kernel
theorem dL_law_1987 : decode code 1987 = .ok (.iaload, 1) := by decide +kernel
theorem dL_law_1988 : decode code 1988 = .ok (.invokevirtual 241, 3) := by decide +kernel
theorem dL_law_1991 : decode code 1991 = .ok (.istore 6, 2) := by decide +kernel
theorem dL_law_1993 : decode code 1993 = .ok (.aload_n 2, 1) := by decide +kernel
theorem dL_law_1994 : decode code 1994 = .ok (.invokevirtual 133, 3) := by decide +kernel
theorem dL_law_1997 : decode code 1997 = .ok (.iload 5, 2) := by decide +kernel
theorem dL_law_1999 : decode code 1999 = .ok (.if_icmp .eq 5, 3) := by decide +kernel
theorem dL_law_2002 : decode code 2002 = .ok (.iconst 0, 1) := by decide +kernel
theorem dL_law_2003 : decode code 2003 = .ok (.ireturn, 1) := by decide +kernel
theorem dL_law_2004 : decode code 2004 = .ok (.iload 5, 2) := by decide +kernel
theorem dL_law_2006 : decode code 2006 = .ok (.ifCond .ne 15, 3) := by decide +kernel
theorem dL_law_2009 : decode code 2009 = .ok (.aload_n 3, 1) := by decide +kernel
theorem dL_law_2010 : decode code 2010 = .ok (.iconst 0, 1) := by decide +kernel
theorem dL_law_2011 : decode code 2011 = .ok (.laload, 1) := by decide +kernel
theorem dL_law_2012 : decode code 2012 = .ok (.iload 6, 2) := by decide +kernel
theorem dL_law_2014 : decode code 2014 = .ok (.i2l, 1) := by decide +kernel
theorem dL_law_2015 : decode code 2015 = .ok (.lcmp, 1) := by decide +kernel
theorem dL_law_2016 : decode code 2016 = .ok (.ifCond .eq 5, 3) := by decide +kernel
theorem dL_law_2019 : decode code 2019 = .ok (.iconst 0, 1) := by decide +kernel
theorem dL_law_2020 : decode code 2020 = .ok (.ireturn, 1) := by decide +kernel
theorem dL_law_2021 : decode code 2021 = .ok (.goto 570, 3) := by decide +kernel
theorem dL_law_2024 : decode code 2024 = .ok (.aload_n 1, 1) := by decide +kernel
theorem dL_law_2025 : decode code 2025 = .ok (.aload_n 0, 1) := by decide +kernel
theorem dL_law_2026 : decode code 2026 = .ok (.iload 4, 2) := by decide +kernel
theorem dL_law_2028 : decode code 2028 = .ok (.iconst 1, 1) := by decide +kernel
theorem dL_law_2029 : decode code 2029 = .ok (.iadd, 1) := by decide +kernel
theorem dL_law_2030 : decode code 2030 = .ok (.iaload, 1) := by decide +kernel
theorem dL_law_2031 : decode code 2031 = .ok (.aload_n 0, 1) := by decide +kernel
theorem dL_law_2032 : decode code 2032 = .ok (.iload 4, 2) := by decide +kernel
theorem dL_law_2034 : decode code 2034 = .ok (.iconst 2, 1) := by decide +kernel
theorem dL_law_2035 : decode code 2035 = .ok (.iadd, 1) := by decide +kernel
theorem dL_law_2036 : decode code 2036 = .ok (.iaload, 1) := by decide +kernel
theorem dL_law_2037 : decode code 2037 = .ok (.aload_n 3, 1) := by decide +kernel
theorem dL_law_2038 : decode code 2038 = .ok (.invokestatic 242, 3) := by decide +kernel
theorem dL_law_2041 : decode code 2041 = .ok (.istore 5, 2) := by decide +kernel
theorem dL_law_2043 : decode code 2043 = .ok (.aload_n 2, 1) := by decide +kernel
theorem dL_law_2044 : decode code 2044 = .ok (.aload_n 0, 1) := by decide +kernel
theorem dL_law_2045 : decode code 2045 = .ok (.iload 4, 2) := by decide +kernel
theorem dL_law_2047 : decode code 2047 = .ok (.iconst 1, 1) := by decide +kernel
theorem dL_law_2048 : decode code 2048 = .ok (.iadd, 1) := by decide +kernel
