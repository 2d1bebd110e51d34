theorem dL_law_1475 : decode cL_law 1475 = .ok (.invokevirtual 195, 3) := by decide +kernel
theorem dL_law_1478 : decode cL_law 1478 = .ok (.aload_n 2, 1) := by decide +kernel
theorem dL_law_1479 : decode cL_law 1479 = .ok (.aload_n 0, 1) := by decide +kernel
theorem dL_law_1480 : decode cL_law 1480 = .ok (.iload_n 3, 1) := by decide +kernel
theorem dL_law_1481 : decode cL_law 1481 = .ok (.iconst 1, 1) := by decide +kernel
theorem dL_law_1482 : decode cL_law 1482 = .ok (.iadd, 1) := by decide +kernel
theorem dL_law_1483 : decode cL_law 1483 = .ok (.iaload, 1) := by decide +kernel
theorem dL_law_1484 : decode cL_law 1484 = .ok (.invokevirtual 198, 3) := by decide +kernel
theorem dL_law_1487 : decode cL_law 1487 = .ok (.if_icmp .eq 1179, 3) := by decide +kernel
theorem dL_law_1492 : decode cL_law 1492 = .ok (.aload_n 1, 1) := by decide +kernel
theorem dL_law_1493 : decode cL_law 1493 = .ok (.aload_n 0, 1) := by decide +kernel
theorem dL_law_1494 : decode cL_law 1494 = .ok (.iload_n 3, 1) := by decide +kernel
theorem dL_law_1495 : decode cL_law 1495 = .ok (.iconst 1, 1) := by decide +kernel
theorem dL_law_1496 : decode cL_law 1496 = .ok (.iadd, 1) := by decide +kernel
theorem dL_law_1497 : decode cL_law 1497 = .ok (.iaload, 1) := by decide +kernel
theorem dL_law_1498 : decode cL_law 1498 = .ok (.aload_n 0, 1) := by decide +kernel
theorem dL_law_1499 : decode cL_law 1499 = .ok (.iload_n 3, 1) := by decide +kernel
theorem dL_law_1500 : decode cL_law 1500 = .ok (.iconst 2, 1) := by decide +kernel
theorem dL_law_1501 : decode cL_law 1501 = .ok (.iadd, 1) := by decide +kernel
theorem dL_law_1502 : decode cL_law 1502 = .ok (.iaload, 1) := by decide +kernel
theorem dL_law_1503 : decode cL_law 1503 = .ok (.invokevirtual 199, 3) := by decide +kernel
theorem dL_law_1506 : decode cL_law 1506 = .ok (.aload_n 2, 1) := by decide +kernel
theorem dL_law_1507 : decode cL_law 1507 = .ok (.aload_n 0, 1) := by decide +kernel
theorem dL_law_1508 : decode cL_law 1508 = .ok (.iload_n 3, 1) := by decide +kernel
theorem dL_law_1509 : decode cL_law 1509 = .ok (.iconst 1, 1) := by decide +kernel
theorem dL_law_1510 : decode cL_law 1510 = .ok (.iadd, 1) := by decide +kernel
theorem dL_law_1511 : decode cL_law 1511 = .ok (.iaload, 1) := by decide +kernel
theorem dL_law_1512 : decode cL_law 1512 = .ok (.aload_n 0, 1) := by decide +kernel
theorem dL_law_1513 : decode cL_law 1513 = .ok (.iload_n 3, 1) := by decide +kernel
theorem dL_law_1514 : decode cL_law 1514 = .ok (.iconst 2, 1) := by decide +kernel
theorem dL_law_1515 : decode cL_law 1515 = .ok (.iadd, 1) := by decide +kernel
theorem dL_law_1516 : decode cL_law 1516 = .ok (.iaload, 1) := by decide +kernel
theorem dL_law_1517 : decode cL_law 1517 = .ok (.invokevirtual 202, 3) := by decide +kernel
theorem dL_law_1520 : decode cL_law 1520 = .ok (.if_icmp .eq 1146, 3) := by decide +kernel
theorem dL_law_1525 : decode cL_law 1525 = .ok (.aload_n 1, 1) := by decide +kernel
theorem dL_law_1526 : decode cL_law 1526 = .ok (.aload_n 0, 1) := by decide +kernel
theorem dL_law_1527 : decode cL_law 1527 = .ok (.iload_n 3, 1) := by decide +kernel
theorem dL_law_1528 : decode cL_law 1528 = .ok (.iconst 1, 1) := by decide +kernel
theorem dL_law_1529 : decode cL_law 1529 = .ok (.iadd, 1) := by decide +kernel
theorem dL_law_1530 : decode cL_law 1530 = .ok (.iaload, 1) := by decide +kernel
theorem dL_law_1531 : decode cL_law 1531 = .ok (.invokevirtual 203, 3) := by decide +kernel
theorem dL_law_1534 : decode cL_law 1534 = .ok (.aload_n 2, 1) := by decide +kernel
theorem dL_law_1535 : decode cL_law 1535 = .ok (.aload_n 0, 1) := by decide +kernel
theorem dL_law_1536 : decode cL_law 1536 = .ok (.iload_n 3, 1) := by decide +kernel
theorem dL_law_1537 : decode cL_law 1537 = .ok (.iconst 1, 1) := by decide +kernel
theorem dL_law_1538 : decode cL_law 1538 = .ok (.iadd, 1) := by decide +kernel
theorem dL_law_1539 : decode cL_law 1539 = .ok (.iaload, 1) := by decide +kernel
theorem dL_law_1540 : decode cL_law 1540 = .ok (.invokevirtual 206, 3) := by decide +kernel
theorem dL_law_1543 : decode cL_law 1543 = .ok (.if_icmp .eq 1123, 3) := by decide +kernel
theorem dL_law_1548 : decode cL_law 1548 = .ok (.aload_n 1, 1) := by decide +kernel
theorem dL_law_1549 : decode cL_law 1549 = .ok (.aload_n 0, 1) := by decide +kernel
theorem dL_law_1550 : decode cL_law 1550 = .ok (.iload_n 3, 1) := by decide +kernel
theorem dL_law_1551 : decode cL_law 1551 = .ok (.iconst 1, 1) := by decide +kernel
theorem dL_law_1552 : decode cL_law 1552 = .ok (.iadd, 1) := by decide +kernel
theorem dL_law_1553 : decode cL_law 1553 = .ok (.iaload, 1) := by decide +kernel
theorem dL_law_1554 : decode cL_law 1554 = .ok (.invokevirtual 207, 3) := by decide +kernel
theorem dL_law_1557 : decode cL_law 1557 = .ok (.aload_n 2, 1) := by decide +kernel
theorem dL_law_1558 : decode cL_law 1558 = .ok (.aload_n 0, 1) := by decide +kernel
theorem dL_law_1559 : decode cL_law 1559 = .ok (.iload_n 3, 1) := by decide +kernel
theorem dL_law_1560 : decode cL_law 1560 = .ok (.iconst 1, 1) := by decide +kernel
theorem dL_law_1561 : decode cL_law 1561 = .ok (.iadd, 1) := by decide +kernel
theorem dL_law_1562 : decode cL_law 1562 = .ok (.iaload, 1) := by decide +kernel
theorem dL_law_1563 : decode cL_law 1563 = .ok (.invokevirtual 210, 3) := by decide +kernel
theorem dL_law_1566 : decode cL_law 1566 = .ok (.if_icmp .eq 1100, 3) := by decide +kernel
theorem dL_law_1571 : decode cL_law 1571 = .ok (.aload_n 1, 1) := by decide +kernel
theorem dL_law_1572 : decode cL_law 1572 = .ok (.aload_n 0, 1) := by decide +kernel
theorem dL_law_1573 : decode cL_law 1573 = .ok (.iload_n 3, 1) := by decide +kernel
theorem dL_law_1574 : decode cL_law 1574 = .ok (.iconst 1, 1) := by decide +kernel
theorem dL_law_1575 : decode cL_law 1575 = .ok (.iadd, 1) := by decide +kernel
theorem dL_law_1576 : decode cL_law 1576 = .ok (.iaload, 1) := by decide +kernel
theorem dL_law_1577 : decode cL_law 1577 = .ok (.invokevirtual 211, 3) := by decide +kernel
theorem dL_law_1580 : decode cL_law 1580 = .ok (.aload_n 2, 1) := by decide +kernel
theorem dL_law_1581 : decode cL_law 1581 = .ok (.aload_n 0, 1) := by decide +kernel
theorem dL_law_1582 : decode cL_law 1582 = .ok (.iload_n 3, 1) := by decide +kernel
theorem dL_law_1583 : decode cL_law 1583 = .ok (.iconst 1, 1) := by decide +kernel
theorem dL_law_1584 : decode cL_law 1584 = .ok (.iadd, 1) := by decide +kernel
theorem dL_law_1585 : decode cL_law 1585 = .ok (.iaload, 1) := by decide +kernel
theorem dL_law_1586 : decode cL_law 1586 = .ok (.invokevirtual 214, 3) := by decide +kernel
theorem dL_law_1589 : decode cL_law 1589 = .ok (.if_icmp .eq 1077, 3) := by decide +kernel
theorem dL_law_1594 : decode cL_law 1594 = .ok (.aload_n 1, 1) := by decide +kernel
theorem dL_law_1595 : decode cL_law 1595 = .ok (.invokevirtual 215, 3) := by decide +kernel
theorem dL_law_1598 : decode cL_law 1598 = .ok (.aload_n 2, 1) := by decide +kernel
theorem dL_law_1599 : decode cL_law 1599 = .ok (.invokevirtual 218, 3) := by decide +kernel
theorem dL_law_1602 : decode cL_law 1602 = .ok (.if_icmp .eq 1064, 3) := by decide +kernel
theorem dL_law_1607 : decode cL_law 1607 = .ok (.aload_n 1, 1) := by decide +kernel
theorem dL_law_1608 : decode cL_law 1608 = .ok (.invokevirtual 219, 3) := by decide +kernel
theorem dL_law_1611 : decode cL_law 1611 = .ok (.aload_n 2, 1) := by decide +kernel
theorem dL_law_1612 : decode cL_law 1612 = .ok (.invokevirtual 222, 3) := by decide +kernel
theorem dL_law_1615 : decode cL_law 1615 = .ok (.if_icmp .eq 1051, 3) := by decide +kernel
theorem dL_law_1620 : decode cL_law 1620 = .ok (.aload_n 1, 1) := by decide +kernel
theorem dL_law_1621 : decode cL_law 1621 = .ok (.aload_n 0, 1) := by decide +kernel
theorem dL_law_1622 : decode cL_law 1622 = .ok (.iload_n 3, 1) := by decide +kernel
theorem dL_law_1623 : decode cL_law 1623 = .ok (.iconst 1, 1) := by decide +kernel
theorem dL_law_1624 : decode cL_law 1624 = .ok (.iadd, 1) := by decide +kernel
theorem dL_law_1625 : decode cL_law 1625 = .ok (.iaload, 1) := by decide +kernel
theorem dL_law_1626 : decode cL_law 1626 = .ok (.invokevirtual 223, 3) := by decide +kernel
theorem dL_law_1629 : decode cL_law 1629 = .ok (.aload_n 2, 1) := by decide +kernel
theorem dL_law_1630 : decode cL_law 1630 = .ok (.aload_n 0, 1) := by decide +kernel
theorem dL_law_1631 : decode cL_law 1631 = .ok (.iload_n 3, 1) := by decide +kernel
theorem dL_law_1632 : decode cL_law 1632 = .ok (.iconst 1, 1) := by decide +kernel
theorem dL_law_1633 : decode cL_law 1633 = .ok (.iadd, 1) := by decide +kernel
theorem dL_law_1634 : decode cL_law 1634 = .ok (.iaload, 1) := by decide +kernel
theorem dL_law_1635 : decode cL_law 1635 = .ok (.invokevirtual 226, 3) := by decide +kernel
theorem dL_law_1638 : decode cL_law 1638 = .ok (.if_icmp .eq 1028, 3) := by decide +kernel
theorem dL_law_1643 : decode cL_law 1643 = .ok (.aload_n 1, 1) := by decide +kernel
theorem dL_law_1644 : decode cL_law 1644 = .ok (.invokevirtual 227, 3) := by decide +kernel
theorem dL_law_1647 : decode cL_law 1647 = .ok (.aload_n 2, 1) := by decide +kernel
theorem dL_law_1648 : decode cL_law 1648 = .ok (.invokevirtual 230, 3) := by decide +kernel
theorem dL_law_1651 : decode cL_law 1651 = .ok (.if_icmp .eq 1015, 3) := by decide +kernel
theorem dL_law_1656 : decode cL_law 1656 = .ok (.aload_n 1, 1) := by decide +kernel
theorem dL_law_1657 : decode cL_law 1657 = .ok (.aload_n 0, 1) := by decide +kernel
theorem dL_law_1658 : decode cL_law 1658 = .ok (.iload_n 3, 1) := by decide +kernel
theorem dL_law_1659 : decode cL_law 1659 = .ok (.iconst 1, 1) := by decide +kernel
theorem dL_law_1660 : decode cL_law 1660 = .ok (.iadd, 1) := by decide +kernel
theorem dL_law_1661 : decode cL_law 1661 = .ok (.iaload, 1) := by decide +kernel
theorem dL_law_1662 : decode cL_law 1662 = .ok (.invokevirtual 231, 3) := by decide +kernel
theorem dL_law_1665 : decode cL_law 1665 = .ok (.aload_n 2, 1) := by decide +kernel
theorem dL_law_1666 : decode cL_law 1666 = .ok (.aload_n 0, 1) := by decide +kernel
theorem dL_law_1667 : decode cL_law 1667 = .ok (.iload_n 3, 1) := by decide +kernel
theorem dL_law_1668 : decode cL_law 1668 = .ok (.iconst 1, 1) := by decide +kernel
theorem dL_law_1669 : decode cL_law 1669 = .ok (.iadd, 1) := by decide +kernel
theorem dL_law_1670 : decode cL_law 1670 = .ok (.iaload, 1) := by decide +kernel
theorem dL_law_1671 : decode cL_law 1671 = .ok (.invokevirtual 234, 3) := by decide +kernel
theorem dL_law_1674 : decode cL_law 1674 = .ok (.if_icmp .eq 992, 3) := by decide +kernel
theorem dL_law_1679 : decode cL_law 1679 = .ok (.aload_n 1, 1) := by decide +kernel
theorem dL_law_1680 : decode cL_law 1680 = .ok (.aload_n 0, 1) := by decide +kernel
theorem dL_law_1681 : decode cL_law 1681 = .ok (.iload_n 3, 1) := by decide +kernel
theorem dL_law_1682 : decode cL_law 1682 = .ok (.iconst 1, 1) := by decide +kernel
theorem dL_law_1683 : decode cL_law 1683 = .ok (.iadd, 1) := by decide +kernel
theorem dL_law_1684 : decode cL_law 1684 = .ok (.iaload, 1) := by decide +kernel
theorem dL_law_1685 : decode cL_law 1685 = .ok (.invokevirtual 235, 3) := by decide +kernel
theorem dL_law_1688 : decode cL_law 1688 = .ok (.aload_n 2, 1) := by decide +kernel
theorem dL_law_1689 : decode cL_law 1689 = .ok (.aload_n 0, 1) := by decide +kernel
theorem dL_law_1690 : decode cL_law 1690 = .ok (.iload_n 3, 1) := by decide +kernel
theorem dL_law_1691 : decode cL_law 1691 = .ok (.iconst 1, 1) := by decide +kernel
theorem dL_law_1692 : decode cL_law 1692 = .ok (.iadd, 1) := by decide +kernel
theorem dL_law_1693 : decode cL_law 1693 = .ok (.iaload, 1) := by decide +kernel
theorem dL_law_1694 : decode cL_law 1694 = .ok (.invokevirtual 238, 3) := by decide +kernel
theorem dL_law_1697 : decode cL_law 1697 = .ok (.if_icmp .eq 969, 3) := by decide +kernel
theorem dL_law_1702 : decode cL_law 1702 = .ok (.aload_n 1, 1) := by decide +kernel
theorem dL_law_1703 : decode cL_law 1703 = .ok (.invokevirtual 239, 3) := by decide +kernel
theorem dL_law_1706 : decode cL_law 1706 = .ok (.aload_n 2, 1) := by decide +kernel
theorem dL_law_1707 : decode cL_law 1707 = .ok (.invokevirtual 242, 3) := by decide +kernel
theorem dL_law_1710 : decode cL_law 1710 = .ok (.if_icmp .eq 956, 3) := by decide +kernel
theorem dL_law_1715 : decode cL_law 1715 = .ok (.aload_n 1, 1) := by decide +kernel
theorem dL_law_1716 : decode cL_law 1716 = .ok (.invokevirtual 243, 3) := by decide +kernel
theorem dL_law_1719 : decode cL_law 1719 = .ok (.aload_n 2, 1) := by decide +kernel
theorem dL_law_1720 : decode cL_law 1720 = .ok (.invokevirtual 246, 3) := by decide +kernel
theorem dL_law_1723 : decode cL_law 1723 = .ok (.if_icmp .eq 943, 3) := by decide +kernel
theorem dL_law_1728 : decode cL_law 1728 = .ok (.aload_n 1, 1) := by decide +kernel
theorem dL_law_1729 : decode cL_law 1729 = .ok (.aload_n 0, 1) := by decide +kernel
theorem dL_law_1730 : decode cL_law 1730 = .ok (.iload_n 3, 1) := by decide +kernel
theorem dL_law_1731 : decode cL_law 1731 = .ok (.iconst 1, 1) := by decide +kernel
theorem dL_law_1732 : decode cL_law 1732 = .ok (.iadd, 1) := by decide +kernel
theorem dL_law_1733 : decode cL_law 1733 = .ok (.iaload, 1) := by decide +kernel
theorem dL_law_1734 : decode cL_law 1734 = .ok (.aload_n 0, 1) := by decide +kernel
theorem dL_law_1735 : decode cL_law 1735 = .ok (.iload_n 3, 1) := by decide +kernel
theorem dL_law_1736 : decode cL_law 1736 = .ok (.iconst 2, 1) := by decide +kernel
theorem dL_law_1737 : decode cL_law 1737 = .ok (.iadd, 1) := by decide +kernel
theorem dL_law_1738 : decode cL_law 1738 = .ok (.iaload, 1) := by decide +kernel
theorem dL_law_1739 : decode cL_law 1739 = .ok (.invokevirtual 247, 3) := by decide +kernel
theorem dL_law_1742 : decode cL_law 1742 = .ok (.aload_n 2, 1) := by decide +kernel
theorem dL_law_1743 : decode cL_law 1743 = .ok (.aload_n 0, 1) := by decide +kernel
theorem dL_law_1744 : decode cL_law 1744 = .ok (.iload_n 3, 1) := by decide +kernel
theorem dL_law_1745 : decode cL_law 1745 = .ok (.iconst 1, 1) := by decide +kernel
theorem dL_law_1746 : decode cL_law 1746 = .ok (.iadd, 1) := by decide +kernel
theorem dL_law_1747 : decode cL_law 1747 = .ok (.iaload, 1) := by decide +kernel
theorem dL_law_1748 : decode cL_law 1748 = .ok (.aload_n 0, 1) := by decide +kernel
theorem dL_law_1749 : decode cL_law 1749 = .ok (.iload_n 3, 1) := by decide +kernel
theorem dL_law_1750 : decode cL_law 1750 = .ok (.iconst 2, 1) := by decide +kernel
theorem dL_law_1751 : decode cL_law 1751 = .ok (.iadd, 1) := by decide +kernel
theorem dL_law_1752 : decode cL_law 1752 = .ok (.iaload, 1) := by decide +kernel
theorem dL_law_1753 : decode cL_law 1753 = .ok (.invokevirtual 250, 3) := by decide +kernel
theorem dL_law_1756 : decode cL_law 1756 = .ok (.if_icmp .eq 910, 3) := by decide +kernel
theorem dL_law_1761 : decode cL_law 1761 = .ok (.aload_n 1, 1) := by decide +kernel
theorem dL_law_1762 : decode cL_law 1762 = .ok (.aload_n 0, 1) := by decide +kernel
theorem dL_law_1763 : decode cL_law 1763 = .ok (.iload_n 3, 1) := by decide +kernel
theorem dL_law_1764 : decode cL_law 1764 = .ok (.iconst 1, 1) := by decide +kernel
theorem dL_law_1765 : decode cL_law 1765 = .ok (.iadd, 1) := by decide +kernel
theorem dL_law_1766 : decode cL_law 1766 = .ok (.iaload, 1) := by decide +kernel
theorem dL_law_1767 : decode cL_law 1767 = .ok (.aload_n 0, 1) := by decide +kernel
theorem dL_law_1768 : decode cL_law 1768 = .ok (.iload_n 3, 1) := by decide +kernel
theorem dL_law_1769 : decode cL_law 1769 = .ok (.iconst 2, 1) := by decide +kernel
theorem dL_law_1770 : decode cL_law 1770 = .ok (.iadd, 1) := by decide +kernel
theorem dL_law_1771 : decode cL_law 1771 = .ok (.iaload, 1) := by decide +kernel
theorem dL_law_1772 : decode cL_law 1772 = .ok (.invokevirtual 251, 3) := by decide +kernel
theorem dL_law_1775 : decode cL_law 1775 = .ok (.aload_n 2, 1) := by decide +kernel
theorem dL_law_1776 : decode cL_law 1776 = .ok (.aload_n 0, 1) := by decide +kernel
theorem dL_law_1777 : decode cL_law 1777 = .ok (.iload_n 3, 1) := by decide +kernel
theorem dL_law_1778 : decode cL_law 1778 = .ok (.iconst 1, 1) := by decide +kernel
theorem dL_law_1779 : decode cL_law 1779 = .ok (.iadd, 1) := by decide +kernel
theorem dL_law_1780 : decode cL_law 1780 = .ok (.iaload, 1) := by decide +kernel
theorem dL_law_1781 : decode cL_law 1781 = .ok (.aload_n 0, 1) := by decide +kernel
theorem dL_law_1782 : decode cL_law 1782 = .ok (.iload_n 3, 1) := by decide +kernel
theorem dL_law_1783 : decode cL_law 1783 = .ok (.iconst 2, 1) := by decide +kernel
theorem dL_law_1784 : decode cL_law 1784 = .ok (.iadd, 1) := by decide +kernel
theorem dL_law_1785 : decode cL_law 1785 = .ok (.iaload, 1) := by decide +kernel
theorem dL_law_1786 : decode cL_law 1786 = .ok (.invokevirtual 254, 3) := by decide +kernel
theorem dL_law_1789 : decode cL_law 1789 = .ok (.if_icmp .eq 877, 3) := by decide +kernel
theorem dL_law_1794 : decode cL_law 1794 = .ok (.aload_n 1, 1) := by decide +kernel
theorem dL_law_1795 : decode cL_law 1795 = .ok (.aload_n 0, 1) := by decide +kernel
theorem dL_law_1796 : decode cL_law 1796 = .ok (.iload_n 3, 1) := by decide +kernel
theorem dL_law_1797 : decode cL_law 1797 = .ok (.iconst 1, 1) := by decide +kernel
theorem dL_law_1798 : decode cL_law 1798 = .ok (.iadd, 1) := by decide +kernel
theorem dL_law_1799 : decode cL_law 1799 = .ok (.iaload, 1) := by decide +kernel
theorem dL_law_1800 : decode cL_law 1800 = .ok (.aload_n 0, 1) := by decide +kernel
theorem dL_law_1801 : decode cL_law 1801 = .ok (.iload_n 3, 1) := by decide +kernel
theorem dL_law_1802 : decode cL_law 1802 = .ok (.iconst 2, 1) := by decide +kernel
theorem dL_law_1803 : decode cL_law 1803 = .ok (.iadd, 1) := by decide +kernel
theorem dL_law_1804 : decode cL_law 1804 = .ok (.iaload, 1) := by decide +kernel
theorem dL_law_1805 : decode cL_law 1805 = .ok (.invokevirtual 255, 3) := by decide +kernel
theorem dL_law_1808 : decode cL_law 1808 = .ok (.aload_n 2, 1) := by decide +kernel
theorem dL_law_1809 : decode cL_law 1809 = .ok (.aload_n 0, 1) := by decide +kernel
theorem dL_law_1810 : decode cL_law 1810 = .ok (.iload_n 3, 1) := by decide +kernel
theorem dL_law_1811 : decode cL_law 1811 = .ok (.iconst 1, 1) := by decide +kernel
theorem dL_law_1812 : decode cL_law 1812 = .ok (.iadd, 1) := by decide +kernel
theorem dL_law_1813 : decode cL_law 1813 = .ok (.iaload, 1) := by decide +kernel
theorem dL_law_1814 : decode cL_law 1814 = .ok (.aload_n 0, 1) := by decide +kernel
theorem dL_law_1815 : decode cL_law 1815 = .ok (.iload_n 3, 1) := by decide +kernel
theorem dL_law_1816 : decode cL_law 1816 = .ok (.iconst 2, 1) := by decide +kernel
theorem dL_law_1817 : decode cL_law 1817 = .ok (.iadd, 1) := by decide +kernel
theorem dL_law_1818 : decode cL_law 1818 = .ok (.iaload, 1) := by decide +kernel
theorem dL_law_1819 : decode cL_law 1819 = .ok (.invokevirtual 258, 3) := by decide +kernel
theorem dL_law_1822 : decode cL_law 1822 = .ok (.if_icmp .eq 844, 3) := by decide +kernel
theorem dL_law_1827 : decode cL_law 1827 = .ok (.aload_n 1, 1) := by decide +kernel
theorem dL_law_1828 : decode cL_law 1828 = .ok (.aload_n 0, 1) := by decide +kernel
theorem dL_law_1829 : decode cL_law 1829 = .ok (.iload_n 3, 1) := by decide +kernel
theorem dL_law_1830 : decode cL_law 1830 = .ok (.iconst 1, 1) := by decide +kernel
theorem dL_law_1831 : decode cL_law 1831 = .ok (.iadd, 1) := by decide +kernel
theorem dL_law_1832 : decode cL_law 1832 = .ok (.iaload, 1) := by decide +kernel
theorem dL_law_1833 : decode cL_law 1833 = .ok (.aload_n 0, 1) := by decide +kernel
theorem dL_law_1834 : decode cL_law 1834 = .ok (.iload_n 3, 1) := by decide +kernel
theorem dL_law_1835 : decode cL_law 1835 = .ok (.iconst 2, 1) := by decide +kernel
theorem dL_law_1836 : decode cL_law 1836 = .ok (.iadd, 1) := by decide +kernel
theorem dL_law_1837 : decode cL_law 1837 = .ok (.iaload, 1) := by decide +kernel
theorem dL_law_1838 : decode cL_law 1838 = .ok (.invokevirtual 259, 3) := by decide +kernel
theorem dL_law_1841 : decode cL_law 1841 = .ok (.aload_n 2, 1) := by decide +kernel
theorem dL_law_1842 : decode cL_law 1842 = .ok (.aload_n 0, 1) := by decide +kernel
theorem dL_law_1843 : decode cL_law 1843 = .ok (.iload_n 3, 1) := by decide +kernel
theorem dL_law_1844 : decode cL_law 1844 = .ok (.iconst 1, 1) := by decide +kernel
theorem dL_law_1845 : decode cL_law 1845 = .ok (.iadd, 1) := by decide +kernel
theorem dL_law_1846 : decode cL_law 1846 = .ok (.iaload, 1) := by decide +kernel
theorem dL_law_1847 : decode cL_law 1847 = .ok (.aload_n 0, 1) := by decide +kernel
theorem dL_law_1848 : decode cL_law 1848 = .ok (.iload_n 3, 1) := by decide +kernel
theorem dL_law_1849 : decode cL_law 1849 = .ok (.iconst 2, 1) := by decide +kernel
theorem dL_law_1850 : decode cL_law 1850 = .ok (.iadd, 1) := by decide +kernel
theorem dL_law_1851 : decode cL_law 1851 = .ok (.iaload, 1) := by decide +kernel
theorem dL_law_1852 : decode cL_law 1852 = .ok (.invokevirtual 262, 3) := by decide +kernel
theorem dL_law_1855 : decode cL_law 1855 = .ok (.if_icmp .eq 811, 3) := by decide +kernel
theorem dL_law_1860 : decode cL_law 1860 = .ok (.aload_n 1, 1) := by decide +kernel
theorem dL_law_1861 : decode cL_law 1861 = .ok (.aload_n 0, 1) := by decide +kernel
theorem dL_law_1862 : decode cL_law 1862 = .ok (.iload_n 3, 1) := by decide +kernel
theorem dL_law_1863 : decode cL_law 1863 = .ok (.iconst 1, 1) := by decide +kernel
theorem dL_law_1864 : decode cL_law 1864 = .ok (.iadd, 1) := by decide +kernel
theorem dL_law_1865 : decode cL_law 1865 = .ok (.iaload, 1) := by decide +kernel
theorem dL_law_1866 : decode cL_law 1866 = .ok (.aload_n 0, 1) := by decide +kernel
theorem dL_law_1867 : decode cL_law 1867 = .ok (.iload_n 3, 1) := by decide +kernel
theorem dL_law_1868 : decode cL_law 1868 = .ok (.iconst 2, 1) := by decide +kernel
theorem dL_law_1869 : decode cL_law 1869 = .ok (.iadd, 1) := by decide +kernel
theorem dL_law_1870 : decode cL_law 1870 = .ok (.iaload, 1) := by decide +kernel
theorem dL_law_1871 : decode cL_law 1871 = .ok (.invokevirtual 263, 3) := by decide +kernel
theorem dL_law_1874 : decode cL_law 1874 = .ok (.aload_n 2, 1) := by decide +kernel
theorem dL_law_1875 : decode cL_law 1875 = .ok (.aload_n 0, 1) := by decide +kernel
theorem dL_law_1876 : decode cL_law 1876 = .ok (.iload_n 3, 1) := by decide +kernel
theorem dL_law_1877 : decode cL_law 1877 = .ok (.iconst 1, 1) := by decide +kernel
theorem dL_law_1878 : decode cL_law 1878 = .ok (.iadd, 1) := by decide +kernel
theorem dL_law_1879 : decode cL_law 1879 = .ok (.iaload, 1) := by decide +kernel
theorem dL_law_1880 : decode cL_law 1880 = .ok (.aload_n 0, 1) := by decide +kernel
theorem dL_law_1881 : decode cL_law 1881 = .ok (.iload_n 3, 1) := by decide +kernel
theorem dL_law_1882 : decode cL_law 1882 = .ok (.iconst 2, 1) := by decide +kernel
theorem dL_law_1883 : decode cL_law 1883 = .ok (.iadd, 1) := by decide +kernel
theorem dL_law_1884 : decode cL_law 1884 = .ok (.iaload, 1) := by decide +kernel
theorem dL_law_1885 : decode cL_law 1885 = .ok (.invokevirtual 266, 3) := by decide +kernel
theorem dL_law_1888 : decode cL_law 1888 = .ok (.if_icmp .eq 778, 3) := by decide +kernel
theorem dL_law_1893 : decode cL_law 1893 = .ok (.aload_n 1, 1) := by decide +kernel
theorem dL_law_1894 : decode cL_law 1894 = .ok (.aload_n 0, 1) := by decide +kernel
theorem dL_law_1895 : decode cL_law 1895 = .ok (.iload_n 3, 1) := by decide +kernel
theorem dL_law_1896 : decode cL_law 1896 = .ok (.iconst 1, 1) := by decide +kernel
theorem dL_law_1897 : decode cL_law 1897 = .ok (.iadd, 1) := by decide +kernel
theorem dL_law_1898 : decode cL_law 1898 = .ok (.iaload, 1) := by decide +kernel
theorem dL_law_1899 : decode cL_law 1899 = .ok (.invokevirtual 267, 3) := by decide +kernel
theorem dL_law_1902 : decode cL_law 1902 = .ok (.aload_n 2, 1) := by decide +kernel
theorem dL_law_1903 : decode cL_law 1903 = .ok (.aload_n 0, 1) := by decide +kernel
theorem dL_law_1904 : decode cL_law 1904 = .ok (.iload_n 3, 1) := by decide +kernel
theorem dL_law_1905 : decode cL_law 1905 = .ok (.iconst 1, 1) := by decide +kernel
theorem dL_law_1906 : decode cL_law 1906 = .ok (.iadd, 1) := by decide +kernel
theorem dL_law_1907 : decode cL_law 1907 = .ok (.iaload, 1) := by decide +kernel
theorem dL_law_1908 : decode cL_law 1908 = .ok (.invokevirtual 270, 3) := by decide +kernel
theorem dL_law_1911 : decode cL_law 1911 = .ok (.if_icmp .eq 755, 3) := by decide +kernel
theorem dL_law_1916 : decode cL_law 1916 = .ok (.aload_n 1, 1) := by decide +kernel
theorem dL_law_1917 : decode cL_law 1917 = .ok (.aload_n 0, 1) := by decide +kernel
theorem dL_law_1918 : decode cL_law 1918 = .ok (.iload_n 3, 1) := by decide +kernel
theorem dL_law_1919 : decode cL_law 1919 = .ok (.iconst 1, 1) := by decide +kernel
theorem dL_law_1920 : decode cL_law 1920 = .ok (.iadd, 1) := by decide +kernel
theorem dL_law_1921 : decode cL_law 1921 = .ok (.iaload, 1) := by decide +kernel
theorem dL_law_1922 : decode cL_law 1922 = .ok (.invokevirtual 271, 3) := by decide +kernel
theorem dL_law_1925 : decode cL_law 1925 = .ok (.aload_n 2, 1) := by decide +kernel
theorem dL_law_1926 : decode cL_law 1926 = .ok (.aload_n 0, 1) := by decide +kernel
theorem dL_law_1927 : decode cL_law 1927 = .ok (.iload_n 3, 1) := by decide +kernel
theorem dL_law_1928 : decode cL_law 1928 = .ok (.iconst 1, 1) := by decide +kernel
theorem dL_law_1929 : decode cL_law 1929 = .ok (.iadd, 1) := by decide +kernel
theorem dL_law_1930 : decode cL_law 1930 = .ok (.iaload, 1) := by decide +kernel
theorem dL_law_1931 : decode cL_law 1931 = .ok (.invokevirtual 274, 3) := by decide +kernel
theorem dL_law_1934 : decode cL_law 1934 = .ok (.if_icmp .eq 732, 3) := by decide +kernel
theorem dL_law_1939 : decode cL_law 1939 = .ok (.aload_n 1, 1) := by decide +kernel
theorem dL_law_1940 : decode cL_law 1940 = .ok (.aload_n 0, 1) := by decide +kernel
theorem dL_law_1941 : decode cL_law 1941 = .ok (.iload_n 3, 1) := by decide +kernel
theorem dL_law_1942 : decode cL_law 1942 = .ok (.iconst 1, 1) := by decide +kernel
theorem dL_law_1943 : decode cL_law 1943 = .ok (.iadd, 1) := by decide +kernel
theorem dL_law_1944 : decode cL_law 1944 = .ok (.iaload, 1) := by decide +kernel
theorem dL_law_1945 : decode cL_law 1945 = .ok (.invokevirtual 275, 3) := by decide +kernel
theorem dL_law_1948 : decode cL_law 1948 = .ok (.aload_n 2, 1) := by decide +kernel
theorem dL_law_1949 : decode cL_law 1949 = .ok (.aload_n 0, 1) := by decide +kernel
theorem dL_law_1950 : decode cL_law 1950 = .ok (.iload_n 3, 1) := by decide +kernel
theorem dL_law_1951 : decode cL_law 1951 = .ok (.iconst 1, 1) := by decide +kernel
theorem dL_law_1952 : decode cL_law 1952 = .ok (.iadd, 1) := by decide +kernel
theorem dL_law_1953 : decode cL_law 1953 = .ok (.iaload, 1) := by decide +kernel
theorem dL_law_1954 : decode cL_law 1954 = .ok (.invokevirtual 278, 3) := by decide +kernel
theorem dL_law_1957 : decode cL_law 1957 = .ok (.if_icmp .eq 709, 3) := by decide +kernel
theorem dL_law_1962 : decode cL_law 1962 = .ok (.aload_n 1, 1) := by decide +kernel
theorem dL_law_1963 : decode cL_law 1963 = .ok (.aload_n 0, 1) := by decide +kernel
theorem dL_law_1964 : decode cL_law 1964 = .ok (.iload_n 3, 1) := by decide +kernel
theorem dL_law_1965 : decode cL_law 1965 = .ok (.iconst 1, 1) := by decide +kernel
theorem dL_law_1966 : decode cL_law 1966 = .ok (.iadd, 1) := by decide +kernel
theorem dL_law_1967 : decode cL_law 1967 = .ok (.iaload, 1) := by decide +kernel
theorem dL_law_1968 : decode cL_law 1968 = .ok (.invokevirtual 279, 3) := by decide +kernel
theorem dL_law_1971 : decode cL_law 1971 = .ok (.aload_n 2, 1) := by decide +kernel
theorem dL_law_1972 : decode cL_law 1972 = .ok (.aload_n 0, 1) := by decide +kernel
theorem dL_law_1973 : decode cL_law 1973 = .ok (.iload_n 3, 1) := by decide +kernel
theorem dL_law_1974 : decode cL_law 1974 = .ok (.iconst 1, 1) := by decide +kernel
theorem dL_law_1975 : decode cL_law 1975 = .ok (.iadd, 1) := by decide +kernel
theorem dL_law_1976 : decode cL_law 1976 = .ok (.iaload, 1) := by decide +kernel
theorem dL_law_1977 : decode cL_law 1977 = .ok (.invokevirtual 282, 3) := by decide +kernel
theorem dL_law_1980 : decode cL_law 1980 = .ok (.if_icmp .eq 686, 3) := by decide +kernel
theorem dL_law_1985 : decode cL_law 1985 = .ok (.aload_n 1, 1) := by decide +kernel
theorem dL_law_1986 : decode cL_law 1986 = .ok (.invokevirtual 283, 3) := by decide +kernel
theorem dL_law_1989 : decode cL_law 1989 = .ok (.aload_n 2, 1) := by decide +kernel
theorem dL_law_1990 : decode cL_law 1990 = .ok (.invokevirtual 286, 3) := by decide +kernel
theorem dL_law_1993 : decode cL_law 1993 = .ok (.if_icmp .eq 673, 3) := by decide +kernel
theorem dL_law_1998 : decode cL_law 1998 = .ok (.aload_n 1, 1) := by decide +kernel
theorem dL_law_1999 : decode cL_law 1999 = .ok (.aload_n 0, 1) := by decide +kernel
theorem dL_law_2000 : decode cL_law 2000 = .ok (.iload_n 3, 1) := by decide +kernel
theorem dL_law_2001 : decode cL_law 2001 = .ok (.iconst 1, 1) := by decide +kernel
theorem dL_law_2002 : decode cL_law 2002 = .ok (.iadd, 1) := by decide +kernel
theorem dL_law_2003 : decode cL_law 2003 = .ok (.iaload, 1) := by decide +kernel
theorem dL_law_2004 : decode cL_law 2004 = .ok (.invokevirtual 287, 3) := by decide +kernel
theorem dL_law_2007 : decode cL_law 2007 = .ok (.aload_n 2, 1) := by decide +kernel
theorem dL_law_2008 : decode cL_law 2008 = .ok (.aload_n 0, 1) := by decide +kernel
theorem dL_law_2009 : decode cL_law 2009 = .ok (.iload_n 3, 1) := by decide +kernel
theorem dL_law_2010 : decode cL_law 2010 = .ok (.iconst 1, 1) := by decide +kernel
theorem dL_law_2011 : decode cL_law 2011 = .ok (.iadd, 1) := by decide +kernel
theorem dL_law_2012 : decode cL_law 2012 = .ok (.iaload, 1) := by decide +kernel
theorem dL_law_2013 : decode cL_law 2013 = .ok (.invokevirtual 290, 3) := by decide +kernel
theorem dL_law_2016 : decode cL_law 2016 = .ok (.if_icmp .eq 650, 3) := by decide +kernel
theorem dL_law_2021 : decode cL_law 2021 = .ok (.aload_n 1, 1) := by decide +kernel
theorem dL_law_2022 : decode cL_law 2022 = .ok (.aload_n 0, 1) := by decide +kernel
theorem dL_law_2023 : decode cL_law 2023 = .ok (.iload_n 3, 1) := by decide +kernel
theorem dL_law_2024 : decode cL_law 2024 = .ok (.iconst 1, 1) := by decide +kernel
theorem dL_law_2025 : decode cL_law 2025 = .ok (.iadd, 1) := by decide +kernel
theorem dL_law_2026 : decode cL_law 2026 = .ok (.iaload, 1) := by decide +kernel
theorem dL_law_2027 : decode cL_law 2027 = .ok (.aload_n 0, 1) := by decide +kernel
theorem dL_law_2028 : decode cL_law 2028 = .ok (.iload_n 3, 1) := by decide +kernel
theorem dL_law_2029 : decode cL_law 2029 = .ok (.iconst 2, 1) := by decide +kernel
theorem dL_law_2030 : decode cL_law 2030 = .ok (.iadd, 1) := by decide +kernel
theorem dL_law_2031 : decode cL_law 2031 = .ok (.iaload, 1) := by decide +kernel
theorem dL_law_2032 : decode cL_law 2032 = .ok (.invokevirtual 291, 3) := by decide +kernel
theorem dL_law_2035 : decode cL_law 2035 = .ok (.aload_n 2, 1) := by decide +kernel
theorem dL_law_2036 : decode cL_law 2036 = .ok (.aload_n 0, 1) := by decide +kernel
theorem dL_law_2037 : decode cL_law 2037 = .ok (.iload_n 3, 1) := by decide +kernel
theorem dL_law_2038 : decode cL_law 2038 = .ok (.iconst 1, 1) := by decide +kernel
theorem dL_law_2039 : decode cL_law 2039 = .ok (.iadd, 1) := by decide +kernel
theorem dL_law_2040 : decode cL_law 2040 = .ok (.iaload, 1) := by decide +kernel
theorem dL_law_2041 : decode cL_law 2041 = .ok (.aload_n 0, 1) := by decide +kernel
theorem dL_law_2042 : decode cL_law 2042 = .ok (.iload_n 3, 1) := by decide +kernel
theorem dL_law_2043 : decode cL_law 2043 = .ok (.iconst 2, 1) := by decide +kernel
theorem dL_law_2044 : decode cL_law 2044 = .ok (.iadd, 1) := by decide +kernel
theorem dL_law_2045 : decode cL_law 2045 = .ok (.iaload, 1) := by decide +kernel
theorem dL_law_2046 : decode cL_law 2046 = .ok (.invokevirtual 294, 3) := by decide +kernel
theorem dL_law_2049 : decode cL_law 2049 = .ok (.if_icmp .eq 617, 3) := by decide +kernel
theorem dL_law_2054 : decode cL_law 2054 = .ok (.aload_n 1, 1) := by decide +kernel
theorem dL_law_2055 : decode cL_law 2055 = .ok (.aload_n 0, 1) := by decide +kernel
theorem dL_law_2056 : decode cL_law 2056 = .ok (.iload_n 3, 1) := by decide +kernel
theorem dL_law_2057 : decode cL_law 2057 = .ok (.iconst 1, 1) := by decide +kernel
theorem dL_law_2058 : decode cL_law 2058 = .ok (.iadd, 1) := by decide +kernel
theorem dL_law_2059 : decode cL_law 2059 = .ok (.iaload, 1) := by decide +kernel
theorem dL_law_2060 : decode cL_law 2060 = .ok (.aload_n 0, 1) := by decide +kernel
theorem dL_law_2061 : decode cL_law 2061 = .ok (.iload_n 3, 1) := by decide +kernel
theorem dL_law_2062 : decode cL_law 2062 = .ok (.iconst 2, 1) := by decide +kernel
theorem dL_law_2063 : decode cL_law 2063 = .ok (.iadd, 1) := by decide +kernel
theorem dL_law_2064 : decode cL_law 2064 = .ok (.iaload, 1) := by decide +kernel
theorem dL_law_2065 : decode cL_law 2065 = .ok (.invokevirtual 295, 3) := by decide +kernel
theorem dL_law_2068 : decode cL_law 2068 = .ok (.aload_n 2, 1) := by decide +kernel
theorem dL_law_2069 : decode cL_law 2069 = .ok (.aload_n 0, 1) := by decide +kernel
theorem dL_law_2070 : decode cL_law 2070 = .ok (.iload_n 3, 1) := by decide +kernel
theorem dL_law_2071 : decode cL_law 2071 = .ok (.iconst 1, 1) := by decide +kernel
theorem dL_law_2072 : decode cL_law 2072 = .ok (.iadd, 1) := by decide +kernel
theorem dL_law_2073 : decode cL_law 2073 = .ok (.iaload, 1) := by decide +kernel
theorem dL_law_2074 : decode cL_law 2074 = .ok (.aload_n 0, 1) := by decide +kernel
theorem dL_law_2075 : decode cL_law 2075 = .ok (.iload_n 3, 1) := by decide +kernel
theorem dL_law_2076 : decode cL_law 2076 = .ok (.iconst 2, 1) := by decide +kernel
