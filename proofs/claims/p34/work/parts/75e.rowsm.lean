theorem dL_law_1496 : decode cL_law 1496 = .ok (.iload 24, 2) := by decide +kernel
theorem dL_law_1498 : decode cL_law 1498 = .ok (.aload_n 2, 1) := by decide +kernel
theorem dL_law_1499 : decode cL_law 1499 = .ok (.invokestatic 16, 3) := by decide +kernel
theorem dL_law_1502 : decode cL_law 1502 = .ok (.aload_n 2, 1) := by decide +kernel
theorem dL_law_1503 : decode cL_law 1503 = .ok (.invokestatic 102, 3) := by decide +kernel
theorem dL_law_1506 : decode cL_law 1506 = .ok (.iastore, 1) := by decide +kernel
theorem dL_law_1507 : decode cL_law 1507 = .ok (.aload 10, 2) := by decide +kernel
theorem dL_law_1509 : decode cL_law 1509 = .ok (.bipush 6, 2) := by decide +kernel
theorem dL_law_1511 : decode cL_law 1511 = .ok (.dup2, 1) := by decide +kernel
theorem dL_law_1512 : decode cL_law 1512 = .ok (.iaload, 1) := by decide +kernel
theorem dL_law_1513 : decode cL_law 1513 = .ok (.iconst 1, 1) := by decide +kernel
theorem dL_law_1514 : decode cL_law 1514 = .ok (.iadd, 1) := by decide +kernel
theorem dL_law_1515 : decode cL_law 1515 = .ok (.iastore, 1) := by decide +kernel
theorem dL_law_1516 : decode cL_law 1516 = .ok (.iinc 24 1, 3) := by decide +kernel
theorem dL_law_1519 : decode cL_law 1519 = .ok (.goto (-58), 3) := by decide +kernel
theorem dL_law_1522 : decode cL_law 1522 = .ok (.iinc 23 1, 3) := by decide +kernel
theorem dL_law_1525 : decode cL_law 1525 = .ok (.goto (-76), 3) := by decide +kernel
theorem dL_law_1528 : decode cL_law 1528 = .ok (.aload_n 1, 1) := by decide +kernel
theorem dL_law_1529 : decode cL_law 1529 = .ok (.iload 22, 2) := by decide +kernel
theorem dL_law_1531 : decode cL_law 1531 = .ok (.invokevirtual 65, 3) := by decide +kernel
theorem dL_law_1534 : decode cL_law 1534 = .ok (.aload 10, 2) := by decide +kernel
theorem dL_law_1536 : decode cL_law 1536 = .ok (.bipush 6, 2) := by decide +kernel
theorem dL_law_1538 : decode cL_law 1538 = .ok (.iaload, 1) := by decide +kernel
theorem dL_law_1539 : decode cL_law 1539 = .ok (.if_icmp .eq 5, 3) := by decide +kernel
theorem dL_law_1542 : decode cL_law 1542 = .ok (.iconst 0, 1) := by decide +kernel
theorem dL_law_1543 : decode cL_law 1543 = .ok (.ireturn, 1) := by decide +kernel
theorem dL_law_1544 : decode cL_law 1544 = .ok (.goto 411, 3) := by decide +kernel
theorem dL_law_1547 : decode cL_law 1547 = .ok (.iload 14, 2) := by decide +kernel
theorem dL_law_1549 : decode cL_law 1549 = .ok (.bipush 22, 2) := by decide +kernel
theorem dL_law_1551 : decode cL_law 1551 = .ok (.if_icmp .ge 216, 3) := by decide +kernel
theorem dL_law_1554 : decode cL_law 1554 = .ok (.aload 10, 2) := by decide +kernel
theorem dL_law_1556 : decode cL_law 1556 = .ok (.iconst 4, 1) := by decide +kernel
theorem dL_law_1557 : decode cL_law 1557 = .ok (.iaload, 1) := by decide +kernel
theorem dL_law_1558 : decode cL_law 1558 = .ok (.ifCond .ne 29, 3) := by decide +kernel
theorem dL_law_1561 : decode cL_law 1561 = .ok (.aload_n 1, 1) := by decide +kernel
theorem dL_law_1562 : decode cL_law 1562 = .ok (.iload 14, 2) := by decide +kernel
theorem dL_law_1564 : decode cL_law 1564 = .ok (.iconst 2, 1) := by decide +kernel
theorem dL_law_1565 : decode cL_law 1565 = .ok (.irem, 1) := by decide +kernel
theorem dL_law_1566 : decode cL_law 1566 = .ok (.ifCond .ne 8, 3) := by decide +kernel
theorem dL_law_1569 : decode cL_law 1569 = .ok (.bipush 12, 2) := by decide +kernel
theorem dL_law_1571 : decode cL_law 1571 = .ok (.goto 5, 3) := by decide +kernel
theorem dL_law_1574 : decode cL_law 1574 = .ok (.bipush 13, 2) := by decide +kernel
theorem dL_law_1576 : decode cL_law 1576 = .ok (.iconst 1, 1) := by decide +kernel
theorem dL_law_1577 : decode cL_law 1577 = .ok (.iconst 0, 1) := by decide +kernel
theorem dL_law_1578 : decode cL_law 1578 = .ok (.invokestatic 98, 3) := by decide +kernel
theorem dL_law_1581 : decode cL_law 1581 = .ok (.iconst 3, 1) := by decide +kernel
theorem dL_law_1582 : decode cL_law 1582 = .ok (.if_icmp .eq 404, 3) := by decide +kernel
theorem dL_law_1585 : decode cL_law 1585 = .ok (.iconst 0, 1) := by decide +kernel
theorem dL_law_1586 : decode cL_law 1586 = .ok (.ireturn, 1) := by decide +kernel
theorem dL_law_1587 : decode cL_law 1587 = .ok (.iload 14, 2) := by decide +kernel
theorem dL_law_1589 : decode cL_law 1589 = .ok (.bipush 18, 2) := by decide +kernel
theorem dL_law_1591 : decode cL_law 1591 = .ok (.if_icmp .ne 59, 3) := by decide +kernel
theorem dL_law_1594 : decode cL_law 1594 = .ok (.aload 10, 2) := by decide +kernel
theorem dL_law_1596 : decode cL_law 1596 = .ok (.iconst 5, 1) := by decide +kernel
theorem dL_law_1597 : decode cL_law 1597 = .ok (.iaload, 1) := by decide +kernel
theorem dL_law_1598 : decode cL_law 1598 = .ok (.aload 10, 2) := by decide +kernel
theorem dL_law_1600 : decode cL_law 1600 = .ok (.bipush 6, 2) := by decide +kernel
theorem dL_law_1602 : decode cL_law 1602 = .ok (.iaload, 1) := by decide +kernel
theorem dL_law_1603 : decode cL_law 1603 = .ok (.if_icmp .ne 7, 3) := by decide +kernel
theorem dL_law_1606 : decode cL_law 1606 = .ok (.iconst (-1), 1) := by decide +kernel
theorem dL_law_1607 : decode cL_law 1607 = .ok (.goto 10, 3) := by decide +kernel
theorem dL_law_1610 : decode cL_law 1610 = .ok (.aload 8, 2) := by decide +kernel
theorem dL_law_1612 : decode cL_law 1612 = .ok (.aload 10, 2) := by decide +kernel
theorem dL_law_1614 : decode cL_law 1614 = .ok (.iconst 5, 1) := by decide +kernel
theorem dL_law_1615 : decode cL_law 1615 = .ok (.iaload, 1) := by decide +kernel
theorem dL_law_1616 : decode cL_law 1616 = .ok (.iaload, 1) := by decide +kernel
theorem dL_law_1617 : decode cL_law 1617 = .ok (.istore 22, 2) := by decide +kernel
theorem dL_law_1619 : decode cL_law 1619 = .ok (.aload 10, 2) := by decide +kernel
theorem dL_law_1621 : decode cL_law 1621 = .ok (.iconst 5, 1) := by decide +kernel
theorem dL_law_1622 : decode cL_law 1622 = .ok (.dup2, 1) := by decide +kernel
theorem dL_law_1623 : decode cL_law 1623 = .ok (.iaload, 1) := by decide +kernel
theorem dL_law_1624 : decode cL_law 1624 = .ok (.iload 22, 2) := by decide +kernel
theorem dL_law_1626 : decode cL_law 1626 = .ok (.ifCond .ge 7, 3) := by decide +kernel
theorem dL_law_1629 : decode cL_law 1629 = .ok (.iconst 0, 1) := by decide +kernel
theorem dL_law_1630 : decode cL_law 1630 = .ok (.goto 4, 3) := by decide +kernel
theorem dL_law_1633 : decode cL_law 1633 = .ok (.iconst 1, 1) := by decide +kernel
theorem dL_law_1634 : decode cL_law 1634 = .ok (.iadd, 1) := by decide +kernel
theorem dL_law_1635 : decode cL_law 1635 = .ok (.iastore, 1) := by decide +kernel
theorem dL_law_1636 : decode cL_law 1636 = .ok (.aload_n 1, 1) := by decide +kernel
theorem dL_law_1637 : decode cL_law 1637 = .ok (.invokevirtual 74, 3) := by decide +kernel
theorem dL_law_1640 : decode cL_law 1640 = .ok (.iload 22, 2) := by decide +kernel
theorem dL_law_1642 : decode cL_law 1642 = .ok (.if_icmp .eq 5, 3) := by decide +kernel
theorem dL_law_1645 : decode cL_law 1645 = .ok (.iconst 0, 1) := by decide +kernel
theorem dL_law_1646 : decode cL_law 1646 = .ok (.ireturn, 1) := by decide +kernel
theorem dL_law_1647 : decode cL_law 1647 = .ok (.goto 308, 3) := by decide +kernel
theorem dL_law_1650 : decode cL_law 1650 = .ok (.aload 10, 2) := by decide +kernel
theorem dL_law_1652 : decode cL_law 1652 = .ok (.bipush 7, 2) := by decide +kernel
theorem dL_law_1654 : decode cL_law 1654 = .ok (.iaload, 1) := by decide +kernel
theorem dL_law_1655 : decode cL_law 1655 = .ok (.bipush 16, 2) := by decide +kernel
theorem dL_law_1657 : decode cL_law 1657 = .ok (.if_icmp .ge 298, 3) := by decide +kernel
theorem dL_law_1660 : decode cL_law 1660 = .ok (.iconst 4, 1) := by decide +kernel
theorem dL_law_1661 : decode cL_law 1661 = .ok (.aload 10, 2) := by decide +kernel
theorem dL_law_1663 : decode cL_law 1663 = .ok (.bipush 7, 2) := by decide +kernel
theorem dL_law_1665 : decode cL_law 1665 = .ok (.iaload, 1) := by decide +kernel
theorem dL_law_1666 : decode cL_law 1666 = .ok (.imul, 1) := by decide +kernel
theorem dL_law_1667 : decode cL_law 1667 = .ok (.istore 22, 2) := by decide +kernel
theorem dL_law_1669 : decode cL_law 1669 = .ok (.aload 9, 2) := by decide +kernel
theorem dL_law_1671 : decode cL_law 1671 = .ok (.iload 22, 2) := by decide +kernel
theorem dL_law_1673 : decode cL_law 1673 = .ok (.iload 13, 2) := by decide +kernel
theorem dL_law_1675 : decode cL_law 1675 = .ok (.bipush 8, 2) := by decide +kernel
theorem dL_law_1677 : decode cL_law 1677 = .ok (.ishr, 1) := by decide +kernel
theorem dL_law_1678 : decode cL_law 1678 = .ok (.iconst 4, 1) := by decide +kernel
theorem dL_law_1679 : decode cL_law 1679 = .ok (.invokestatic 152, 3) := by decide +kernel
theorem dL_law_1682 : decode cL_law 1682 = .ok (.iastore, 1) := by decide +kernel
theorem dL_law_1683 : decode cL_law 1683 = .ok (.aload 9, 2) := by decide +kernel
theorem dL_law_1685 : decode cL_law 1685 = .ok (.iload 22, 2) := by decide +kernel
theorem dL_law_1687 : decode cL_law 1687 = .ok (.iconst 1, 1) := by decide +kernel
theorem dL_law_1688 : decode cL_law 1688 = .ok (.iadd, 1) := by decide +kernel
theorem dL_law_1689 : decode cL_law 1689 = .ok (.iload 17, 2) := by decide +kernel
theorem dL_law_1691 : decode cL_law 1691 = .ok (.iastore, 1) := by decide +kernel
theorem dL_law_1692 : decode cL_law 1692 = .ok (.aload 9, 2) := by decide +kernel
theorem dL_law_1694 : decode cL_law 1694 = .ok (.iload 22, 2) := by decide +kernel
theorem dL_law_1696 : decode cL_law 1696 = .ok (.iconst 2, 1) := by decide +kernel
theorem dL_law_1697 : decode cL_law 1697 = .ok (.iadd, 1) := by decide +kernel
theorem dL_law_1698 : decode cL_law 1698 = .ok (.iload 13, 2) := by decide +kernel
theorem dL_law_1700 : decode cL_law 1700 = .ok (.bipush 8, 2) := by decide +kernel
theorem dL_law_1702 : decode cL_law 1702 = .ok (.invokestatic 152, 3) := by decide +kernel
theorem dL_law_1705 : decode cL_law 1705 = .ok (.ifCond .ne 8, 3) := by decide +kernel
theorem dL_law_1708 : decode cL_law 1708 = .ok (.bipush 6, 2) := by decide +kernel
theorem dL_law_1710 : decode cL_law 1710 = .ok (.goto 5, 3) := by decide +kernel
theorem dL_law_1713 : decode cL_law 1713 = .ok (.iload 18, 2) := by decide +kernel
theorem dL_law_1715 : decode cL_law 1715 = .ok (.iastore, 1) := by decide +kernel
theorem dL_law_1716 : decode cL_law 1716 = .ok (.aload 9, 2) := by decide +kernel
theorem dL_law_1718 : decode cL_law 1718 = .ok (.iload 22, 2) := by decide +kernel
theorem dL_law_1720 : decode cL_law 1720 = .ok (.iconst 3, 1) := by decide +kernel
theorem dL_law_1721 : decode cL_law 1721 = .ok (.iadd, 1) := by decide +kernel
theorem dL_law_1722 : decode cL_law 1722 = .ok (.iload 19, 2) := by decide +kernel
theorem dL_law_1724 : decode cL_law 1724 = .ok (.iastore, 1) := by decide +kernel
theorem dL_law_1725 : decode cL_law 1725 = .ok (.aload 10, 2) := by decide +kernel
theorem dL_law_1727 : decode cL_law 1727 = .ok (.bipush 7, 2) := by decide +kernel
theorem dL_law_1729 : decode cL_law 1729 = .ok (.dup2, 1) := by decide +kernel
theorem dL_law_1730 : decode cL_law 1730 = .ok (.iaload, 1) := by decide +kernel
theorem dL_law_1731 : decode cL_law 1731 = .ok (.iconst 1, 1) := by decide +kernel
theorem dL_law_1732 : decode cL_law 1732 = .ok (.iadd, 1) := by decide +kernel
theorem dL_law_1733 : decode cL_law 1733 = .ok (.iastore, 1) := by decide +kernel
theorem dL_law_1734 : decode cL_law 1734 = .ok (.aload_n 1, 1) := by decide +kernel
theorem dL_law_1735 : decode cL_law 1735 = .ok (.aload 9, 2) := by decide +kernel
theorem dL_law_1737 : decode cL_law 1737 = .ok (.iload 22, 2) := by decide +kernel
theorem dL_law_1739 : decode cL_law 1739 = .ok (.iaload, 1) := by decide +kernel
theorem dL_law_1740 : decode cL_law 1740 = .ok (.iload 17, 2) := by decide +kernel
theorem dL_law_1742 : decode cL_law 1742 = .ok (.aload 9, 2) := by decide +kernel
theorem dL_law_1744 : decode cL_law 1744 = .ok (.iload 22, 2) := by decide +kernel
theorem dL_law_1746 : decode cL_law 1746 = .ok (.iconst 2, 1) := by decide +kernel
theorem dL_law_1747 : decode cL_law 1747 = .ok (.iadd, 1) := by decide +kernel
theorem dL_law_1748 : decode cL_law 1748 = .ok (.iaload, 1) := by decide +kernel
theorem dL_law_1749 : decode cL_law 1749 = .ok (.iload 19, 2) := by decide +kernel
theorem dL_law_1751 : decode cL_law 1751 = .ok (.invokevirtual 77, 3) := by decide +kernel
theorem dL_law_1754 : decode cL_law 1754 = .ok (.aload 10, 2) := by decide +kernel
theorem dL_law_1756 : decode cL_law 1756 = .ok (.bipush 7, 2) := by decide +kernel
theorem dL_law_1758 : decode cL_law 1758 = .ok (.iaload, 1) := by decide +kernel
theorem dL_law_1759 : decode cL_law 1759 = .ok (.if_icmp .eq 5, 3) := by decide +kernel
theorem dL_law_1762 : decode cL_law 1762 = .ok (.iconst 0, 1) := by decide +kernel
theorem dL_law_1763 : decode cL_law 1763 = .ok (.ireturn, 1) := by decide +kernel
theorem dL_law_1764 : decode cL_law 1764 = .ok (.goto 191, 3) := by decide +kernel
theorem dL_law_1767 : decode cL_law 1767 = .ok (.aload 10, 2) := by decide +kernel
theorem dL_law_1769 : decode cL_law 1769 = .ok (.iconst 4, 1) := by decide +kernel
theorem dL_law_1770 : decode cL_law 1770 = .ok (.iaload, 1) := by decide +kernel
theorem dL_law_1771 : decode cL_law 1771 = .ok (.ifCond .ne 17, 3) := by decide +kernel
theorem dL_law_1774 : decode cL_law 1774 = .ok (.aload_n 1, 1) := by decide +kernel
theorem dL_law_1775 : decode cL_law 1775 = .ok (.bipush 11, 2) := by decide +kernel
theorem dL_law_1777 : decode cL_law 1777 = .ok (.iconst 0, 1) := by decide +kernel
theorem dL_law_1778 : decode cL_law 1778 = .ok (.iconst 0, 1) := by decide +kernel
theorem dL_law_1779 : decode cL_law 1779 = .ok (.invokestatic 98, 3) := by decide +kernel
theorem dL_law_1782 : decode cL_law 1782 = .ok (.iconst 3, 1) := by decide +kernel
theorem dL_law_1783 : decode cL_law 1783 = .ok (.if_icmp .eq 203, 3) := by decide +kernel
theorem dL_law_1786 : decode cL_law 1786 = .ok (.iconst 0, 1) := by decide +kernel
theorem dL_law_1787 : decode cL_law 1787 = .ok (.ireturn, 1) := by decide +kernel
theorem dL_law_1788 : decode cL_law 1788 = .ok (.bipush 10, 2) := by decide +kernel
theorem dL_law_1790 : decode cL_law 1790 = .ok (.aload_n 2, 1) := by decide +kernel
theorem dL_law_1791 : decode cL_law 1791 = .ok (.invokestatic 155, 3) := by decide +kernel
theorem dL_law_1794 : decode cL_law 1794 = .ok (.isub, 1) := by decide +kernel
theorem dL_law_1795 : decode cL_law 1795 = .ok (.istore 22, 2) := by decide +kernel
theorem dL_law_1797 : decode cL_law 1797 = .ok (.iconst 0, 1) := by decide +kernel
theorem dL_law_1798 : decode cL_law 1798 = .ok (.istore 23, 2) := by decide +kernel
theorem dL_law_1800 : decode cL_law 1800 = .ok (.iconst 0, 1) := by decide +kernel
theorem dL_law_1801 : decode cL_law 1801 = .ok (.istore 24, 2) := by decide +kernel
theorem dL_law_1803 : decode cL_law 1803 = .ok (.iload 24, 2) := by decide +kernel
theorem dL_law_1805 : decode cL_law 1805 = .ok (.aload 10, 2) := by decide +kernel
theorem dL_law_1807 : decode cL_law 1807 = .ok (.bipush 7, 2) := by decide +kernel
theorem dL_law_1809 : decode cL_law 1809 = .ok (.iaload, 1) := by decide +kernel
theorem dL_law_1810 : decode cL_law 1810 = .ok (.if_icmp .ge 30, 3) := by decide +kernel
theorem dL_law_1813 : decode cL_law 1813 = .ok (.iload 23, 2) := by decide +kernel
theorem dL_law_1815 : decode cL_law 1815 = .ok (.aload 9, 2) := by decide +kernel
theorem dL_law_1817 : decode cL_law 1817 = .ok (.iconst 4, 1) := by decide +kernel
theorem dL_law_1818 : decode cL_law 1818 = .ok (.iload 24, 2) := by decide +kernel
theorem dL_law_1820 : decode cL_law 1820 = .ok (.imul, 1) := by decide +kernel
theorem dL_law_1821 : decode cL_law 1821 = .ok (.iaload, 1) := by decide +kernel
theorem dL_law_1822 : decode cL_law 1822 = .ok (.iconst 3, 1) := by decide +kernel
theorem dL_law_1823 : decode cL_law 1823 = .ok (.if_icmp .ne 7, 3) := by decide +kernel
theorem dL_law_1826 : decode cL_law 1826 = .ok (.iconst 1, 1) := by decide +kernel
theorem dL_law_1827 : decode cL_law 1827 = .ok (.goto 4, 3) := by decide +kernel
theorem dL_law_1830 : decode cL_law 1830 = .ok (.iconst 0, 1) := by decide +kernel
theorem dL_law_1831 : decode cL_law 1831 = .ok (.iadd, 1) := by decide +kernel
theorem dL_law_1832 : decode cL_law 1832 = .ok (.istore 23, 2) := by decide +kernel
theorem dL_law_1834 : decode cL_law 1834 = .ok (.iinc 24 1, 3) := by decide +kernel
theorem dL_law_1837 : decode cL_law 1837 = .ok (.goto (-34), 3) := by decide +kernel
theorem dL_law_1840 : decode cL_law 1840 = .ok (.iload 23, 2) := by decide +kernel
theorem dL_law_1842 : decode cL_law 1842 = .ok (.iload 22, 2) := by decide +kernel
theorem dL_law_1844 : decode cL_law 1844 = .ok (.if_icmp .le 5, 3) := by decide +kernel
theorem dL_law_1847 : decode cL_law 1847 = .ok (.iconst 1, 1) := by decide +kernel
theorem dL_law_1848 : decode cL_law 1848 = .ok (.ireturn, 1) := by decide +kernel
theorem dL_law_1849 : decode cL_law 1849 = .ok (.iconst 0, 1) := by decide +kernel
theorem dL_law_1850 : decode cL_law 1850 = .ok (.istore 24, 2) := by decide +kernel
theorem dL_law_1852 : decode cL_law 1852 = .ok (.aload 10, 2) := by decide +kernel
theorem dL_law_1854 : decode cL_law 1854 = .ok (.iconst 4, 1) := by decide +kernel
theorem dL_law_1855 : decode cL_law 1855 = .ok (.iconst 0, 1) := by decide +kernel
theorem dL_law_1856 : decode cL_law 1856 = .ok (.iastore, 1) := by decide +kernel
theorem dL_law_1857 : decode cL_law 1857 = .ok (.iconst 0, 1) := by decide +kernel
theorem dL_law_1858 : decode cL_law 1858 = .ok (.istore 25, 2) := by decide +kernel
theorem dL_law_1860 : decode cL_law 1860 = .ok (.iload 25, 2) := by decide +kernel
theorem dL_law_1862 : decode cL_law 1862 = .ok (.aload 10, 2) := by decide +kernel
theorem dL_law_1864 : decode cL_law 1864 = .ok (.bipush 7, 2) := by decide +kernel
theorem dL_law_1866 : decode cL_law 1866 = .ok (.iaload, 1) := by decide +kernel
theorem dL_law_1867 : decode cL_law 1867 = .ok (.if_icmp .ge 71, 3) := by decide +kernel
theorem dL_law_1870 : decode cL_law 1870 = .ok (.iload 24, 2) := by decide +kernel
theorem dL_law_1872 : decode cL_law 1872 = .ok (.aload 9, 2) := by decide +kernel
theorem dL_law_1874 : decode cL_law 1874 = .ok (.iconst 4, 1) := by decide +kernel
theorem dL_law_1875 : decode cL_law 1875 = .ok (.iload 25, 2) := by decide +kernel
theorem dL_law_1877 : decode cL_law 1877 = .ok (.imul, 1) := by decide +kernel
theorem dL_law_1878 : decode cL_law 1878 = .ok (.iaload, 1) := by decide +kernel
theorem dL_law_1879 : decode cL_law 1879 = .ok (.aload 9, 2) := by decide +kernel
theorem dL_law_1881 : decode cL_law 1881 = .ok (.iconst 4, 1) := by decide +kernel
theorem dL_law_1882 : decode cL_law 1882 = .ok (.iload 25, 2) := by decide +kernel
theorem dL_law_1884 : decode cL_law 1884 = .ok (.imul, 1) := by decide +kernel
theorem dL_law_1885 : decode cL_law 1885 = .ok (.iconst 1, 1) := by decide +kernel
theorem dL_law_1886 : decode cL_law 1886 = .ok (.iadd, 1) := by decide +kernel
theorem dL_law_1887 : decode cL_law 1887 = .ok (.iaload, 1) := by decide +kernel
theorem dL_law_1888 : decode cL_law 1888 = .ok (.aload_n 2, 1) := by decide +kernel
theorem dL_law_1889 : decode cL_law 1889 = .ok (.invokestatic 174, 3) := by decide +kernel
theorem dL_law_1892 : decode cL_law 1892 = .ok (.aload 9, 2) := by decide +kernel
theorem dL_law_1894 : decode cL_law 1894 = .ok (.iconst 4, 1) := by decide +kernel
theorem dL_law_1895 : decode cL_law 1895 = .ok (.iload 25, 2) := by decide +kernel
theorem dL_law_1897 : decode cL_law 1897 = .ok (.imul, 1) := by decide +kernel
theorem dL_law_1898 : decode cL_law 1898 = .ok (.iconst 2, 1) := by decide +kernel
theorem dL_law_1899 : decode cL_law 1899 = .ok (.iadd, 1) := by decide +kernel
theorem dL_law_1900 : decode cL_law 1900 = .ok (.iaload, 1) := by decide +kernel
theorem dL_law_1901 : decode cL_law 1901 = .ok (.aload 9, 2) := by decide +kernel
theorem dL_law_1903 : decode cL_law 1903 = .ok (.iconst 4, 1) := by decide +kernel
theorem dL_law_1904 : decode cL_law 1904 = .ok (.iload 25, 2) := by decide +kernel
theorem dL_law_1906 : decode cL_law 1906 = .ok (.imul, 1) := by decide +kernel
theorem dL_law_1907 : decode cL_law 1907 = .ok (.iconst 3, 1) := by decide +kernel
theorem dL_law_1908 : decode cL_law 1908 = .ok (.iadd, 1) := by decide +kernel
theorem dL_law_1909 : decode cL_law 1909 = .ok (.iaload, 1) := by decide +kernel
theorem dL_law_1910 : decode cL_law 1910 = .ok (.aload_n 2, 1) := by decide +kernel
theorem dL_law_1911 : decode cL_law 1911 = .ok (.aload_n 3, 1) := by decide +kernel
theorem dL_law_1912 : decode cL_law 1912 = .ok (.aload 4, 2) := by decide +kernel
theorem dL_law_1914 : decode cL_law 1914 = .ok (.aload 5, 2) := by decide +kernel
theorem dL_law_1916 : decode cL_law 1916 = .ok (.aload 10, 2) := by decide +kernel
theorem dL_law_1918 : decode cL_law 1918 = .ok (.invokestatic 177, 3) := by decide +kernel
theorem dL_law_1921 : decode cL_law 1921 = .ok (.ifCond .eq 7, 3) := by decide +kernel
theorem dL_law_1924 : decode cL_law 1924 = .ok (.iconst 1, 1) := by decide +kernel
theorem dL_law_1925 : decode cL_law 1925 = .ok (.goto 4, 3) := by decide +kernel
theorem dL_law_1928 : decode cL_law 1928 = .ok (.iconst 0, 1) := by decide +kernel
theorem dL_law_1929 : decode cL_law 1929 = .ok (.iadd, 1) := by decide +kernel
theorem dL_law_1930 : decode cL_law 1930 = .ok (.istore 24, 2) := by decide +kernel
theorem dL_law_1932 : decode cL_law 1932 = .ok (.iinc 25 1, 3) := by decide +kernel
theorem dL_law_1935 : decode cL_law 1935 = .ok (.goto (-75), 3) := by decide +kernel
theorem dL_law_1938 : decode cL_law 1938 = .ok (.aload 10, 2) := by decide +kernel
theorem dL_law_1940 : decode cL_law 1940 = .ok (.bipush 7, 2) := by decide +kernel
theorem dL_law_1942 : decode cL_law 1942 = .ok (.iconst 0, 1) := by decide +kernel
theorem dL_law_1943 : decode cL_law 1943 = .ok (.iastore, 1) := by decide +kernel
theorem dL_law_1944 : decode cL_law 1944 = .ok (.aload_n 1, 1) := by decide +kernel
theorem dL_law_1945 : decode cL_law 1945 = .ok (.invokevirtual 71, 3) := by decide +kernel
theorem dL_law_1948 : decode cL_law 1948 = .ok (.iload 24, 2) := by decide +kernel
theorem dL_law_1950 : decode cL_law 1950 = .ok (.if_icmp .eq 5, 3) := by decide +kernel
theorem dL_law_1953 : decode cL_law 1953 = .ok (.iconst 0, 1) := by decide +kernel
theorem dL_law_1954 : decode cL_law 1954 = .ok (.ireturn, 1) := by decide +kernel
theorem dL_law_1955 : decode cL_law 1955 = .ok (.aload_n 1, 1) := by decide +kernel
theorem dL_law_1956 : decode cL_law 1956 = .ok (.aload_n 2, 1) := by decide +kernel
theorem dL_law_1957 : decode cL_law 1957 = .ok (.aload_n 3, 1) := by decide +kernel
theorem dL_law_1958 : decode cL_law 1958 = .ok (.aload 4, 2) := by decide +kernel
theorem dL_law_1960 : decode cL_law 1960 = .ok (.aload 10, 2) := by decide +kernel
theorem dL_law_1962 : decode cL_law 1962 = .ok (.invokestatic 181, 3) := by decide +kernel
theorem dL_law_1965 : decode cL_law 1965 = .ok (.ifCond .eq 19, 3) := by decide +kernel
theorem dL_law_1968 : decode cL_law 1968 = .ok (.aload_n 1, 1) := by decide +kernel
theorem dL_law_1969 : decode cL_law 1969 = .ok (.aload_n 2, 1) := by decide +kernel
theorem dL_law_1970 : decode cL_law 1970 = .ok (.aload 5, 2) := by decide +kernel
theorem dL_law_1972 : decode cL_law 1972 = .ok (.aload 10, 2) := by decide +kernel
theorem dL_law_1974 : decode cL_law 1974 = .ok (.aload 6, 2) := by decide +kernel
theorem dL_law_1976 : decode cL_law 1976 = .ok (.aload 4, 2) := by decide +kernel
theorem dL_law_1978 : decode cL_law 1978 = .ok (.invokestatic 185, 3) := by decide +kernel
theorem dL_law_1981 : decode cL_law 1981 = .ok (.ifCond .ne 5, 3) := by decide +kernel
theorem dL_law_1984 : decode cL_law 1984 = .ok (.iconst 0, 1) := by decide +kernel
theorem dL_law_1985 : decode cL_law 1985 = .ok (.ireturn, 1) := by decide +kernel
theorem dL_law_1986 : decode cL_law 1986 = .ok (.iinc 11 1, 3) := by decide +kernel
theorem dL_law_1989 : decode cL_law 1989 = .ok (.goto (-1926), 3) := by decide +kernel
theorem dL_law_1992 : decode cL_law 1992 = .ok (.iconst 1, 1) := by decide +kernel
theorem dL_law_1993 : decode cL_law 1993 = .ok (.ireturn, 1) := by decide +kernel
