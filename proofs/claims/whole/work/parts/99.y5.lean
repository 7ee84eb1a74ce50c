theorem dL_law_1533 : decode cL_law 1533 = .ok (.iload 4, 2) := by decide +kernel
theorem dL_law_1535 : decode cL_law 1535 = .ok (.iconst 2, 1) := by decide +kernel
theorem dL_law_1536 : decode cL_law 1536 = .ok (.iadd, 1) := by decide +kernel
theorem dL_law_1537 : decode cL_law 1537 = .ok (.iaload, 1) := by decide +kernel
theorem dL_law_1538 : decode cL_law 1538 = .ok (.invokevirtual 161, 3) := by decide +kernel
theorem dL_law_1541 : decode cL_law 1541 = .ok (.istore 6, 2) := by decide +kernel
theorem dL_law_1543 : decode cL_law 1543 = .ok (.aload_n 2, 1) := by decide +kernel
theorem dL_law_1544 : decode cL_law 1544 = .ok (.invokevirtual 109, 3) := by decide +kernel
theorem dL_law_1547 : decode cL_law 1547 = .ok (.iload 5, 2) := by decide +kernel
theorem dL_law_1549 : decode cL_law 1549 = .ok (.if_icmp .eq 5, 3) := by decide +kernel
theorem dL_law_1552 : decode cL_law 1552 = .ok (.iconst 0, 1) := by decide +kernel
theorem dL_law_1553 : decode cL_law 1553 = .ok (.ireturn, 1) := by decide +kernel
theorem dL_law_1554 : decode cL_law 1554 = .ok (.iload 5, 2) := by decide +kernel
theorem dL_law_1556 : decode cL_law 1556 = .ok (.ifCond .ne 15, 3) := by decide +kernel
theorem dL_law_1559 : decode cL_law 1559 = .ok (.aload_n 3, 1) := by decide +kernel
theorem dL_law_1560 : decode cL_law 1560 = .ok (.iconst 0, 1) := by decide +kernel
theorem dL_law_1561 : decode cL_law 1561 = .ok (.laload, 1) := by decide +kernel
theorem dL_law_1562 : decode cL_law 1562 = .ok (.iload 6, 2) := by decide +kernel
theorem dL_law_1564 : decode cL_law 1564 = .ok (.i2l, 1) := by decide +kernel
theorem dL_law_1565 : decode cL_law 1565 = .ok (.lcmp, 1) := by decide +kernel
theorem dL_law_1566 : decode cL_law 1566 = .ok (.ifCond .eq 5, 3) := by decide +kernel
theorem dL_law_1569 : decode cL_law 1569 = .ok (.iconst 0, 1) := by decide +kernel
theorem dL_law_1570 : decode cL_law 1570 = .ok (.ireturn, 1) := by decide +kernel
theorem dL_law_1571 : decode cL_law 1571 = .ok (.goto 551, 3) := by decide +kernel
theorem dL_law_1574 : decode cL_law 1574 = .ok (.aload_n 1, 1) := by decide +kernel
theorem dL_law_1575 : decode cL_law 1575 = .ok (.aload_n 0, 1) := by decide +kernel
theorem dL_law_1576 : decode cL_law 1576 = .ok (.iload 4, 2) := by decide +kernel
theorem dL_law_1578 : decode cL_law 1578 = .ok (.iconst 1, 1) := by decide +kernel
theorem dL_law_1579 : decode cL_law 1579 = .ok (.iadd, 1) := by decide +kernel
theorem dL_law_1580 : decode cL_law 1580 = .ok (.iaload, 1) := by decide +kernel
theorem dL_law_1581 : decode cL_law 1581 = .ok (.aload_n 0, 1) := by decide +kernel
theorem dL_law_1582 : decode cL_law 1582 = .ok (.iload 4, 2) := by decide +kernel
theorem dL_law_1584 : decode cL_law 1584 = .ok (.iconst 2, 1) := by decide +kernel
theorem dL_law_1585 : decode cL_law 1585 = .ok (.iadd, 1) := by decide +kernel
theorem dL_law_1586 : decode cL_law 1586 = .ok (.iaload, 1) := by decide +kernel
theorem dL_law_1587 : decode cL_law 1587 = .ok (.aload_n 0, 1) := by decide +kernel
theorem dL_law_1588 : decode cL_law 1588 = .ok (.iload 4, 2) := by decide +kernel
theorem dL_law_1590 : decode cL_law 1590 = .ok (.iconst 3, 1) := by decide +kernel
theorem dL_law_1591 : decode cL_law 1591 = .ok (.iadd, 1) := by decide +kernel
theorem dL_law_1592 : decode cL_law 1592 = .ok (.iaload, 1) := by decide +kernel
theorem dL_law_1593 : decode cL_law 1593 = .ok (.aload_n 3, 1) := by decide +kernel
theorem dL_law_1594 : decode cL_law 1594 = .ok (.invokestatic 162, 3) := by decide +kernel
theorem dL_law_1597 : decode cL_law 1597 = .ok (.istore 5, 2) := by decide +kernel
theorem dL_law_1599 : decode cL_law 1599 = .ok (.aload_n 2, 1) := by decide +kernel
theorem dL_law_1600 : decode cL_law 1600 = .ok (.aload_n 0, 1) := by decide +kernel
theorem dL_law_1601 : decode cL_law 1601 = .ok (.iload 4, 2) := by decide +kernel
theorem dL_law_1603 : decode cL_law 1603 = .ok (.iconst 1, 1) := by decide +kernel
theorem dL_law_1604 : decode cL_law 1604 = .ok (.iadd, 1) := by decide +kernel
theorem dL_law_1605 : decode cL_law 1605 = .ok (.iaload, 1) := by decide +kernel
theorem dL_law_1606 : decode cL_law 1606 = .ok (.aload_n 0, 1) := by decide +kernel
theorem dL_law_1607 : decode cL_law 1607 = .ok (.iload 4, 2) := by decide +kernel
theorem dL_law_1609 : decode cL_law 1609 = .ok (.iconst 2, 1) := by decide +kernel
theorem dL_law_1610 : decode cL_law 1610 = .ok (.iadd, 1) := by decide +kernel
theorem dL_law_1611 : decode cL_law 1611 = .ok (.iaload, 1) := by decide +kernel
theorem dL_law_1612 : decode cL_law 1612 = .ok (.aload_n 0, 1) := by decide +kernel
theorem dL_law_1613 : decode cL_law 1613 = .ok (.iload 4, 2) := by decide +kernel
theorem dL_law_1615 : decode cL_law 1615 = .ok (.iconst 3, 1) := by decide +kernel
theorem dL_law_1616 : decode cL_law 1616 = .ok (.iadd, 1) := by decide +kernel
theorem dL_law_1617 : decode cL_law 1617 = .ok (.iaload, 1) := by decide +kernel
theorem dL_law_1618 : decode cL_law 1618 = .ok (.invokevirtual 164, 3) := by decide +kernel
theorem dL_law_1621 : decode cL_law 1621 = .ok (.istore 6, 2) := by decide +kernel
theorem dL_law_1623 : decode cL_law 1623 = .ok (.aload_n 2, 1) := by decide +kernel
theorem dL_law_1624 : decode cL_law 1624 = .ok (.invokevirtual 109, 3) := by decide +kernel
theorem dL_law_1627 : decode cL_law 1627 = .ok (.iload 5, 2) := by decide +kernel
theorem dL_law_1629 : decode cL_law 1629 = .ok (.if_icmp .eq 5, 3) := by decide +kernel
theorem dL_law_1632 : decode cL_law 1632 = .ok (.iconst 0, 1) := by decide +kernel
theorem dL_law_1633 : decode cL_law 1633 = .ok (.ireturn, 1) := by decide +kernel
theorem dL_law_1634 : decode cL_law 1634 = .ok (.iload 5, 2) := by decide +kernel
theorem dL_law_1636 : decode cL_law 1636 = .ok (.ifCond .ne 15, 3) := by decide +kernel
theorem dL_law_1639 : decode cL_law 1639 = .ok (.aload_n 3, 1) := by decide +kernel
theorem dL_law_1640 : decode cL_law 1640 = .ok (.iconst 0, 1) := by decide +kernel
theorem dL_law_1641 : decode cL_law 1641 = .ok (.laload, 1) := by decide +kernel
theorem dL_law_1642 : decode cL_law 1642 = .ok (.iload 6, 2) := by decide +kernel
theorem dL_law_1644 : decode cL_law 1644 = .ok (.i2l, 1) := by decide +kernel
theorem dL_law_1645 : decode cL_law 1645 = .ok (.lcmp, 1) := by decide +kernel
theorem dL_law_1646 : decode cL_law 1646 = .ok (.ifCond .eq 5, 3) := by decide +kernel
theorem dL_law_1649 : decode cL_law 1649 = .ok (.iconst 0, 1) := by decide +kernel
theorem dL_law_1650 : decode cL_law 1650 = .ok (.ireturn, 1) := by decide +kernel
theorem dL_law_1651 : decode cL_law 1651 = .ok (.goto 471, 3) := by decide +kernel
theorem dL_law_1654 : decode cL_law 1654 = .ok (.aload_n 1, 1) := by decide +kernel
theorem dL_law_1655 : decode cL_law 1655 = .ok (.aload_n 0, 1) := by decide +kernel
theorem dL_law_1656 : decode cL_law 1656 = .ok (.iload 4, 2) := by decide +kernel
theorem dL_law_1658 : decode cL_law 1658 = .ok (.iconst 1, 1) := by decide +kernel
theorem dL_law_1659 : decode cL_law 1659 = .ok (.iadd, 1) := by decide +kernel
theorem dL_law_1660 : decode cL_law 1660 = .ok (.iaload, 1) := by decide +kernel
theorem dL_law_1661 : decode cL_law 1661 = .ok (.aload_n 0, 1) := by decide +kernel
theorem dL_law_1662 : decode cL_law 1662 = .ok (.iload 4, 2) := by decide +kernel
theorem dL_law_1664 : decode cL_law 1664 = .ok (.iconst 2, 1) := by decide +kernel
theorem dL_law_1665 : decode cL_law 1665 = .ok (.iadd, 1) := by decide +kernel
theorem dL_law_1666 : decode cL_law 1666 = .ok (.iaload, 1) := by decide +kernel
theorem dL_law_1667 : decode cL_law 1667 = .ok (.ifCond .eq 7, 3) := by decide +kernel
theorem dL_law_1670 : decode cL_law 1670 = .ok (.iconst 1, 1) := by decide +kernel
theorem dL_law_1671 : decode cL_law 1671 = .ok (.goto 4, 3) := by decide +kernel
theorem dL_law_1674 : decode cL_law 1674 = .ok (.iconst 0, 1) := by decide +kernel
theorem dL_law_1675 : decode cL_law 1675 = .ok (.aload_n 3, 1) := by decide +kernel
theorem dL_law_1676 : decode cL_law 1676 = .ok (.invokestatic 165, 3) := by decide +kernel
theorem dL_law_1679 : decode cL_law 1679 = .ok (.istore 5, 2) := by decide +kernel
theorem dL_law_1681 : decode cL_law 1681 = .ok (.aload_n 2, 1) := by decide +kernel
theorem dL_law_1682 : decode cL_law 1682 = .ok (.aload_n 0, 1) := by decide +kernel
theorem dL_law_1683 : decode cL_law 1683 = .ok (.iload 4, 2) := by decide +kernel
theorem dL_law_1685 : decode cL_law 1685 = .ok (.iconst 1, 1) := by decide +kernel
theorem dL_law_1686 : decode cL_law 1686 = .ok (.iadd, 1) := by decide +kernel
theorem dL_law_1687 : decode cL_law 1687 = .ok (.iaload, 1) := by decide +kernel
theorem dL_law_1688 : decode cL_law 1688 = .ok (.aload_n 0, 1) := by decide +kernel
theorem dL_law_1689 : decode cL_law 1689 = .ok (.iload 4, 2) := by decide +kernel
theorem dL_law_1691 : decode cL_law 1691 = .ok (.iconst 2, 1) := by decide +kernel
theorem dL_law_1692 : decode cL_law 1692 = .ok (.iadd, 1) := by decide +kernel
theorem dL_law_1693 : decode cL_law 1693 = .ok (.iaload, 1) := by decide +kernel
theorem dL_law_1694 : decode cL_law 1694 = .ok (.ifCond .eq 7, 3) := by decide +kernel
theorem dL_law_1697 : decode cL_law 1697 = .ok (.iconst 1, 1) := by decide +kernel
theorem dL_law_1698 : decode cL_law 1698 = .ok (.goto 4, 3) := by decide +kernel
theorem dL_law_1701 : decode cL_law 1701 = .ok (.iconst 0, 1) := by decide +kernel
theorem dL_law_1702 : decode cL_law 1702 = .ok (.invokevirtual 168, 3) := by decide +kernel
theorem dL_law_1705 : decode cL_law 1705 = .ok (.istore 6, 2) := by decide +kernel
theorem dL_law_1707 : decode cL_law 1707 = .ok (.aload_n 2, 1) := by decide +kernel
theorem dL_law_1708 : decode cL_law 1708 = .ok (.invokevirtual 109, 3) := by decide +kernel
theorem dL_law_1711 : decode cL_law 1711 = .ok (.iload 5, 2) := by decide +kernel
theorem dL_law_1713 : decode cL_law 1713 = .ok (.if_icmp .eq 5, 3) := by decide +kernel
theorem dL_law_1716 : decode cL_law 1716 = .ok (.iconst 0, 1) := by decide +kernel
theorem dL_law_1717 : decode cL_law 1717 = .ok (.ireturn, 1) := by decide +kernel
theorem dL_law_1718 : decode cL_law 1718 = .ok (.iload 5, 2) := by decide +kernel
theorem dL_law_1720 : decode cL_law 1720 = .ok (.ifCond .ne 15, 3) := by decide +kernel
theorem dL_law_1723 : decode cL_law 1723 = .ok (.aload_n 3, 1) := by decide +kernel
theorem dL_law_1724 : decode cL_law 1724 = .ok (.iconst 0, 1) := by decide +kernel
theorem dL_law_1725 : decode cL_law 1725 = .ok (.laload, 1) := by decide +kernel
theorem dL_law_1726 : decode cL_law 1726 = .ok (.iload 6, 2) := by decide +kernel
theorem dL_law_1728 : decode cL_law 1728 = .ok (.i2l, 1) := by decide +kernel
theorem dL_law_1729 : decode cL_law 1729 = .ok (.lcmp, 1) := by decide +kernel
theorem dL_law_1730 : decode cL_law 1730 = .ok (.ifCond .eq 5, 3) := by decide +kernel
theorem dL_law_1733 : decode cL_law 1733 = .ok (.iconst 0, 1) := by decide +kernel
theorem dL_law_1734 : decode cL_law 1734 = .ok (.ireturn, 1) := by decide +kernel
theorem dL_law_1735 : decode cL_law 1735 = .ok (.goto 387, 3) := by decide +kernel
theorem dL_law_1738 : decode cL_law 1738 = .ok (.aload_n 1, 1) := by decide +kernel
theorem dL_law_1739 : decode cL_law 1739 = .ok (.aload_n 0, 1) := by decide +kernel
theorem dL_law_1740 : decode cL_law 1740 = .ok (.iload 4, 2) := by decide +kernel
theorem dL_law_1742 : decode cL_law 1742 = .ok (.iconst 1, 1) := by decide +kernel
theorem dL_law_1743 : decode cL_law 1743 = .ok (.iadd, 1) := by decide +kernel
theorem dL_law_1744 : decode cL_law 1744 = .ok (.iaload, 1) := by decide +kernel
theorem dL_law_1745 : decode cL_law 1745 = .ok (.aload_n 0, 1) := by decide +kernel
theorem dL_law_1746 : decode cL_law 1746 = .ok (.iload 4, 2) := by decide +kernel
theorem dL_law_1748 : decode cL_law 1748 = .ok (.iconst 2, 1) := by decide +kernel
theorem dL_law_1749 : decode cL_law 1749 = .ok (.iadd, 1) := by decide +kernel
theorem dL_law_1750 : decode cL_law 1750 = .ok (.iaload, 1) := by decide +kernel
theorem dL_law_1751 : decode cL_law 1751 = .ok (.aload_n 3, 1) := by decide +kernel
theorem dL_law_1752 : decode cL_law 1752 = .ok (.invokestatic 169, 3) := by decide +kernel
theorem dL_law_1755 : decode cL_law 1755 = .ok (.istore 5, 2) := by decide +kernel
theorem dL_law_1757 : decode cL_law 1757 = .ok (.aload_n 2, 1) := by decide +kernel
theorem dL_law_1758 : decode cL_law 1758 = .ok (.aload_n 0, 1) := by decide +kernel
theorem dL_law_1759 : decode cL_law 1759 = .ok (.iload 4, 2) := by decide +kernel
theorem dL_law_1761 : decode cL_law 1761 = .ok (.iconst 1, 1) := by decide +kernel
theorem dL_law_1762 : decode cL_law 1762 = .ok (.iadd, 1) := by decide +kernel
theorem dL_law_1763 : decode cL_law 1763 = .ok (.iaload, 1) := by decide +kernel
theorem dL_law_1764 : decode cL_law 1764 = .ok (.aload_n 0, 1) := by decide +kernel
theorem dL_law_1765 : decode cL_law 1765 = .ok (.iload 4, 2) := by decide +kernel
theorem dL_law_1767 : decode cL_law 1767 = .ok (.iconst 2, 1) := by decide +kernel
theorem dL_law_1768 : decode cL_law 1768 = .ok (.iadd, 1) := by decide +kernel
theorem dL_law_1769 : decode cL_law 1769 = .ok (.iaload, 1) := by decide +kernel
theorem dL_law_1770 : decode cL_law 1770 = .ok (.invokevirtual 171, 3) := by decide +kernel
theorem dL_law_1773 : decode cL_law 1773 = .ok (.istore 6, 2) := by decide +kernel
theorem dL_law_1775 : decode cL_law 1775 = .ok (.aload_n 2, 1) := by decide +kernel
theorem dL_law_1776 : decode cL_law 1776 = .ok (.invokevirtual 109, 3) := by decide +kernel
theorem dL_law_1779 : decode cL_law 1779 = .ok (.iload 5, 2) := by decide +kernel
theorem dL_law_1781 : decode cL_law 1781 = .ok (.if_icmp .eq 5, 3) := by decide +kernel
theorem dL_law_1784 : decode cL_law 1784 = .ok (.iconst 0, 1) := by decide +kernel
theorem dL_law_1785 : decode cL_law 1785 = .ok (.ireturn, 1) := by decide +kernel
theorem dL_law_1786 : decode cL_law 1786 = .ok (.iload 5, 2) := by decide +kernel
theorem dL_law_1788 : decode cL_law 1788 = .ok (.ifCond .ne 15, 3) := by decide +kernel
theorem dL_law_1791 : decode cL_law 1791 = .ok (.aload_n 3, 1) := by decide +kernel
theorem dL_law_1792 : decode cL_law 1792 = .ok (.iconst 0, 1) := by decide +kernel
theorem dL_law_1793 : decode cL_law 1793 = .ok (.laload, 1) := by decide +kernel
theorem dL_law_1794 : decode cL_law 1794 = .ok (.iload 6, 2) := by decide +kernel
theorem dL_law_1796 : decode cL_law 1796 = .ok (.i2l, 1) := by decide +kernel
theorem dL_law_1797 : decode cL_law 1797 = .ok (.lcmp, 1) := by decide +kernel
theorem dL_law_1798 : decode cL_law 1798 = .ok (.ifCond .eq 5, 3) := by decide +kernel
theorem dL_law_1801 : decode cL_law 1801 = .ok (.iconst 0, 1) := by decide +kernel
theorem dL_law_1802 : decode cL_law 1802 = .ok (.ireturn, 1) := by decide +kernel
theorem dL_law_1803 : decode cL_law 1803 = .ok (.goto 319, 3) := by decide +kernel
theorem dL_law_1806 : decode cL_law 1806 = .ok (.aload_n 1, 1) := by decide +kernel
theorem dL_law_1807 : decode cL_law 1807 = .ok (.aload_n 0, 1) := by decide +kernel
theorem dL_law_1808 : decode cL_law 1808 = .ok (.iload 4, 2) := by decide +kernel
theorem dL_law_1810 : decode cL_law 1810 = .ok (.iconst 1, 1) := by decide +kernel
theorem dL_law_1811 : decode cL_law 1811 = .ok (.iadd, 1) := by decide +kernel
theorem dL_law_1812 : decode cL_law 1812 = .ok (.iaload, 1) := by decide +kernel
theorem dL_law_1813 : decode cL_law 1813 = .ok (.aload_n 0, 1) := by decide +kernel
theorem dL_law_1814 : decode cL_law 1814 = .ok (.iload 4, 2) := by decide +kernel
theorem dL_law_1816 : decode cL_law 1816 = .ok (.iconst 2, 1) := by decide +kernel
theorem dL_law_1817 : decode cL_law 1817 = .ok (.iadd, 1) := by decide +kernel
theorem dL_law_1818 : decode cL_law 1818 = .ok (.iaload, 1) := by decide +kernel
theorem dL_law_1819 : decode cL_law 1819 = .ok (.aload_n 0, 1) := by decide +kernel
theorem dL_law_1820 : decode cL_law 1820 = .ok (.iload 4, 2) := by decide +kernel
theorem dL_law_1822 : decode cL_law 1822 = .ok (.iconst 3, 1) := by decide +kernel
theorem dL_law_1823 : decode cL_law 1823 = .ok (.iadd, 1) := by decide +kernel
theorem dL_law_1824 : decode cL_law 1824 = .ok (.iaload, 1) := by decide +kernel
theorem dL_law_1825 : decode cL_law 1825 = .ok (.aload_n 0, 1) := by decide +kernel
theorem dL_law_1826 : decode cL_law 1826 = .ok (.iload 4, 2) := by decide +kernel
theorem dL_law_1828 : decode cL_law 1828 = .ok (.iconst 4, 1) := by decide +kernel
theorem dL_law_1829 : decode cL_law 1829 = .ok (.iadd, 1) := by decide +kernel
theorem dL_law_1830 : decode cL_law 1830 = .ok (.iaload, 1) := by decide +kernel
theorem dL_law_1831 : decode cL_law 1831 = .ok (.aload_n 3, 1) := by decide +kernel
theorem dL_law_1832 : decode cL_law 1832 = .ok (.invokestatic 172, 3) := by decide +kernel
theorem dL_law_1835 : decode cL_law 1835 = .ok (.istore 5, 2) := by decide +kernel
theorem dL_law_1837 : decode cL_law 1837 = .ok (.aload_n 2, 1) := by decide +kernel
theorem dL_law_1838 : decode cL_law 1838 = .ok (.aload_n 0, 1) := by decide +kernel
theorem dL_law_1839 : decode cL_law 1839 = .ok (.iload 4, 2) := by decide +kernel
theorem dL_law_1841 : decode cL_law 1841 = .ok (.iconst 1, 1) := by decide +kernel
theorem dL_law_1842 : decode cL_law 1842 = .ok (.iadd, 1) := by decide +kernel
theorem dL_law_1843 : decode cL_law 1843 = .ok (.iaload, 1) := by decide +kernel
theorem dL_law_1844 : decode cL_law 1844 = .ok (.aload_n 0, 1) := by decide +kernel
theorem dL_law_1845 : decode cL_law 1845 = .ok (.iload 4, 2) := by decide +kernel
theorem dL_law_1847 : decode cL_law 1847 = .ok (.iconst 2, 1) := by decide +kernel
theorem dL_law_1848 : decode cL_law 1848 = .ok (.iadd, 1) := by decide +kernel
theorem dL_law_1849 : decode cL_law 1849 = .ok (.iaload, 1) := by decide +kernel
theorem dL_law_1850 : decode cL_law 1850 = .ok (.aload_n 0, 1) := by decide +kernel
theorem dL_law_1851 : decode cL_law 1851 = .ok (.iload 4, 2) := by decide +kernel
theorem dL_law_1853 : decode cL_law 1853 = .ok (.iconst 3, 1) := by decide +kernel
theorem dL_law_1854 : decode cL_law 1854 = .ok (.iadd, 1) := by decide +kernel
theorem dL_law_1855 : decode cL_law 1855 = .ok (.iaload, 1) := by decide +kernel
theorem dL_law_1856 : decode cL_law 1856 = .ok (.aload_n 0, 1) := by decide +kernel
theorem dL_law_1857 : decode cL_law 1857 = .ok (.iload 4, 2) := by decide +kernel
theorem dL_law_1859 : decode cL_law 1859 = .ok (.iconst 4, 1) := by decide +kernel
theorem dL_law_1860 : decode cL_law 1860 = .ok (.iadd, 1) := by decide +kernel
theorem dL_law_1861 : decode cL_law 1861 = .ok (.iaload, 1) := by decide +kernel
theorem dL_law_1862 : decode cL_law 1862 = .ok (.invokevirtual 175, 3) := by decide +kernel
theorem dL_law_1865 : decode cL_law 1865 = .ok (.istore 6, 2) := by decide +kernel
theorem dL_law_1867 : decode cL_law 1867 = .ok (.aload_n 2, 1) := by decide +kernel
theorem dL_law_1868 : decode cL_law 1868 = .ok (.invokevirtual 109, 3) := by decide +kernel
theorem dL_law_1871 : decode cL_law 1871 = .ok (.iload 5, 2) := by decide +kernel
theorem dL_law_1873 : decode cL_law 1873 = .ok (.if_icmp .eq 5, 3) := by decide +kernel
theorem dL_law_1876 : decode cL_law 1876 = .ok (.iconst 0, 1) := by decide +kernel
theorem dL_law_1877 : decode cL_law 1877 = .ok (.ireturn, 1) := by decide +kernel
theorem dL_law_1878 : decode cL_law 1878 = .ok (.iload 5, 2) := by decide +kernel
theorem dL_law_1880 : decode cL_law 1880 = .ok (.ifCond .ne 15, 3) := by decide +kernel
theorem dL_law_1883 : decode cL_law 1883 = .ok (.aload_n 3, 1) := by decide +kernel
theorem dL_law_1884 : decode cL_law 1884 = .ok (.iconst 0, 1) := by decide +kernel
theorem dL_law_1885 : decode cL_law 1885 = .ok (.laload, 1) := by decide +kernel
theorem dL_law_1886 : decode cL_law 1886 = .ok (.iload 6, 2) := by decide +kernel
theorem dL_law_1888 : decode cL_law 1888 = .ok (.i2l, 1) := by decide +kernel
theorem dL_law_1889 : decode cL_law 1889 = .ok (.lcmp, 1) := by decide +kernel
theorem dL_law_1890 : decode cL_law 1890 = .ok (.ifCond .eq 5, 3) := by decide +kernel
theorem dL_law_1893 : decode cL_law 1893 = .ok (.iconst 0, 1) := by decide +kernel
theorem dL_law_1894 : decode cL_law 1894 = .ok (.ireturn, 1) := by decide +kernel
theorem dL_law_1895 : decode cL_law 1895 = .ok (.goto 227, 3) := by decide +kernel
theorem dL_law_1898 : decode cL_law 1898 = .ok (.aload_n 1, 1) := by decide +kernel
theorem dL_law_1899 : decode cL_law 1899 = .ok (.aload_n 0, 1) := by decide +kernel
theorem dL_law_1900 : decode cL_law 1900 = .ok (.iload 4, 2) := by decide +kernel
theorem dL_law_1902 : decode cL_law 1902 = .ok (.iconst 1, 1) := by decide +kernel
theorem dL_law_1903 : decode cL_law 1903 = .ok (.iadd, 1) := by decide +kernel
theorem dL_law_1904 : decode cL_law 1904 = .ok (.iaload, 1) := by decide +kernel
theorem dL_law_1905 : decode cL_law 1905 = .ok (.aload_n 0, 1) := by decide +kernel
theorem dL_law_1906 : decode cL_law 1906 = .ok (.iload 4, 2) := by decide +kernel
theorem dL_law_1908 : decode cL_law 1908 = .ok (.iconst 2, 1) := by decide +kernel
theorem dL_law_1909 : decode cL_law 1909 = .ok (.iadd, 1) := by decide +kernel
theorem dL_law_1910 : decode cL_law 1910 = .ok (.iaload, 1) := by decide +kernel
theorem dL_law_1911 : decode cL_law 1911 = .ok (.aload_n 3, 1) := by decide +kernel
theorem dL_law_1912 : decode cL_law 1912 = .ok (.invokestatic 176, 3) := by decide +kernel
theorem dL_law_1915 : decode cL_law 1915 = .ok (.istore 5, 2) := by decide +kernel
theorem dL_law_1917 : decode cL_law 1917 = .ok (.aload_n 2, 1) := by decide +kernel
theorem dL_law_1918 : decode cL_law 1918 = .ok (.aload_n 0, 1) := by decide +kernel
theorem dL_law_1919 : decode cL_law 1919 = .ok (.iload 4, 2) := by decide +kernel
theorem dL_law_1921 : decode cL_law 1921 = .ok (.iconst 1, 1) := by decide +kernel
theorem dL_law_1922 : decode cL_law 1922 = .ok (.iadd, 1) := by decide +kernel
theorem dL_law_1923 : decode cL_law 1923 = .ok (.iaload, 1) := by decide +kernel
theorem dL_law_1924 : decode cL_law 1924 = .ok (.aload_n 0, 1) := by decide +kernel
theorem dL_law_1925 : decode cL_law 1925 = .ok (.iload 4, 2) := by decide +kernel
theorem dL_law_1927 : decode cL_law 1927 = .ok (.iconst 2, 1) := by decide +kernel
theorem dL_law_1928 : decode cL_law 1928 = .ok (.iadd, 1) := by decide +kernel
theorem dL_law_1929 : decode cL_law 1929 = .ok (.iaload, 1) := by decide +kernel
theorem dL_law_1930 : decode cL_law 1930 = .ok (.invokevirtual 178, 3) := by decide +kernel
theorem dL_law_1933 : decode cL_law 1933 = .ok (.istore 6, 2) := by decide +kernel
theorem dL_law_1935 : decode cL_law 1935 = .ok (.aload_n 2, 1) := by decide +kernel
theorem dL_law_1936 : decode cL_law 1936 = .ok (.invokevirtual 109, 3) := by decide +kernel
theorem dL_law_1939 : decode cL_law 1939 = .ok (.iload 5, 2) := by decide +kernel
theorem dL_law_1941 : decode cL_law 1941 = .ok (.if_icmp .eq 5, 3) := by decide +kernel
theorem dL_law_1944 : decode cL_law 1944 = .ok (.iconst 0, 1) := by decide +kernel
theorem dL_law_1945 : decode cL_law 1945 = .ok (.ireturn, 1) := by decide +kernel
theorem dL_law_1946 : decode cL_law 1946 = .ok (.iload 5, 2) := by decide +kernel
theorem dL_law_1948 : decode cL_law 1948 = .ok (.ifCond .ne 22, 3) := by decide +kernel
theorem dL_law_1951 : decode cL_law 1951 = .ok (.aload_n 3, 1) := by decide +kernel
theorem dL_law_1952 : decode cL_law 1952 = .ok (.iconst 0, 1) := by decide +kernel
theorem dL_law_1953 : decode cL_law 1953 = .ok (.laload, 1) := by decide +kernel
theorem dL_law_1954 : decode cL_law 1954 = .ok (.iload 6, 2) := by decide +kernel
theorem dL_law_1956 : decode cL_law 1956 = .ok (.ifCond .eq 7, 3) := by decide +kernel
theorem dL_law_1959 : decode cL_law 1959 = .ok (.lconst 1, 1) := by decide +kernel
theorem dL_law_1960 : decode cL_law 1960 = .ok (.goto 4, 3) := by decide +kernel
theorem dL_law_1963 : decode cL_law 1963 = .ok (.lconst 0, 1) := by decide +kernel
theorem dL_law_1964 : decode cL_law 1964 = .ok (.lcmp, 1) := by decide +kernel
theorem dL_law_1965 : decode cL_law 1965 = .ok (.ifCond .eq 5, 3) := by decide +kernel
theorem dL_law_1968 : decode cL_law 1968 = .ok (.iconst 0, 1) := by decide +kernel
theorem dL_law_1969 : decode cL_law 1969 = .ok (.ireturn, 1) := by decide +kernel
theorem dL_law_1970 : decode cL_law 1970 = .ok (.goto 152, 3) := by decide +kernel
theorem dL_law_1973 : decode cL_law 1973 = .ok (.aload_n 1, 1) := by decide +kernel
theorem dL_law_1974 : decode cL_law 1974 = .ok (.aload_n 0, 1) := by decide +kernel
theorem dL_law_1975 : decode cL_law 1975 = .ok (.iload 4, 2) := by decide +kernel
theorem dL_law_1977 : decode cL_law 1977 = .ok (.iconst 1, 1) := by decide +kernel
theorem dL_law_1978 : decode cL_law 1978 = .ok (.iadd, 1) := by decide +kernel
theorem dL_law_1979 : decode cL_law 1979 = .ok (.iaload, 1) := by decide +kernel
theorem dL_law_1980 : decode cL_law 1980 = .ok (.invokevirtual 179, 3) := by decide +kernel
theorem dL_law_1983 : decode cL_law 1983 = .ok (.aload_n 2, 1) := by decide +kernel
theorem dL_law_1984 : decode cL_law 1984 = .ok (.aload_n 0, 1) := by decide +kernel
theorem dL_law_1985 : decode cL_law 1985 = .ok (.iload 4, 2) := by decide +kernel
theorem dL_law_1987 : decode cL_law 1987 = .ok (.iconst 1, 1) := by decide +kernel
theorem dL_law_1988 : decode cL_law 1988 = .ok (.iadd, 1) := by decide +kernel
theorem dL_law_1989 : decode cL_law 1989 = .ok (.iaload, 1) := by decide +kernel
theorem dL_law_1990 : decode cL_law 1990 = .ok (.invokevirtual 182, 3) := by decide +kernel
theorem dL_law_1993 : decode cL_law 1993 = .ok (.if_icmp .eq 129, 3) := by decide +kernel
theorem dL_law_1996 : decode cL_law 1996 = .ok (.iconst 0, 1) := by decide +kernel
theorem dL_law_1997 : decode cL_law 1997 = .ok (.ireturn, 1) := by decide +kernel
theorem dL_law_1998 : decode cL_law 1998 = .ok (.aload_n 1, 1) := by decide +kernel
theorem dL_law_1999 : decode cL_law 1999 = .ok (.aload_n 0, 1) := by decide +kernel
theorem dL_law_2000 : decode cL_law 2000 = .ok (.iload 4, 2) := by decide +kernel
theorem dL_law_2002 : decode cL_law 2002 = .ok (.iconst 1, 1) := by decide +kernel
theorem dL_law_2003 : decode cL_law 2003 = .ok (.iadd, 1) := by decide +kernel
theorem dL_law_2004 : decode cL_law 2004 = .ok (.iaload, 1) := by decide +kernel
theorem dL_law_2005 : decode cL_law 2005 = .ok (.aload_n 0, 1) := by decide +kernel
theorem dL_law_2006 : decode cL_law 2006 = .ok (.iload 4, 2) := by decide +kernel
theorem dL_law_2008 : decode cL_law 2008 = .ok (.iconst 2, 1) := by decide +kernel
theorem dL_law_2009 : decode cL_law 2009 = .ok (.iadd, 1) := by decide +kernel
theorem dL_law_2010 : decode cL_law 2010 = .ok (.iaload, 1) := by decide +kernel
theorem dL_law_2011 : decode cL_law 2011 = .ok (.aload_n 3, 1) := by decide +kernel
theorem dL_law_2012 : decode cL_law 2012 = .ok (.invokestatic 183, 3) := by decide +kernel
theorem dL_law_2015 : decode cL_law 2015 = .ok (.istore 5, 2) := by decide +kernel
theorem dL_law_2017 : decode cL_law 2017 = .ok (.aload_n 2, 1) := by decide +kernel
theorem dL_law_2018 : decode cL_law 2018 = .ok (.aload_n 0, 1) := by decide +kernel
theorem dL_law_2019 : decode cL_law 2019 = .ok (.iload 4, 2) := by decide +kernel
theorem dL_law_2021 : decode cL_law 2021 = .ok (.iconst 1, 1) := by decide +kernel
theorem dL_law_2022 : decode cL_law 2022 = .ok (.iadd, 1) := by decide +kernel
theorem dL_law_2023 : decode cL_law 2023 = .ok (.iaload, 1) := by decide +kernel
theorem dL_law_2024 : decode cL_law 2024 = .ok (.aload_n 0, 1) := by decide +kernel
theorem dL_law_2025 : decode cL_law 2025 = .ok (.iload 4, 2) := by decide +kernel
theorem dL_law_2027 : decode cL_law 2027 = .ok (.iconst 2, 1) := by decide +kernel
theorem dL_law_2028 : decode cL_law 2028 = .ok (.iadd, 1) := by decide +kernel
theorem dL_law_2029 : decode cL_law 2029 = .ok (.iaload, 1) := by decide +kernel
theorem dL_law_2030 : decode cL_law 2030 = .ok (.invokevirtual 185, 3) := by decide +kernel
theorem dL_law_2033 : decode cL_law 2033 = .ok (.istore 6, 2) := by decide +kernel
theorem dL_law_2035 : decode cL_law 2035 = .ok (.aload_n 2, 1) := by decide +kernel
theorem dL_law_2036 : decode cL_law 2036 = .ok (.invokevirtual 109, 3) := by decide +kernel
theorem dL_law_2039 : decode cL_law 2039 = .ok (.iload 5, 2) := by decide +kernel
theorem dL_law_2041 : decode cL_law 2041 = .ok (.if_icmp .eq 5, 3) := by decide +kernel
theorem dL_law_2044 : decode cL_law 2044 = .ok (.iconst 0, 1) := by decide +kernel
theorem dL_law_2045 : decode cL_law 2045 = .ok (.ireturn, 1) := by decide +kernel
theorem dL_law_2046 : decode cL_law 2046 = .ok (.iload 5, 2) := by decide +kernel
theorem dL_law_2048 : decode cL_law 2048 = .ok (.ifCond .ne 15, 3) := by decide +kernel
theorem dL_law_2051 : decode cL_law 2051 = .ok (.aload_n 3, 1) := by decide +kernel
theorem dL_law_2052 : decode cL_law 2052 = .ok (.iconst 0, 1) := by decide +kernel
theorem dL_law_2053 : decode cL_law 2053 = .ok (.laload, 1) := by decide +kernel
theorem dL_law_2054 : decode cL_law 2054 = .ok (.iload 6, 2) := by decide +kernel
theorem dL_law_2056 : decode cL_law 2056 = .ok (.i2l, 1) := by decide +kernel
theorem dL_law_2057 : decode cL_law 2057 = .ok (.lcmp, 1) := by decide +kernel
theorem dL_law_2058 : decode cL_law 2058 = .ok (.ifCond .eq 5, 3) := by decide +kernel
theorem dL_law_2061 : decode cL_law 2061 = .ok (.iconst 0, 1) := by decide +kernel
theorem dL_law_2062 : decode cL_law 2062 = .ok (.ireturn, 1) := by decide +kernel
theorem dL_law_2063 : decode cL_law 2063 = .ok (.goto 59, 3) := by decide +kernel
theorem dL_law_2066 : decode cL_law 2066 = .ok (.aload_n 1, 1) := by decide +kernel
theorem dL_law_2067 : decode cL_law 2067 = .ok (.aload_n 0, 1) := by decide +kernel
theorem dL_law_2068 : decode cL_law 2068 = .ok (.iload 4, 2) := by decide +kernel
theorem dL_law_2070 : decode cL_law 2070 = .ok (.iconst 1, 1) := by decide +kernel
theorem dL_law_2071 : decode cL_law 2071 = .ok (.iadd, 1) := by decide +kernel
theorem dL_law_2072 : decode cL_law 2072 = .ok (.iaload, 1) := by decide +kernel
theorem dL_law_2073 : decode cL_law 2073 = .ok (.aload_n 3, 1) := by decide +kernel
theorem dL_law_2074 : decode cL_law 2074 = .ok (.invokestatic 186, 3) := by decide +kernel
theorem dL_law_2077 : decode cL_law 2077 = .ok (.istore 5, 2) := by decide +kernel
theorem dL_law_2079 : decode cL_law 2079 = .ok (.aload_n 2, 1) := by decide +kernel
theorem dL_law_2080 : decode cL_law 2080 = .ok (.aload_n 0, 1) := by decide +kernel
theorem dL_law_2081 : decode cL_law 2081 = .ok (.iload 4, 2) := by decide +kernel
theorem dL_law_2083 : decode cL_law 2083 = .ok (.iconst 1, 1) := by decide +kernel
theorem dL_law_2084 : decode cL_law 2084 = .ok (.iadd, 1) := by decide +kernel
theorem dL_law_2085 : decode cL_law 2085 = .ok (.iaload, 1) := by decide +kernel
theorem dL_law_2086 : decode cL_law 2086 = .ok (.invokevirtual 188, 3) := by decide +kernel
theorem dL_law_2089 : decode cL_law 2089 = .ok (.istore 6, 2) := by decide +kernel
theorem dL_law_2091 : decode cL_law 2091 = .ok (.aload_n 2, 1) := by decide +kernel
theorem dL_law_2092 : decode cL_law 2092 = .ok (.invokevirtual 109, 3) := by decide +kernel
theorem dL_law_2095 : decode cL_law 2095 = .ok (.iload 5, 2) := by decide +kernel
theorem dL_law_2097 : decode cL_law 2097 = .ok (.if_icmp .eq 5, 3) := by decide +kernel
theorem dL_law_2100 : decode cL_law 2100 = .ok (.iconst 0, 1) := by decide +kernel
theorem dL_law_2101 : decode cL_law 2101 = .ok (.ireturn, 1) := by decide +kernel
theorem dL_law_2102 : decode cL_law 2102 = .ok (.iload 5, 2) := by decide +kernel
theorem dL_law_2104 : decode cL_law 2104 = .ok (.ifCond .ne 15, 3) := by decide +kernel
theorem dL_law_2107 : decode cL_law 2107 = .ok (.aload_n 3, 1) := by decide +kernel
theorem dL_law_2108 : decode cL_law 2108 = .ok (.iconst 0, 1) := by decide +kernel
theorem dL_law_2109 : decode cL_law 2109 = .ok (.laload, 1) := by decide +kernel
theorem dL_law_2110 : decode cL_law 2110 = .ok (.iload 6, 2) := by decide +kernel
theorem dL_law_2112 : decode cL_law 2112 = .ok (.i2l, 1) := by decide +kernel
theorem dL_law_2113 : decode cL_law 2113 = .ok (.lcmp, 1) := by decide +kernel
theorem dL_law_2114 : decode cL_law 2114 = .ok (.ifCond .eq 5, 3) := by decide +kernel
theorem dL_law_2117 : decode cL_law 2117 = .ok (.iconst 0, 1) := by decide +kernel
theorem dL_law_2118 : decode cL_law 2118 = .ok (.ireturn, 1) := by decide +kernel
theorem dL_law_2119 : decode cL_law 2119 = .ok (.goto 3, 3) := by decide +kernel
theorem dL_law_2122 : decode cL_law 2122 = .ok (.iinc 4 9, 3) := by decide +kernel
theorem dL_law_2125 : decode cL_law 2125 = .ok (.goto (-2102), 3) := by decide +kernel
theorem dL_law_2128 : decode cL_law 2128 = .ok (.iconst 1, 1) := by decide +kernel
theorem dL_law_2129 : decode cL_law 2129 = .ok (.ireturn, 1) := by decide +kernel
