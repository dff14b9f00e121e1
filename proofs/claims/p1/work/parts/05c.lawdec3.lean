theorem ydb_3_0 : (decode cL_law 1594 = .ok (.invokevirtual 165, 3)) ∧ (decode cL_law 1597 = .ok (.iload 6, 2)) ∧ (decode cL_law 1599 = .ok (.if_icmp .eq 5, 3)) ∧ (decode cL_law 1604 = .ok (.iload 6, 2)) ∧ (decode cL_law 1606 = .ok (.ifCond .ne 22, 3)) ∧ (decode cL_law 1628 = .ok (.goto 1509, 3)) ∧ (decode cL_law 1631 = .ok (.aload_n 1, 1)) ∧ (decode cL_law 1632 = .ok (.aload_n 0, 1)) ∧ (decode cL_law 1633 = .ok (.iload 5, 2)) ∧ (decode cL_law 1635 = .ok (.iconst 1, 1)) ∧ (decode cL_law 1636 = .ok (.iadd, 1)) ∧ (decode cL_law 1637 = .ok (.iaload, 1)) := by decide +kernel
theorem dL_law_1594 : decode cL_law 1594 = .ok (.invokevirtual 165, 3) := ydb_3_0.1
theorem dL_law_1597 : decode cL_law 1597 = .ok (.iload 6, 2) := ydb_3_0.2.1
theorem dL_law_1599 : decode cL_law 1599 = .ok (.if_icmp .eq 5, 3) := ydb_3_0.2.2.1
theorem dL_law_1604 : decode cL_law 1604 = .ok (.iload 6, 2) := ydb_3_0.2.2.2.1
theorem dL_law_1606 : decode cL_law 1606 = .ok (.ifCond .ne 22, 3) := ydb_3_0.2.2.2.2.1
theorem dL_law_1628 : decode cL_law 1628 = .ok (.goto 1509, 3) := ydb_3_0.2.2.2.2.2.1
theorem dL_law_1631 : decode cL_law 1631 = .ok (.aload_n 1, 1) := ydb_3_0.2.2.2.2.2.2.1
theorem dL_law_1632 : decode cL_law 1632 = .ok (.aload_n 0, 1) := ydb_3_0.2.2.2.2.2.2.2.1
theorem dL_law_1633 : decode cL_law 1633 = .ok (.iload 5, 2) := ydb_3_0.2.2.2.2.2.2.2.2.1
theorem dL_law_1635 : decode cL_law 1635 = .ok (.iconst 1, 1) := ydb_3_0.2.2.2.2.2.2.2.2.2.1
theorem dL_law_1636 : decode cL_law 1636 = .ok (.iadd, 1) := ydb_3_0.2.2.2.2.2.2.2.2.2.2.1
theorem dL_law_1637 : decode cL_law 1637 = .ok (.iaload, 1) := ydb_3_0.2.2.2.2.2.2.2.2.2.2.2
theorem ydb_3_12 : (decode cL_law 1638 = .ok (.i2c, 1)) ∧ (decode cL_law 1639 = .ok (.aload_n 3, 1)) ∧ (decode cL_law 1640 = .ok (.invokestatic 234, 3)) ∧ (decode cL_law 1643 = .ok (.istore 6, 2)) ∧ (decode cL_law 1645 = .ok (.aload_n 2, 1)) ∧ (decode cL_law 1646 = .ok (.aload_n 0, 1)) ∧ (decode cL_law 1647 = .ok (.iload 5, 2)) ∧ (decode cL_law 1649 = .ok (.iconst 1, 1)) ∧ (decode cL_law 1650 = .ok (.iadd, 1)) ∧ (decode cL_law 1651 = .ok (.iaload, 1)) ∧ (decode cL_law 1652 = .ok (.i2c, 1)) ∧ (decode cL_law 1653 = .ok (.invokevirtual 237, 3)) := by decide +kernel
theorem dL_law_1638 : decode cL_law 1638 = .ok (.i2c, 1) := ydb_3_12.1
theorem dL_law_1639 : decode cL_law 1639 = .ok (.aload_n 3, 1) := ydb_3_12.2.1
theorem dL_law_1640 : decode cL_law 1640 = .ok (.invokestatic 234, 3) := ydb_3_12.2.2.1
theorem dL_law_1643 : decode cL_law 1643 = .ok (.istore 6, 2) := ydb_3_12.2.2.2.1
theorem dL_law_1645 : decode cL_law 1645 = .ok (.aload_n 2, 1) := ydb_3_12.2.2.2.2.1
theorem dL_law_1646 : decode cL_law 1646 = .ok (.aload_n 0, 1) := ydb_3_12.2.2.2.2.2.1
theorem dL_law_1647 : decode cL_law 1647 = .ok (.iload 5, 2) := ydb_3_12.2.2.2.2.2.2.1
theorem dL_law_1649 : decode cL_law 1649 = .ok (.iconst 1, 1) := ydb_3_12.2.2.2.2.2.2.2.1
theorem dL_law_1650 : decode cL_law 1650 = .ok (.iadd, 1) := ydb_3_12.2.2.2.2.2.2.2.2.1
theorem dL_law_1651 : decode cL_law 1651 = .ok (.iaload, 1) := ydb_3_12.2.2.2.2.2.2.2.2.2.1
theorem dL_law_1652 : decode cL_law 1652 = .ok (.i2c, 1) := ydb_3_12.2.2.2.2.2.2.2.2.2.2.1
theorem dL_law_1653 : decode cL_law 1653 = .ok (.invokevirtual 237, 3) := ydb_3_12.2.2.2.2.2.2.2.2.2.2.2
theorem ydb_3_24 : (decode cL_law 1656 = .ok (.istore 7, 2)) ∧ (decode cL_law 1658 = .ok (.aload_n 2, 1)) ∧ (decode cL_law 1659 = .ok (.invokevirtual 165, 3)) ∧ (decode cL_law 1662 = .ok (.iload 6, 2)) ∧ (decode cL_law 1664 = .ok (.if_icmp .eq 5, 3)) ∧ (decode cL_law 1669 = .ok (.iload 6, 2)) ∧ (decode cL_law 1671 = .ok (.ifCond .ne 15, 3)) ∧ (decode cL_law 1674 = .ok (.aload_n 3, 1)) ∧ (decode cL_law 1675 = .ok (.iconst 0, 1)) ∧ (decode cL_law 1676 = .ok (.laload, 1)) ∧ (decode cL_law 1677 = .ok (.iload 7, 2)) ∧ (decode cL_law 1679 = .ok (.i2l, 1)) := by decide +kernel
theorem dL_law_1656 : decode cL_law 1656 = .ok (.istore 7, 2) := ydb_3_24.1
theorem dL_law_1658 : decode cL_law 1658 = .ok (.aload_n 2, 1) := ydb_3_24.2.1
theorem dL_law_1659 : decode cL_law 1659 = .ok (.invokevirtual 165, 3) := ydb_3_24.2.2.1
theorem dL_law_1662 : decode cL_law 1662 = .ok (.iload 6, 2) := ydb_3_24.2.2.2.1
theorem dL_law_1664 : decode cL_law 1664 = .ok (.if_icmp .eq 5, 3) := ydb_3_24.2.2.2.2.1
theorem dL_law_1669 : decode cL_law 1669 = .ok (.iload 6, 2) := ydb_3_24.2.2.2.2.2.1
theorem dL_law_1671 : decode cL_law 1671 = .ok (.ifCond .ne 15, 3) := ydb_3_24.2.2.2.2.2.2.1
theorem dL_law_1674 : decode cL_law 1674 = .ok (.aload_n 3, 1) := ydb_3_24.2.2.2.2.2.2.2.1
theorem dL_law_1675 : decode cL_law 1675 = .ok (.iconst 0, 1) := ydb_3_24.2.2.2.2.2.2.2.2.1
theorem dL_law_1676 : decode cL_law 1676 = .ok (.laload, 1) := ydb_3_24.2.2.2.2.2.2.2.2.2.1
theorem dL_law_1677 : decode cL_law 1677 = .ok (.iload 7, 2) := ydb_3_24.2.2.2.2.2.2.2.2.2.2.1
theorem dL_law_1679 : decode cL_law 1679 = .ok (.i2l, 1) := ydb_3_24.2.2.2.2.2.2.2.2.2.2.2
theorem ydb_3_36 : (decode cL_law 1680 = .ok (.lcmp, 1)) ∧ (decode cL_law 1681 = .ok (.ifCond .eq 5, 3)) ∧ (decode cL_law 1686 = .ok (.goto 1451, 3)) ∧ (decode cL_law 1689 = .ok (.aload_n 1, 1)) ∧ (decode cL_law 1690 = .ok (.invokevirtual 238, 3)) ∧ (decode cL_law 1693 = .ok (.aload_n 2, 1)) ∧ (decode cL_law 1694 = .ok (.invokevirtual 241, 3)) ∧ (decode cL_law 1697 = .ok (.if_icmp .eq 1440, 3)) ∧ (decode cL_law 1702 = .ok (.aload_n 1, 1)) ∧ (decode cL_law 1703 = .ok (.aload_n 0, 1)) ∧ (decode cL_law 1704 = .ok (.iload 5, 2)) ∧ (decode cL_law 1706 = .ok (.iconst 1, 1)) := by decide +kernel
theorem dL_law_1680 : decode cL_law 1680 = .ok (.lcmp, 1) := ydb_3_36.1
theorem dL_law_1681 : decode cL_law 1681 = .ok (.ifCond .eq 5, 3) := ydb_3_36.2.1
theorem dL_law_1686 : decode cL_law 1686 = .ok (.goto 1451, 3) := ydb_3_36.2.2.1
theorem dL_law_1689 : decode cL_law 1689 = .ok (.aload_n 1, 1) := ydb_3_36.2.2.2.1
theorem dL_law_1690 : decode cL_law 1690 = .ok (.invokevirtual 238, 3) := ydb_3_36.2.2.2.2.1
theorem dL_law_1693 : decode cL_law 1693 = .ok (.aload_n 2, 1) := ydb_3_36.2.2.2.2.2.1
theorem dL_law_1694 : decode cL_law 1694 = .ok (.invokevirtual 241, 3) := ydb_3_36.2.2.2.2.2.2.1
theorem dL_law_1697 : decode cL_law 1697 = .ok (.if_icmp .eq 1440, 3) := ydb_3_36.2.2.2.2.2.2.2.1
theorem dL_law_1702 : decode cL_law 1702 = .ok (.aload_n 1, 1) := ydb_3_36.2.2.2.2.2.2.2.2.1
theorem dL_law_1703 : decode cL_law 1703 = .ok (.aload_n 0, 1) := ydb_3_36.2.2.2.2.2.2.2.2.2.1
theorem dL_law_1704 : decode cL_law 1704 = .ok (.iload 5, 2) := ydb_3_36.2.2.2.2.2.2.2.2.2.2.1
theorem dL_law_1706 : decode cL_law 1706 = .ok (.iconst 1, 1) := ydb_3_36.2.2.2.2.2.2.2.2.2.2.2
theorem ydb_3_48 : (decode cL_law 1707 = .ok (.iadd, 1)) ∧ (decode cL_law 1708 = .ok (.iaload, 1)) ∧ (decode cL_law 1709 = .ok (.aload_n 0, 1)) ∧ (decode cL_law 1710 = .ok (.iload 5, 2)) ∧ (decode cL_law 1712 = .ok (.iconst 2, 1)) ∧ (decode cL_law 1713 = .ok (.iadd, 1)) ∧ (decode cL_law 1714 = .ok (.iaload, 1)) ∧ (decode cL_law 1715 = .ok (.aload_n 3, 1)) ∧ (decode cL_law 1716 = .ok (.invokestatic 242, 3)) ∧ (decode cL_law 1719 = .ok (.istore 6, 2)) ∧ (decode cL_law 1721 = .ok (.aload_n 2, 1)) ∧ (decode cL_law 1722 = .ok (.aload_n 0, 1)) := by decide +kernel
theorem dL_law_1707 : decode cL_law 1707 = .ok (.iadd, 1) := ydb_3_48.1
theorem dL_law_1708 : decode cL_law 1708 = .ok (.iaload, 1) := ydb_3_48.2.1
theorem dL_law_1709 : decode cL_law 1709 = .ok (.aload_n 0, 1) := ydb_3_48.2.2.1
theorem dL_law_1710 : decode cL_law 1710 = .ok (.iload 5, 2) := ydb_3_48.2.2.2.1
theorem dL_law_1712 : decode cL_law 1712 = .ok (.iconst 2, 1) := ydb_3_48.2.2.2.2.1
theorem dL_law_1713 : decode cL_law 1713 = .ok (.iadd, 1) := ydb_3_48.2.2.2.2.2.1
theorem dL_law_1714 : decode cL_law 1714 = .ok (.iaload, 1) := ydb_3_48.2.2.2.2.2.2.1
theorem dL_law_1715 : decode cL_law 1715 = .ok (.aload_n 3, 1) := ydb_3_48.2.2.2.2.2.2.2.1
theorem dL_law_1716 : decode cL_law 1716 = .ok (.invokestatic 242, 3) := ydb_3_48.2.2.2.2.2.2.2.2.1
theorem dL_law_1719 : decode cL_law 1719 = .ok (.istore 6, 2) := ydb_3_48.2.2.2.2.2.2.2.2.2.1
theorem dL_law_1721 : decode cL_law 1721 = .ok (.aload_n 2, 1) := ydb_3_48.2.2.2.2.2.2.2.2.2.2.1
theorem dL_law_1722 : decode cL_law 1722 = .ok (.aload_n 0, 1) := ydb_3_48.2.2.2.2.2.2.2.2.2.2.2
theorem ydb_3_60 : (decode cL_law 1723 = .ok (.iload 5, 2)) ∧ (decode cL_law 1725 = .ok (.iconst 1, 1)) ∧ (decode cL_law 1726 = .ok (.iadd, 1)) ∧ (decode cL_law 1727 = .ok (.iaload, 1)) ∧ (decode cL_law 1728 = .ok (.aload_n 0, 1)) ∧ (decode cL_law 1729 = .ok (.iload 5, 2)) ∧ (decode cL_law 1731 = .ok (.iconst 2, 1)) ∧ (decode cL_law 1732 = .ok (.iadd, 1)) ∧ (decode cL_law 1733 = .ok (.iaload, 1)) ∧ (decode cL_law 1734 = .ok (.invokevirtual 244, 3)) ∧ (decode cL_law 1737 = .ok (.istore 7, 2)) ∧ (decode cL_law 1739 = .ok (.aload_n 2, 1)) := by decide +kernel
theorem dL_law_1723 : decode cL_law 1723 = .ok (.iload 5, 2) := ydb_3_60.1
theorem dL_law_1725 : decode cL_law 1725 = .ok (.iconst 1, 1) := ydb_3_60.2.1
theorem dL_law_1726 : decode cL_law 1726 = .ok (.iadd, 1) := ydb_3_60.2.2.1
theorem dL_law_1727 : decode cL_law 1727 = .ok (.iaload, 1) := ydb_3_60.2.2.2.1
theorem dL_law_1728 : decode cL_law 1728 = .ok (.aload_n 0, 1) := ydb_3_60.2.2.2.2.1
theorem dL_law_1729 : decode cL_law 1729 = .ok (.iload 5, 2) := ydb_3_60.2.2.2.2.2.1
theorem dL_law_1731 : decode cL_law 1731 = .ok (.iconst 2, 1) := ydb_3_60.2.2.2.2.2.2.1
theorem dL_law_1732 : decode cL_law 1732 = .ok (.iadd, 1) := ydb_3_60.2.2.2.2.2.2.2.1
theorem dL_law_1733 : decode cL_law 1733 = .ok (.iaload, 1) := ydb_3_60.2.2.2.2.2.2.2.2.1
theorem dL_law_1734 : decode cL_law 1734 = .ok (.invokevirtual 244, 3) := ydb_3_60.2.2.2.2.2.2.2.2.2.1
theorem dL_law_1737 : decode cL_law 1737 = .ok (.istore 7, 2) := ydb_3_60.2.2.2.2.2.2.2.2.2.2.1
theorem dL_law_1739 : decode cL_law 1739 = .ok (.aload_n 2, 1) := ydb_3_60.2.2.2.2.2.2.2.2.2.2.2
theorem ydb_3_72 : (decode cL_law 1740 = .ok (.invokevirtual 165, 3)) ∧ (decode cL_law 1743 = .ok (.iload 6, 2)) ∧ (decode cL_law 1745 = .ok (.if_icmp .eq 5, 3)) ∧ (decode cL_law 1750 = .ok (.iload 6, 2)) ∧ (decode cL_law 1752 = .ok (.ifCond .ne 15, 3)) ∧ (decode cL_law 1767 = .ok (.goto 1370, 3)) ∧ (decode cL_law 1770 = .ok (.aload_n 1, 1)) ∧ (decode cL_law 1771 = .ok (.invokevirtual 245, 3)) ∧ (decode cL_law 1774 = .ok (.aload_n 2, 1)) ∧ (decode cL_law 1775 = .ok (.invokevirtual 248, 3)) ∧ (decode cL_law 1778 = .ok (.if_icmp .eq 1359, 3)) ∧ (decode cL_law 1783 = .ok (.aload_n 1, 1)) := by decide +kernel
theorem dL_law_1740 : decode cL_law 1740 = .ok (.invokevirtual 165, 3) := ydb_3_72.1
theorem dL_law_1743 : decode cL_law 1743 = .ok (.iload 6, 2) := ydb_3_72.2.1
theorem dL_law_1745 : decode cL_law 1745 = .ok (.if_icmp .eq 5, 3) := ydb_3_72.2.2.1
theorem dL_law_1750 : decode cL_law 1750 = .ok (.iload 6, 2) := ydb_3_72.2.2.2.1
theorem dL_law_1752 : decode cL_law 1752 = .ok (.ifCond .ne 15, 3) := ydb_3_72.2.2.2.2.1
theorem dL_law_1767 : decode cL_law 1767 = .ok (.goto 1370, 3) := ydb_3_72.2.2.2.2.2.1
theorem dL_law_1770 : decode cL_law 1770 = .ok (.aload_n 1, 1) := ydb_3_72.2.2.2.2.2.2.1
theorem dL_law_1771 : decode cL_law 1771 = .ok (.invokevirtual 245, 3) := ydb_3_72.2.2.2.2.2.2.2.1
theorem dL_law_1774 : decode cL_law 1774 = .ok (.aload_n 2, 1) := ydb_3_72.2.2.2.2.2.2.2.2.1
theorem dL_law_1775 : decode cL_law 1775 = .ok (.invokevirtual 248, 3) := ydb_3_72.2.2.2.2.2.2.2.2.2.1
theorem dL_law_1778 : decode cL_law 1778 = .ok (.if_icmp .eq 1359, 3) := ydb_3_72.2.2.2.2.2.2.2.2.2.2.1
theorem dL_law_1783 : decode cL_law 1783 = .ok (.aload_n 1, 1) := ydb_3_72.2.2.2.2.2.2.2.2.2.2.2
theorem ydb_3_84 : (decode cL_law 1784 = .ok (.aload_n 0, 1)) ∧ (decode cL_law 1785 = .ok (.iload 5, 2)) ∧ (decode cL_law 1787 = .ok (.iconst 1, 1)) ∧ (decode cL_law 1788 = .ok (.iadd, 1)) ∧ (decode cL_law 1789 = .ok (.iaload, 1)) ∧ (decode cL_law 1790 = .ok (.aload_n 3, 1)) ∧ (decode cL_law 1791 = .ok (.invokestatic 249, 3)) ∧ (decode cL_law 1794 = .ok (.istore 6, 2)) ∧ (decode cL_law 1796 = .ok (.aload_n 2, 1)) ∧ (decode cL_law 1797 = .ok (.aload_n 0, 1)) ∧ (decode cL_law 1798 = .ok (.iload 5, 2)) ∧ (decode cL_law 1800 = .ok (.iconst 1, 1)) := by decide +kernel
theorem dL_law_1784 : decode cL_law 1784 = .ok (.aload_n 0, 1) := ydb_3_84.1
theorem dL_law_1785 : decode cL_law 1785 = .ok (.iload 5, 2) := ydb_3_84.2.1
theorem dL_law_1787 : decode cL_law 1787 = .ok (.iconst 1, 1) := ydb_3_84.2.2.1
theorem dL_law_1788 : decode cL_law 1788 = .ok (.iadd, 1) := ydb_3_84.2.2.2.1
theorem dL_law_1789 : decode cL_law 1789 = .ok (.iaload, 1) := ydb_3_84.2.2.2.2.1
theorem dL_law_1790 : decode cL_law 1790 = .ok (.aload_n 3, 1) := ydb_3_84.2.2.2.2.2.1
theorem dL_law_1791 : decode cL_law 1791 = .ok (.invokestatic 249, 3) := ydb_3_84.2.2.2.2.2.2.1
theorem dL_law_1794 : decode cL_law 1794 = .ok (.istore 6, 2) := ydb_3_84.2.2.2.2.2.2.2.1
theorem dL_law_1796 : decode cL_law 1796 = .ok (.aload_n 2, 1) := ydb_3_84.2.2.2.2.2.2.2.2.1
theorem dL_law_1797 : decode cL_law 1797 = .ok (.aload_n 0, 1) := ydb_3_84.2.2.2.2.2.2.2.2.2.1
theorem dL_law_1798 : decode cL_law 1798 = .ok (.iload 5, 2) := ydb_3_84.2.2.2.2.2.2.2.2.2.2.1
theorem dL_law_1800 : decode cL_law 1800 = .ok (.iconst 1, 1) := ydb_3_84.2.2.2.2.2.2.2.2.2.2.2
theorem ydb_3_96 : (decode cL_law 1801 = .ok (.iadd, 1)) ∧ (decode cL_law 1802 = .ok (.iaload, 1)) ∧ (decode cL_law 1803 = .ok (.invokevirtual 251, 3)) ∧ (decode cL_law 1806 = .ok (.istore 7, 2)) ∧ (decode cL_law 1808 = .ok (.aload_n 2, 1)) ∧ (decode cL_law 1809 = .ok (.invokevirtual 165, 3)) ∧ (decode cL_law 1812 = .ok (.iload 6, 2)) ∧ (decode cL_law 1814 = .ok (.if_icmp .eq 5, 3)) ∧ (decode cL_law 1819 = .ok (.iload 6, 2)) ∧ (decode cL_law 1821 = .ok (.ifCond .ne 15, 3)) ∧ (decode cL_law 1836 = .ok (.goto 1301, 3)) ∧ (decode cL_law 1839 = .ok (.aload_n 1, 1)) := by decide +kernel
theorem dL_law_1801 : decode cL_law 1801 = .ok (.iadd, 1) := ydb_3_96.1
theorem dL_law_1802 : decode cL_law 1802 = .ok (.iaload, 1) := ydb_3_96.2.1
theorem dL_law_1803 : decode cL_law 1803 = .ok (.invokevirtual 251, 3) := ydb_3_96.2.2.1
theorem dL_law_1806 : decode cL_law 1806 = .ok (.istore 7, 2) := ydb_3_96.2.2.2.1
theorem dL_law_1808 : decode cL_law 1808 = .ok (.aload_n 2, 1) := ydb_3_96.2.2.2.2.1
theorem dL_law_1809 : decode cL_law 1809 = .ok (.invokevirtual 165, 3) := ydb_3_96.2.2.2.2.2.1
theorem dL_law_1812 : decode cL_law 1812 = .ok (.iload 6, 2) := ydb_3_96.2.2.2.2.2.2.1
theorem dL_law_1814 : decode cL_law 1814 = .ok (.if_icmp .eq 5, 3) := ydb_3_96.2.2.2.2.2.2.2.1
theorem dL_law_1819 : decode cL_law 1819 = .ok (.iload 6, 2) := ydb_3_96.2.2.2.2.2.2.2.2.1
theorem dL_law_1821 : decode cL_law 1821 = .ok (.ifCond .ne 15, 3) := ydb_3_96.2.2.2.2.2.2.2.2.2.1
theorem dL_law_1836 : decode cL_law 1836 = .ok (.goto 1301, 3) := ydb_3_96.2.2.2.2.2.2.2.2.2.2.1
theorem dL_law_1839 : decode cL_law 1839 = .ok (.aload_n 1, 1) := ydb_3_96.2.2.2.2.2.2.2.2.2.2.2
theorem ydb_3_108 : (decode cL_law 1840 = .ok (.invokevirtual 252, 3)) ∧ (decode cL_law 1843 = .ok (.aload_n 2, 1)) ∧ (decode cL_law 1844 = .ok (.invokevirtual 255, 3)) ∧ (decode cL_law 1847 = .ok (.if_icmp .eq 1290, 3)) ∧ (decode cL_law 1852 = .ok (.aload_n 1, 1)) ∧ (decode cL_law 1853 = .ok (.aload_n 0, 1)) ∧ (decode cL_law 1854 = .ok (.iload 5, 2)) ∧ (decode cL_law 1856 = .ok (.iconst 1, 1)) ∧ (decode cL_law 1857 = .ok (.iadd, 1)) ∧ (decode cL_law 1858 = .ok (.iaload, 1)) ∧ (decode cL_law 1859 = .ok (.aload_n 3, 1)) ∧ (decode cL_law 1860 = .ok (.invokestatic 256, 3)) := by decide +kernel
theorem dL_law_1840 : decode cL_law 1840 = .ok (.invokevirtual 252, 3) := ydb_3_108.1
theorem dL_law_1843 : decode cL_law 1843 = .ok (.aload_n 2, 1) := ydb_3_108.2.1
theorem dL_law_1844 : decode cL_law 1844 = .ok (.invokevirtual 255, 3) := ydb_3_108.2.2.1
theorem dL_law_1847 : decode cL_law 1847 = .ok (.if_icmp .eq 1290, 3) := ydb_3_108.2.2.2.1
theorem dL_law_1852 : decode cL_law 1852 = .ok (.aload_n 1, 1) := ydb_3_108.2.2.2.2.1
theorem dL_law_1853 : decode cL_law 1853 = .ok (.aload_n 0, 1) := ydb_3_108.2.2.2.2.2.1
theorem dL_law_1854 : decode cL_law 1854 = .ok (.iload 5, 2) := ydb_3_108.2.2.2.2.2.2.1
theorem dL_law_1856 : decode cL_law 1856 = .ok (.iconst 1, 1) := ydb_3_108.2.2.2.2.2.2.2.1
theorem dL_law_1857 : decode cL_law 1857 = .ok (.iadd, 1) := ydb_3_108.2.2.2.2.2.2.2.2.1
theorem dL_law_1858 : decode cL_law 1858 = .ok (.iaload, 1) := ydb_3_108.2.2.2.2.2.2.2.2.2.1
theorem dL_law_1859 : decode cL_law 1859 = .ok (.aload_n 3, 1) := ydb_3_108.2.2.2.2.2.2.2.2.2.2.1
theorem dL_law_1860 : decode cL_law 1860 = .ok (.invokestatic 256, 3) := ydb_3_108.2.2.2.2.2.2.2.2.2.2.2
theorem ydb_3_120 : (decode cL_law 1863 = .ok (.istore 6, 2)) ∧ (decode cL_law 1865 = .ok (.aload_n 2, 1)) ∧ (decode cL_law 1866 = .ok (.aload_n 0, 1)) ∧ (decode cL_law 1867 = .ok (.iload 5, 2)) ∧ (decode cL_law 1869 = .ok (.iconst 1, 1)) ∧ (decode cL_law 1870 = .ok (.iadd, 1)) ∧ (decode cL_law 1871 = .ok (.iaload, 1)) ∧ (decode cL_law 1872 = .ok (.invokevirtual 258, 3)) ∧ (decode cL_law 1875 = .ok (.istore 7, 2)) ∧ (decode cL_law 1877 = .ok (.aload_n 2, 1)) ∧ (decode cL_law 1878 = .ok (.invokevirtual 165, 3)) ∧ (decode cL_law 1881 = .ok (.iload 6, 2)) := by decide +kernel
theorem dL_law_1863 : decode cL_law 1863 = .ok (.istore 6, 2) := ydb_3_120.1
theorem dL_law_1865 : decode cL_law 1865 = .ok (.aload_n 2, 1) := ydb_3_120.2.1
theorem dL_law_1866 : decode cL_law 1866 = .ok (.aload_n 0, 1) := ydb_3_120.2.2.1
theorem dL_law_1867 : decode cL_law 1867 = .ok (.iload 5, 2) := ydb_3_120.2.2.2.1
theorem dL_law_1869 : decode cL_law 1869 = .ok (.iconst 1, 1) := ydb_3_120.2.2.2.2.1
theorem dL_law_1870 : decode cL_law 1870 = .ok (.iadd, 1) := ydb_3_120.2.2.2.2.2.1
theorem dL_law_1871 : decode cL_law 1871 = .ok (.iaload, 1) := ydb_3_120.2.2.2.2.2.2.1
theorem dL_law_1872 : decode cL_law 1872 = .ok (.invokevirtual 258, 3) := ydb_3_120.2.2.2.2.2.2.2.1
theorem dL_law_1875 : decode cL_law 1875 = .ok (.istore 7, 2) := ydb_3_120.2.2.2.2.2.2.2.2.1
theorem dL_law_1877 : decode cL_law 1877 = .ok (.aload_n 2, 1) := ydb_3_120.2.2.2.2.2.2.2.2.2.1
theorem dL_law_1878 : decode cL_law 1878 = .ok (.invokevirtual 165, 3) := ydb_3_120.2.2.2.2.2.2.2.2.2.2.1
theorem dL_law_1881 : decode cL_law 1881 = .ok (.iload 6, 2) := ydb_3_120.2.2.2.2.2.2.2.2.2.2.2
theorem ydb_3_132 : (decode cL_law 1883 = .ok (.if_icmp .eq 5, 3)) ∧ (decode cL_law 1888 = .ok (.iload 6, 2)) ∧ (decode cL_law 1890 = .ok (.ifCond .ne 15, 3)) ∧ (decode cL_law 1905 = .ok (.goto 1232, 3)) ∧ (decode cL_law 1908 = .ok (.aload_n 1, 1)) ∧ (decode cL_law 1909 = .ok (.aload_n 0, 1)) ∧ (decode cL_law 1910 = .ok (.iload 5, 2)) ∧ (decode cL_law 1912 = .ok (.iconst 1, 1)) ∧ (decode cL_law 1913 = .ok (.iadd, 1)) ∧ (decode cL_law 1914 = .ok (.iaload, 1)) ∧ (decode cL_law 1915 = .ok (.aload_n 3, 1)) ∧ (decode cL_law 1916 = .ok (.invokestatic 259, 3)) := by decide +kernel
theorem dL_law_1883 : decode cL_law 1883 = .ok (.if_icmp .eq 5, 3) := ydb_3_132.1
theorem dL_law_1888 : decode cL_law 1888 = .ok (.iload 6, 2) := ydb_3_132.2.1
theorem dL_law_1890 : decode cL_law 1890 = .ok (.ifCond .ne 15, 3) := ydb_3_132.2.2.1
theorem dL_law_1905 : decode cL_law 1905 = .ok (.goto 1232, 3) := ydb_3_132.2.2.2.1
theorem dL_law_1908 : decode cL_law 1908 = .ok (.aload_n 1, 1) := ydb_3_132.2.2.2.2.1
theorem dL_law_1909 : decode cL_law 1909 = .ok (.aload_n 0, 1) := ydb_3_132.2.2.2.2.2.1
theorem dL_law_1910 : decode cL_law 1910 = .ok (.iload 5, 2) := ydb_3_132.2.2.2.2.2.2.1
theorem dL_law_1912 : decode cL_law 1912 = .ok (.iconst 1, 1) := ydb_3_132.2.2.2.2.2.2.2.1
theorem dL_law_1913 : decode cL_law 1913 = .ok (.iadd, 1) := ydb_3_132.2.2.2.2.2.2.2.2.1
theorem dL_law_1914 : decode cL_law 1914 = .ok (.iaload, 1) := ydb_3_132.2.2.2.2.2.2.2.2.2.1
theorem dL_law_1915 : decode cL_law 1915 = .ok (.aload_n 3, 1) := ydb_3_132.2.2.2.2.2.2.2.2.2.2.1
theorem dL_law_1916 : decode cL_law 1916 = .ok (.invokestatic 259, 3) := ydb_3_132.2.2.2.2.2.2.2.2.2.2.2
theorem ydb_3_144 : (decode cL_law 1919 = .ok (.istore 6, 2)) ∧ (decode cL_law 1921 = .ok (.aload_n 2, 1)) ∧ (decode cL_law 1922 = .ok (.aload_n 0, 1)) ∧ (decode cL_law 1923 = .ok (.iload 5, 2)) ∧ (decode cL_law 1925 = .ok (.iconst 1, 1)) ∧ (decode cL_law 1926 = .ok (.iadd, 1)) ∧ (decode cL_law 1927 = .ok (.iaload, 1)) ∧ (decode cL_law 1928 = .ok (.invokevirtual 261, 3)) ∧ (decode cL_law 1931 = .ok (.istore 7, 2)) ∧ (decode cL_law 1933 = .ok (.aload_n 2, 1)) ∧ (decode cL_law 1934 = .ok (.invokevirtual 165, 3)) ∧ (decode cL_law 1937 = .ok (.iload 6, 2)) := by decide +kernel
theorem dL_law_1919 : decode cL_law 1919 = .ok (.istore 6, 2) := ydb_3_144.1
theorem dL_law_1921 : decode cL_law 1921 = .ok (.aload_n 2, 1) := ydb_3_144.2.1
theorem dL_law_1922 : decode cL_law 1922 = .ok (.aload_n 0, 1) := ydb_3_144.2.2.1
theorem dL_law_1923 : decode cL_law 1923 = .ok (.iload 5, 2) := ydb_3_144.2.2.2.1
theorem dL_law_1925 : decode cL_law 1925 = .ok (.iconst 1, 1) := ydb_3_144.2.2.2.2.1
theorem dL_law_1926 : decode cL_law 1926 = .ok (.iadd, 1) := ydb_3_144.2.2.2.2.2.1
theorem dL_law_1927 : decode cL_law 1927 = .ok (.iaload, 1) := ydb_3_144.2.2.2.2.2.2.1
theorem dL_law_1928 : decode cL_law 1928 = .ok (.invokevirtual 261, 3) := ydb_3_144.2.2.2.2.2.2.2.1
theorem dL_law_1931 : decode cL_law 1931 = .ok (.istore 7, 2) := ydb_3_144.2.2.2.2.2.2.2.2.1
theorem dL_law_1933 : decode cL_law 1933 = .ok (.aload_n 2, 1) := ydb_3_144.2.2.2.2.2.2.2.2.2.1
theorem dL_law_1934 : decode cL_law 1934 = .ok (.invokevirtual 165, 3) := ydb_3_144.2.2.2.2.2.2.2.2.2.2.1
theorem dL_law_1937 : decode cL_law 1937 = .ok (.iload 6, 2) := ydb_3_144.2.2.2.2.2.2.2.2.2.2.2
theorem ydb_3_156 : (decode cL_law 1939 = .ok (.if_icmp .eq 5, 3)) ∧ (decode cL_law 1944 = .ok (.iload 6, 2)) ∧ (decode cL_law 1946 = .ok (.ifCond .ne 15, 3)) ∧ (decode cL_law 1961 = .ok (.goto 1176, 3)) ∧ (decode cL_law 1964 = .ok (.aload_n 1, 1)) ∧ (decode cL_law 1965 = .ok (.aload_n 0, 1)) ∧ (decode cL_law 1966 = .ok (.iload 5, 2)) ∧ (decode cL_law 1968 = .ok (.iconst 1, 1)) ∧ (decode cL_law 1969 = .ok (.iadd, 1)) ∧ (decode cL_law 1970 = .ok (.iaload, 1)) ∧ (decode cL_law 1971 = .ok (.aload_n 3, 1)) ∧ (decode cL_law 1972 = .ok (.invokestatic 262, 3)) := by decide +kernel
theorem dL_law_1939 : decode cL_law 1939 = .ok (.if_icmp .eq 5, 3) := ydb_3_156.1
theorem dL_law_1944 : decode cL_law 1944 = .ok (.iload 6, 2) := ydb_3_156.2.1
theorem dL_law_1946 : decode cL_law 1946 = .ok (.ifCond .ne 15, 3) := ydb_3_156.2.2.1
theorem dL_law_1961 : decode cL_law 1961 = .ok (.goto 1176, 3) := ydb_3_156.2.2.2.1
theorem dL_law_1964 : decode cL_law 1964 = .ok (.aload_n 1, 1) := ydb_3_156.2.2.2.2.1
theorem dL_law_1965 : decode cL_law 1965 = .ok (.aload_n 0, 1) := ydb_3_156.2.2.2.2.2.1
theorem dL_law_1966 : decode cL_law 1966 = .ok (.iload 5, 2) := ydb_3_156.2.2.2.2.2.2.1
theorem dL_law_1968 : decode cL_law 1968 = .ok (.iconst 1, 1) := ydb_3_156.2.2.2.2.2.2.2.1
theorem dL_law_1969 : decode cL_law 1969 = .ok (.iadd, 1) := ydb_3_156.2.2.2.2.2.2.2.2.1
theorem dL_law_1970 : decode cL_law 1970 = .ok (.iaload, 1) := ydb_3_156.2.2.2.2.2.2.2.2.2.1
theorem dL_law_1971 : decode cL_law 1971 = .ok (.aload_n 3, 1) := ydb_3_156.2.2.2.2.2.2.2.2.2.2.1
theorem dL_law_1972 : decode cL_law 1972 = .ok (.invokestatic 262, 3) := ydb_3_156.2.2.2.2.2.2.2.2.2.2.2
theorem ydb_3_168 : (decode cL_law 1975 = .ok (.istore 6, 2)) ∧ (decode cL_law 1977 = .ok (.aload_n 2, 1)) ∧ (decode cL_law 1978 = .ok (.aload_n 0, 1)) ∧ (decode cL_law 1979 = .ok (.iload 5, 2)) ∧ (decode cL_law 1981 = .ok (.iconst 1, 1)) ∧ (decode cL_law 1982 = .ok (.iadd, 1)) ∧ (decode cL_law 1983 = .ok (.iaload, 1)) ∧ (decode cL_law 1984 = .ok (.invokevirtual 264, 3)) ∧ (decode cL_law 1987 = .ok (.istore 7, 2)) ∧ (decode cL_law 1989 = .ok (.aload_n 2, 1)) ∧ (decode cL_law 1990 = .ok (.invokevirtual 165, 3)) ∧ (decode cL_law 1993 = .ok (.iload 6, 2)) := by decide +kernel
theorem dL_law_1975 : decode cL_law 1975 = .ok (.istore 6, 2) := ydb_3_168.1
theorem dL_law_1977 : decode cL_law 1977 = .ok (.aload_n 2, 1) := ydb_3_168.2.1
theorem dL_law_1978 : decode cL_law 1978 = .ok (.aload_n 0, 1) := ydb_3_168.2.2.1
theorem dL_law_1979 : decode cL_law 1979 = .ok (.iload 5, 2) := ydb_3_168.2.2.2.1
theorem dL_law_1981 : decode cL_law 1981 = .ok (.iconst 1, 1) := ydb_3_168.2.2.2.2.1
theorem dL_law_1982 : decode cL_law 1982 = .ok (.iadd, 1) := ydb_3_168.2.2.2.2.2.1
theorem dL_law_1983 : decode cL_law 1983 = .ok (.iaload, 1) := ydb_3_168.2.2.2.2.2.2.1
theorem dL_law_1984 : decode cL_law 1984 = .ok (.invokevirtual 264, 3) := ydb_3_168.2.2.2.2.2.2.2.1
theorem dL_law_1987 : decode cL_law 1987 = .ok (.istore 7, 2) := ydb_3_168.2.2.2.2.2.2.2.2.1
theorem dL_law_1989 : decode cL_law 1989 = .ok (.aload_n 2, 1) := ydb_3_168.2.2.2.2.2.2.2.2.2.1
theorem dL_law_1990 : decode cL_law 1990 = .ok (.invokevirtual 165, 3) := ydb_3_168.2.2.2.2.2.2.2.2.2.2.1
theorem dL_law_1993 : decode cL_law 1993 = .ok (.iload 6, 2) := ydb_3_168.2.2.2.2.2.2.2.2.2.2.2
theorem ydb_3_180 : (decode cL_law 1995 = .ok (.if_icmp .eq 5, 3)) ∧ (decode cL_law 2000 = .ok (.iload 6, 2)) ∧ (decode cL_law 2002 = .ok (.ifCond .ne 15, 3)) ∧ (decode cL_law 2005 = .ok (.aload_n 3, 1)) ∧ (decode cL_law 2006 = .ok (.iconst 0, 1)) ∧ (decode cL_law 2007 = .ok (.laload, 1)) ∧ (decode cL_law 2008 = .ok (.iload 7, 2)) ∧ (decode cL_law 2010 = .ok (.i2l, 1)) ∧ (decode cL_law 2011 = .ok (.lcmp, 1)) ∧ (decode cL_law 2012 = .ok (.ifCond .eq 5, 3)) ∧ (decode cL_law 2017 = .ok (.goto 1120, 3)) ∧ (decode cL_law 2020 = .ok (.aload_n 1, 1)) := by decide +kernel
theorem dL_law_1995 : decode cL_law 1995 = .ok (.if_icmp .eq 5, 3) := ydb_3_180.1
theorem dL_law_2000 : decode cL_law 2000 = .ok (.iload 6, 2) := ydb_3_180.2.1
theorem dL_law_2002 : decode cL_law 2002 = .ok (.ifCond .ne 15, 3) := ydb_3_180.2.2.1
theorem dL_law_2005 : decode cL_law 2005 = .ok (.aload_n 3, 1) := ydb_3_180.2.2.2.1
theorem dL_law_2006 : decode cL_law 2006 = .ok (.iconst 0, 1) := ydb_3_180.2.2.2.2.1
theorem dL_law_2007 : decode cL_law 2007 = .ok (.laload, 1) := ydb_3_180.2.2.2.2.2.1
theorem dL_law_2008 : decode cL_law 2008 = .ok (.iload 7, 2) := ydb_3_180.2.2.2.2.2.2.1
theorem dL_law_2010 : decode cL_law 2010 = .ok (.i2l, 1) := ydb_3_180.2.2.2.2.2.2.2.1
theorem dL_law_2011 : decode cL_law 2011 = .ok (.lcmp, 1) := ydb_3_180.2.2.2.2.2.2.2.2.1
theorem dL_law_2012 : decode cL_law 2012 = .ok (.ifCond .eq 5, 3) := ydb_3_180.2.2.2.2.2.2.2.2.2.1
theorem dL_law_2017 : decode cL_law 2017 = .ok (.goto 1120, 3) := ydb_3_180.2.2.2.2.2.2.2.2.2.2.1
theorem dL_law_2020 : decode cL_law 2020 = .ok (.aload_n 1, 1) := ydb_3_180.2.2.2.2.2.2.2.2.2.2.2
theorem ydb_3_192 : (decode cL_law 2021 = .ok (.aload_n 0, 1)) ∧ (decode cL_law 2022 = .ok (.iload 5, 2)) ∧ (decode cL_law 2024 = .ok (.iconst 1, 1)) ∧ (decode cL_law 2025 = .ok (.iadd, 1)) ∧ (decode cL_law 2026 = .ok (.iaload, 1)) ∧ (decode cL_law 2027 = .ok (.aload_n 3, 1)) ∧ (decode cL_law 2028 = .ok (.invokestatic 265, 3)) ∧ (decode cL_law 2031 = .ok (.istore 6, 2)) ∧ (decode cL_law 2033 = .ok (.aload_n 2, 1)) ∧ (decode cL_law 2034 = .ok (.aload_n 0, 1)) ∧ (decode cL_law 2035 = .ok (.iload 5, 2)) ∧ (decode cL_law 2037 = .ok (.iconst 1, 1)) := by decide +kernel
theorem dL_law_2021 : decode cL_law 2021 = .ok (.aload_n 0, 1) := ydb_3_192.1
theorem dL_law_2022 : decode cL_law 2022 = .ok (.iload 5, 2) := ydb_3_192.2.1
theorem dL_law_2024 : decode cL_law 2024 = .ok (.iconst 1, 1) := ydb_3_192.2.2.1
theorem dL_law_2025 : decode cL_law 2025 = .ok (.iadd, 1) := ydb_3_192.2.2.2.1
theorem dL_law_2026 : decode cL_law 2026 = .ok (.iaload, 1) := ydb_3_192.2.2.2.2.1
theorem dL_law_2027 : decode cL_law 2027 = .ok (.aload_n 3, 1) := ydb_3_192.2.2.2.2.2.1
theorem dL_law_2028 : decode cL_law 2028 = .ok (.invokestatic 265, 3) := ydb_3_192.2.2.2.2.2.2.1
theorem dL_law_2031 : decode cL_law 2031 = .ok (.istore 6, 2) := ydb_3_192.2.2.2.2.2.2.2.1
theorem dL_law_2033 : decode cL_law 2033 = .ok (.aload_n 2, 1) := ydb_3_192.2.2.2.2.2.2.2.2.1
theorem dL_law_2034 : decode cL_law 2034 = .ok (.aload_n 0, 1) := ydb_3_192.2.2.2.2.2.2.2.2.2.1
theorem dL_law_2035 : decode cL_law 2035 = .ok (.iload 5, 2) := ydb_3_192.2.2.2.2.2.2.2.2.2.2.1
theorem dL_law_2037 : decode cL_law 2037 = .ok (.iconst 1, 1) := ydb_3_192.2.2.2.2.2.2.2.2.2.2.2
theorem ydb_3_204 : (decode cL_law 2038 = .ok (.iadd, 1)) ∧ (decode cL_law 2039 = .ok (.iaload, 1)) ∧ (decode cL_law 2040 = .ok (.invokevirtual 267, 3)) ∧ (decode cL_law 2043 = .ok (.istore 7, 2)) ∧ (decode cL_law 2045 = .ok (.aload_n 2, 1)) ∧ (decode cL_law 2046 = .ok (.invokevirtual 165, 3)) ∧ (decode cL_law 2049 = .ok (.iload 6, 2)) ∧ (decode cL_law 2051 = .ok (.if_icmp .eq 5, 3)) ∧ (decode cL_law 2056 = .ok (.iload 6, 2)) ∧ (decode cL_law 2058 = .ok (.ifCond .ne 15, 3)) ∧ (decode cL_law 2061 = .ok (.aload_n 3, 1)) ∧ (decode cL_law 2062 = .ok (.iconst 0, 1)) := by decide +kernel
theorem dL_law_2038 : decode cL_law 2038 = .ok (.iadd, 1) := ydb_3_204.1
theorem dL_law_2039 : decode cL_law 2039 = .ok (.iaload, 1) := ydb_3_204.2.1
theorem dL_law_2040 : decode cL_law 2040 = .ok (.invokevirtual 267, 3) := ydb_3_204.2.2.1
theorem dL_law_2043 : decode cL_law 2043 = .ok (.istore 7, 2) := ydb_3_204.2.2.2.1
theorem dL_law_2045 : decode cL_law 2045 = .ok (.aload_n 2, 1) := ydb_3_204.2.2.2.2.1
theorem dL_law_2046 : decode cL_law 2046 = .ok (.invokevirtual 165, 3) := ydb_3_204.2.2.2.2.2.1
theorem dL_law_2049 : decode cL_law 2049 = .ok (.iload 6, 2) := ydb_3_204.2.2.2.2.2.2.1
theorem dL_law_2051 : decode cL_law 2051 = .ok (.if_icmp .eq 5, 3) := ydb_3_204.2.2.2.2.2.2.2.1
theorem dL_law_2056 : decode cL_law 2056 = .ok (.iload 6, 2) := ydb_3_204.2.2.2.2.2.2.2.2.1
theorem dL_law_2058 : decode cL_law 2058 = .ok (.ifCond .ne 15, 3) := ydb_3_204.2.2.2.2.2.2.2.2.2.1
theorem dL_law_2061 : decode cL_law 2061 = .ok (.aload_n 3, 1) := ydb_3_204.2.2.2.2.2.2.2.2.2.2.1
theorem dL_law_2062 : decode cL_law 2062 = .ok (.iconst 0, 1) := ydb_3_204.2.2.2.2.2.2.2.2.2.2.2
theorem ydb_3_216 : (decode cL_law 2063 = .ok (.laload, 1)) ∧ (decode cL_law 2064 = .ok (.iload 7, 2)) ∧ (decode cL_law 2066 = .ok (.i2l, 1)) ∧ (decode cL_law 2067 = .ok (.lcmp, 1)) ∧ (decode cL_law 2068 = .ok (.ifCond .eq 5, 3)) ∧ (decode cL_law 2073 = .ok (.goto 1064, 3)) ∧ (decode cL_law 2076 = .ok (.aload_n 1, 1)) ∧ (decode cL_law 2077 = .ok (.aload_n 0, 1)) ∧ (decode cL_law 2078 = .ok (.iload 5, 2)) ∧ (decode cL_law 2080 = .ok (.iconst 1, 1)) ∧ (decode cL_law 2081 = .ok (.iadd, 1)) ∧ (decode cL_law 2082 = .ok (.iaload, 1)) := by decide +kernel
theorem dL_law_2063 : decode cL_law 2063 = .ok (.laload, 1) := ydb_3_216.1
theorem dL_law_2064 : decode cL_law 2064 = .ok (.iload 7, 2) := ydb_3_216.2.1
theorem dL_law_2066 : decode cL_law 2066 = .ok (.i2l, 1) := ydb_3_216.2.2.1
theorem dL_law_2067 : decode cL_law 2067 = .ok (.lcmp, 1) := ydb_3_216.2.2.2.1
theorem dL_law_2068 : decode cL_law 2068 = .ok (.ifCond .eq 5, 3) := ydb_3_216.2.2.2.2.1
theorem dL_law_2073 : decode cL_law 2073 = .ok (.goto 1064, 3) := ydb_3_216.2.2.2.2.2.1
theorem dL_law_2076 : decode cL_law 2076 = .ok (.aload_n 1, 1) := ydb_3_216.2.2.2.2.2.2.1
theorem dL_law_2077 : decode cL_law 2077 = .ok (.aload_n 0, 1) := ydb_3_216.2.2.2.2.2.2.2.1
theorem dL_law_2078 : decode cL_law 2078 = .ok (.iload 5, 2) := ydb_3_216.2.2.2.2.2.2.2.2.1
theorem dL_law_2080 : decode cL_law 2080 = .ok (.iconst 1, 1) := ydb_3_216.2.2.2.2.2.2.2.2.2.1
theorem dL_law_2081 : decode cL_law 2081 = .ok (.iadd, 1) := ydb_3_216.2.2.2.2.2.2.2.2.2.2.1
theorem dL_law_2082 : decode cL_law 2082 = .ok (.iaload, 1) := ydb_3_216.2.2.2.2.2.2.2.2.2.2.2
theorem ydb_3_228 : (decode cL_law 2083 = .ok (.aload_n 0, 1)) ∧ (decode cL_law 2084 = .ok (.iload 5, 2)) ∧ (decode cL_law 2086 = .ok (.iconst 2, 1)) ∧ (decode cL_law 2087 = .ok (.iadd, 1)) ∧ (decode cL_law 2088 = .ok (.iaload, 1)) ∧ (decode cL_law 2089 = .ok (.aload_n 0, 1)) ∧ (decode cL_law 2090 = .ok (.iload 5, 2)) ∧ (decode cL_law 2092 = .ok (.iconst 3, 1)) ∧ (decode cL_law 2093 = .ok (.iadd, 1)) ∧ (decode cL_law 2094 = .ok (.iaload, 1)) ∧ (decode cL_law 2095 = .ok (.aload_n 0, 1)) ∧ (decode cL_law 2096 = .ok (.iload 5, 2)) := by decide +kernel
theorem dL_law_2083 : decode cL_law 2083 = .ok (.aload_n 0, 1) := ydb_3_228.1
theorem dL_law_2084 : decode cL_law 2084 = .ok (.iload 5, 2) := ydb_3_228.2.1
theorem dL_law_2086 : decode cL_law 2086 = .ok (.iconst 2, 1) := ydb_3_228.2.2.1
theorem dL_law_2087 : decode cL_law 2087 = .ok (.iadd, 1) := ydb_3_228.2.2.2.1
theorem dL_law_2088 : decode cL_law 2088 = .ok (.iaload, 1) := ydb_3_228.2.2.2.2.1
theorem dL_law_2089 : decode cL_law 2089 = .ok (.aload_n 0, 1) := ydb_3_228.2.2.2.2.2.1
theorem dL_law_2090 : decode cL_law 2090 = .ok (.iload 5, 2) := ydb_3_228.2.2.2.2.2.2.1
theorem dL_law_2092 : decode cL_law 2092 = .ok (.iconst 3, 1) := ydb_3_228.2.2.2.2.2.2.2.1
theorem dL_law_2093 : decode cL_law 2093 = .ok (.iadd, 1) := ydb_3_228.2.2.2.2.2.2.2.2.1
theorem dL_law_2094 : decode cL_law 2094 = .ok (.iaload, 1) := ydb_3_228.2.2.2.2.2.2.2.2.2.1
theorem dL_law_2095 : decode cL_law 2095 = .ok (.aload_n 0, 1) := ydb_3_228.2.2.2.2.2.2.2.2.2.2.1
theorem dL_law_2096 : decode cL_law 2096 = .ok (.iload 5, 2) := ydb_3_228.2.2.2.2.2.2.2.2.2.2.2
theorem ydb_3_240 : (decode cL_law 2098 = .ok (.iconst 4, 1)) ∧ (decode cL_law 2099 = .ok (.iadd, 1)) ∧ (decode cL_law 2100 = .ok (.iaload, 1)) ∧ (decode cL_law 2101 = .ok (.aload_n 3, 1)) ∧ (decode cL_law 2102 = .ok (.invokestatic 268, 3)) ∧ (decode cL_law 2105 = .ok (.istore 6, 2)) ∧ (decode cL_law 2107 = .ok (.aload_n 2, 1)) ∧ (decode cL_law 2108 = .ok (.aload_n 0, 1)) ∧ (decode cL_law 2109 = .ok (.iload 5, 2)) ∧ (decode cL_law 2111 = .ok (.iconst 1, 1)) := by decide +kernel
theorem dL_law_2098 : decode cL_law 2098 = .ok (.iconst 4, 1) := ydb_3_240.1
theorem dL_law_2099 : decode cL_law 2099 = .ok (.iadd, 1) := ydb_3_240.2.1
theorem dL_law_2100 : decode cL_law 2100 = .ok (.iaload, 1) := ydb_3_240.2.2.1
theorem dL_law_2101 : decode cL_law 2101 = .ok (.aload_n 3, 1) := ydb_3_240.2.2.2.1
theorem dL_law_2102 : decode cL_law 2102 = .ok (.invokestatic 268, 3) := ydb_3_240.2.2.2.2.1
theorem dL_law_2105 : decode cL_law 2105 = .ok (.istore 6, 2) := ydb_3_240.2.2.2.2.2.1
theorem dL_law_2107 : decode cL_law 2107 = .ok (.aload_n 2, 1) := ydb_3_240.2.2.2.2.2.2.1
theorem dL_law_2108 : decode cL_law 2108 = .ok (.aload_n 0, 1) := ydb_3_240.2.2.2.2.2.2.2.1
theorem dL_law_2109 : decode cL_law 2109 = .ok (.iload 5, 2) := ydb_3_240.2.2.2.2.2.2.2.2.1
theorem dL_law_2111 : decode cL_law 2111 = .ok (.iconst 1, 1) := ydb_3_240.2.2.2.2.2.2.2.2.2
