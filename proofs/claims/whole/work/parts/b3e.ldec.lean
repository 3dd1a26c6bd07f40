/-! the law's instructions, part 4 -/
theorem d_L_law_1688 : decode y_L_law.2.1 1688 = .ok (.aload_n 0, 1) := by decide +kernel
theorem d_L_law_1689 : decode y_L_law.2.1 1689 = .ok (.iload 4, 2) := by decide +kernel
theorem d_L_law_1691 : decode y_L_law.2.1 1691 = .ok (.iconst 3, 1) := by decide +kernel
theorem d_L_law_1692 : decode y_L_law.2.1 1692 = .ok (.iadd, 1) := by decide +kernel
theorem d_L_law_1693 : decode y_L_law.2.1 1693 = .ok (.iaload, 1) := by decide +kernel
theorem d_L_law_1694 : decode y_L_law.2.1 1694 = .ok (.aload_n 0, 1) := by decide +kernel
theorem d_L_law_1695 : decode y_L_law.2.1 1695 = .ok (.iload 4, 2) := by decide +kernel
theorem d_L_law_1697 : decode y_L_law.2.1 1697 = .ok (.iconst 4, 1) := by decide +kernel
theorem d_L_law_1698 : decode y_L_law.2.1 1698 = .ok (.iadd, 1) := by decide +kernel
theorem d_L_law_1699 : decode y_L_law.2.1 1699 = .ok (.iaload, 1) := by decide +kernel
theorem d_L_law_1700 : decode y_L_law.2.1 1700 = .ok (.aload_n 0, 1) := by decide +kernel
theorem d_L_law_1701 : decode y_L_law.2.1 1701 = .ok (.iload 4, 2) := by decide +kernel
theorem d_L_law_1703 : decode y_L_law.2.1 1703 = .ok (.iconst 5, 1) := by decide +kernel
theorem d_L_law_1704 : decode y_L_law.2.1 1704 = .ok (.iadd, 1) := by decide +kernel
theorem d_L_law_1705 : decode y_L_law.2.1 1705 = .ok (.iaload, 1) := by decide +kernel
theorem d_L_law_1706 : decode y_L_law.2.1 1706 = .ok (.aload_n 0, 1) := by decide +kernel
theorem d_L_law_1707 : decode y_L_law.2.1 1707 = .ok (.iload 4, 2) := by decide +kernel
theorem d_L_law_1709 : decode y_L_law.2.1 1709 = .ok (.bipush 6, 2) := by decide +kernel
theorem d_L_law_1711 : decode y_L_law.2.1 1711 = .ok (.iadd, 1) := by decide +kernel
theorem d_L_law_1712 : decode y_L_law.2.1 1712 = .ok (.iaload, 1) := by decide +kernel
theorem d_L_law_1713 : decode y_L_law.2.1 1713 = .ok (.aload_n 3, 1) := by decide +kernel
theorem d_L_law_1714 : decode y_L_law.2.1 1714 = .ok (.invokestatic 213, 3) := by decide +kernel
theorem d_L_law_1717 : decode y_L_law.2.1 1717 = .ok (.istore 5, 2) := by decide +kernel
theorem d_L_law_1719 : decode y_L_law.2.1 1719 = .ok (.aload_n 2, 1) := by decide +kernel
theorem d_L_law_1720 : decode y_L_law.2.1 1720 = .ok (.aload_n 0, 1) := by decide +kernel
theorem d_L_law_1721 : decode y_L_law.2.1 1721 = .ok (.iload 4, 2) := by decide +kernel
theorem d_L_law_1723 : decode y_L_law.2.1 1723 = .ok (.iconst 1, 1) := by decide +kernel
theorem d_L_law_1724 : decode y_L_law.2.1 1724 = .ok (.iadd, 1) := by decide +kernel
theorem d_L_law_1725 : decode y_L_law.2.1 1725 = .ok (.iaload, 1) := by decide +kernel
theorem d_L_law_1726 : decode y_L_law.2.1 1726 = .ok (.aload_n 0, 1) := by decide +kernel
theorem d_L_law_1727 : decode y_L_law.2.1 1727 = .ok (.iload 4, 2) := by decide +kernel
theorem d_L_law_1729 : decode y_L_law.2.1 1729 = .ok (.iconst 2, 1) := by decide +kernel
theorem d_L_law_1730 : decode y_L_law.2.1 1730 = .ok (.iadd, 1) := by decide +kernel
theorem d_L_law_1731 : decode y_L_law.2.1 1731 = .ok (.iaload, 1) := by decide +kernel
theorem d_L_law_1732 : decode y_L_law.2.1 1732 = .ok (.aload_n 0, 1) := by decide +kernel
theorem d_L_law_1733 : decode y_L_law.2.1 1733 = .ok (.iload 4, 2) := by decide +kernel
theorem d_L_law_1735 : decode y_L_law.2.1 1735 = .ok (.iconst 3, 1) := by decide +kernel
theorem d_L_law_1736 : decode y_L_law.2.1 1736 = .ok (.iadd, 1) := by decide +kernel
theorem d_L_law_1737 : decode y_L_law.2.1 1737 = .ok (.iaload, 1) := by decide +kernel
theorem d_L_law_1738 : decode y_L_law.2.1 1738 = .ok (.aload_n 0, 1) := by decide +kernel
theorem d_L_law_1739 : decode y_L_law.2.1 1739 = .ok (.iload 4, 2) := by decide +kernel
theorem d_L_law_1741 : decode y_L_law.2.1 1741 = .ok (.iconst 4, 1) := by decide +kernel
theorem d_L_law_1742 : decode y_L_law.2.1 1742 = .ok (.iadd, 1) := by decide +kernel
theorem d_L_law_1743 : decode y_L_law.2.1 1743 = .ok (.iaload, 1) := by decide +kernel
theorem d_L_law_1744 : decode y_L_law.2.1 1744 = .ok (.aload_n 0, 1) := by decide +kernel
theorem d_L_law_1745 : decode y_L_law.2.1 1745 = .ok (.iload 4, 2) := by decide +kernel
theorem d_L_law_1747 : decode y_L_law.2.1 1747 = .ok (.iconst 5, 1) := by decide +kernel
theorem d_L_law_1748 : decode y_L_law.2.1 1748 = .ok (.iadd, 1) := by decide +kernel
theorem d_L_law_1749 : decode y_L_law.2.1 1749 = .ok (.iaload, 1) := by decide +kernel
theorem d_L_law_1750 : decode y_L_law.2.1 1750 = .ok (.aload_n 0, 1) := by decide +kernel
theorem d_L_law_1751 : decode y_L_law.2.1 1751 = .ok (.iload 4, 2) := by decide +kernel
theorem d_L_law_1753 : decode y_L_law.2.1 1753 = .ok (.bipush 6, 2) := by decide +kernel
theorem d_L_law_1755 : decode y_L_law.2.1 1755 = .ok (.iadd, 1) := by decide +kernel
theorem d_L_law_1756 : decode y_L_law.2.1 1756 = .ok (.iaload, 1) := by decide +kernel
theorem d_L_law_1757 : decode y_L_law.2.1 1757 = .ok (.invokevirtual 215, 3) := by decide +kernel
theorem d_L_law_1760 : decode y_L_law.2.1 1760 = .ok (.istore 6, 2) := by decide +kernel
theorem d_L_law_1762 : decode y_L_law.2.1 1762 = .ok (.aload_n 2, 1) := by decide +kernel
theorem d_L_law_1763 : decode y_L_law.2.1 1763 = .ok (.invokevirtual 156, 3) := by decide +kernel
theorem d_L_law_1766 : decode y_L_law.2.1 1766 = .ok (.iload 5, 2) := by decide +kernel
theorem d_L_law_1768 : decode y_L_law.2.1 1768 = .ok (.if_icmp .eq 5, 3) := by decide +kernel
theorem d_L_law_1771 : decode y_L_law.2.1 1771 = .ok (.iconst 0, 1) := by decide +kernel
theorem d_L_law_1772 : decode y_L_law.2.1 1772 = .ok (.ireturn, 1) := by decide +kernel
theorem d_L_law_1773 : decode y_L_law.2.1 1773 = .ok (.iload 5, 2) := by decide +kernel
theorem d_L_law_1775 : decode y_L_law.2.1 1775 = .ok (.ifCond .ne 22, 3) := by decide +kernel
theorem d_L_law_1778 : decode y_L_law.2.1 1778 = .ok (.aload_n 3, 1) := by decide +kernel
theorem d_L_law_1779 : decode y_L_law.2.1 1779 = .ok (.iconst 0, 1) := by decide +kernel
theorem d_L_law_1780 : decode y_L_law.2.1 1780 = .ok (.laload, 1) := by decide +kernel
theorem d_L_law_1781 : decode y_L_law.2.1 1781 = .ok (.iload 6, 2) := by decide +kernel
theorem d_L_law_1783 : decode y_L_law.2.1 1783 = .ok (.ifCond .eq 7, 3) := by decide +kernel
theorem d_L_law_1786 : decode y_L_law.2.1 1786 = .ok (.lconst 1, 1) := by decide +kernel
theorem d_L_law_1787 : decode y_L_law.2.1 1787 = .ok (.goto 4, 3) := by decide +kernel
theorem d_L_law_1790 : decode y_L_law.2.1 1790 = .ok (.lconst 0, 1) := by decide +kernel
theorem d_L_law_1791 : decode y_L_law.2.1 1791 = .ok (.lcmp, 1) := by decide +kernel
theorem d_L_law_1792 : decode y_L_law.2.1 1792 = .ok (.ifCond .eq 5, 3) := by decide +kernel
theorem d_L_law_1795 : decode y_L_law.2.1 1795 = .ok (.iconst 0, 1) := by decide +kernel
theorem d_L_law_1796 : decode y_L_law.2.1 1796 = .ok (.ireturn, 1) := by decide +kernel
theorem d_L_law_1797 : decode y_L_law.2.1 1797 = .ok (.goto 2072, 3) := by decide +kernel
theorem d_L_law_1800 : decode y_L_law.2.1 1800 = .ok (.aload_n 1, 1) := by decide +kernel
theorem d_L_law_1801 : decode y_L_law.2.1 1801 = .ok (.aload_n 0, 1) := by decide +kernel
theorem d_L_law_1802 : decode y_L_law.2.1 1802 = .ok (.iload 4, 2) := by decide +kernel
theorem d_L_law_1804 : decode y_L_law.2.1 1804 = .ok (.iconst 1, 1) := by decide +kernel
theorem d_L_law_1805 : decode y_L_law.2.1 1805 = .ok (.iadd, 1) := by decide +kernel
theorem d_L_law_1806 : decode y_L_law.2.1 1806 = .ok (.iaload, 1) := by decide +kernel
theorem d_L_law_1807 : decode y_L_law.2.1 1807 = .ok (.aload_n 0, 1) := by decide +kernel
theorem d_L_law_1808 : decode y_L_law.2.1 1808 = .ok (.iload 4, 2) := by decide +kernel
theorem d_L_law_1810 : decode y_L_law.2.1 1810 = .ok (.iconst 2, 1) := by decide +kernel
theorem d_L_law_1811 : decode y_L_law.2.1 1811 = .ok (.iadd, 1) := by decide +kernel
theorem d_L_law_1812 : decode y_L_law.2.1 1812 = .ok (.iaload, 1) := by decide +kernel
theorem d_L_law_1813 : decode y_L_law.2.1 1813 = .ok (.aload_n 0, 1) := by decide +kernel
theorem d_L_law_1814 : decode y_L_law.2.1 1814 = .ok (.iload 4, 2) := by decide +kernel
theorem d_L_law_1816 : decode y_L_law.2.1 1816 = .ok (.iconst 3, 1) := by decide +kernel
theorem d_L_law_1817 : decode y_L_law.2.1 1817 = .ok (.iadd, 1) := by decide +kernel
theorem d_L_law_1818 : decode y_L_law.2.1 1818 = .ok (.iaload, 1) := by decide +kernel
theorem d_L_law_1819 : decode y_L_law.2.1 1819 = .ok (.aload_n 0, 1) := by decide +kernel
theorem d_L_law_1820 : decode y_L_law.2.1 1820 = .ok (.iload 4, 2) := by decide +kernel
theorem d_L_law_1822 : decode y_L_law.2.1 1822 = .ok (.iconst 4, 1) := by decide +kernel
theorem d_L_law_1823 : decode y_L_law.2.1 1823 = .ok (.iadd, 1) := by decide +kernel
theorem d_L_law_1824 : decode y_L_law.2.1 1824 = .ok (.iaload, 1) := by decide +kernel
theorem d_L_law_1825 : decode y_L_law.2.1 1825 = .ok (.aload_n 0, 1) := by decide +kernel
theorem d_L_law_1826 : decode y_L_law.2.1 1826 = .ok (.iload 4, 2) := by decide +kernel
theorem d_L_law_1828 : decode y_L_law.2.1 1828 = .ok (.iconst 5, 1) := by decide +kernel
theorem d_L_law_1829 : decode y_L_law.2.1 1829 = .ok (.iadd, 1) := by decide +kernel
theorem d_L_law_1830 : decode y_L_law.2.1 1830 = .ok (.iaload, 1) := by decide +kernel
theorem d_L_law_1831 : decode y_L_law.2.1 1831 = .ok (.aload_n 3, 1) := by decide +kernel
theorem d_L_law_1832 : decode y_L_law.2.1 1832 = .ok (.invokestatic 216, 3) := by decide +kernel
theorem d_L_law_1835 : decode y_L_law.2.1 1835 = .ok (.istore 5, 2) := by decide +kernel
theorem d_L_law_1837 : decode y_L_law.2.1 1837 = .ok (.aload_n 2, 1) := by decide +kernel
theorem d_L_law_1838 : decode y_L_law.2.1 1838 = .ok (.aload_n 0, 1) := by decide +kernel
theorem d_L_law_1839 : decode y_L_law.2.1 1839 = .ok (.iload 4, 2) := by decide +kernel
theorem d_L_law_1841 : decode y_L_law.2.1 1841 = .ok (.iconst 1, 1) := by decide +kernel
theorem d_L_law_1842 : decode y_L_law.2.1 1842 = .ok (.iadd, 1) := by decide +kernel
theorem d_L_law_1843 : decode y_L_law.2.1 1843 = .ok (.iaload, 1) := by decide +kernel
theorem d_L_law_1844 : decode y_L_law.2.1 1844 = .ok (.aload_n 0, 1) := by decide +kernel
theorem d_L_law_1845 : decode y_L_law.2.1 1845 = .ok (.iload 4, 2) := by decide +kernel
theorem d_L_law_1847 : decode y_L_law.2.1 1847 = .ok (.iconst 2, 1) := by decide +kernel
theorem d_L_law_1848 : decode y_L_law.2.1 1848 = .ok (.iadd, 1) := by decide +kernel
theorem d_L_law_1849 : decode y_L_law.2.1 1849 = .ok (.iaload, 1) := by decide +kernel
theorem d_L_law_1850 : decode y_L_law.2.1 1850 = .ok (.aload_n 0, 1) := by decide +kernel
theorem d_L_law_1851 : decode y_L_law.2.1 1851 = .ok (.iload 4, 2) := by decide +kernel
theorem d_L_law_1853 : decode y_L_law.2.1 1853 = .ok (.iconst 3, 1) := by decide +kernel
theorem d_L_law_1854 : decode y_L_law.2.1 1854 = .ok (.iadd, 1) := by decide +kernel
theorem d_L_law_1855 : decode y_L_law.2.1 1855 = .ok (.iaload, 1) := by decide +kernel
theorem d_L_law_1856 : decode y_L_law.2.1 1856 = .ok (.aload_n 0, 1) := by decide +kernel
theorem d_L_law_1857 : decode y_L_law.2.1 1857 = .ok (.iload 4, 2) := by decide +kernel
theorem d_L_law_1859 : decode y_L_law.2.1 1859 = .ok (.iconst 4, 1) := by decide +kernel
theorem d_L_law_1860 : decode y_L_law.2.1 1860 = .ok (.iadd, 1) := by decide +kernel
theorem d_L_law_1861 : decode y_L_law.2.1 1861 = .ok (.iaload, 1) := by decide +kernel
theorem d_L_law_1862 : decode y_L_law.2.1 1862 = .ok (.aload_n 0, 1) := by decide +kernel
theorem d_L_law_1863 : decode y_L_law.2.1 1863 = .ok (.iload 4, 2) := by decide +kernel
theorem d_L_law_1865 : decode y_L_law.2.1 1865 = .ok (.iconst 5, 1) := by decide +kernel
theorem d_L_law_1866 : decode y_L_law.2.1 1866 = .ok (.iadd, 1) := by decide +kernel
theorem d_L_law_1867 : decode y_L_law.2.1 1867 = .ok (.iaload, 1) := by decide +kernel
theorem d_L_law_1868 : decode y_L_law.2.1 1868 = .ok (.invokevirtual 218, 3) := by decide +kernel
theorem d_L_law_1871 : decode y_L_law.2.1 1871 = .ok (.istore 6, 2) := by decide +kernel
theorem d_L_law_1873 : decode y_L_law.2.1 1873 = .ok (.aload_n 2, 1) := by decide +kernel
theorem d_L_law_1874 : decode y_L_law.2.1 1874 = .ok (.invokevirtual 156, 3) := by decide +kernel
theorem d_L_law_1877 : decode y_L_law.2.1 1877 = .ok (.iload 5, 2) := by decide +kernel
theorem d_L_law_1879 : decode y_L_law.2.1 1879 = .ok (.if_icmp .eq 5, 3) := by decide +kernel
theorem d_L_law_1882 : decode y_L_law.2.1 1882 = .ok (.iconst 0, 1) := by decide +kernel
theorem d_L_law_1883 : decode y_L_law.2.1 1883 = .ok (.ireturn, 1) := by decide +kernel
theorem d_L_law_1884 : decode y_L_law.2.1 1884 = .ok (.iload 5, 2) := by decide +kernel
theorem d_L_law_1886 : decode y_L_law.2.1 1886 = .ok (.ifCond .ne 15, 3) := by decide +kernel
theorem d_L_law_1889 : decode y_L_law.2.1 1889 = .ok (.aload_n 3, 1) := by decide +kernel
theorem d_L_law_1890 : decode y_L_law.2.1 1890 = .ok (.iconst 0, 1) := by decide +kernel
theorem d_L_law_1891 : decode y_L_law.2.1 1891 = .ok (.laload, 1) := by decide +kernel
theorem d_L_law_1892 : decode y_L_law.2.1 1892 = .ok (.iload 6, 2) := by decide +kernel
theorem d_L_law_1894 : decode y_L_law.2.1 1894 = .ok (.i2l, 1) := by decide +kernel
theorem d_L_law_1895 : decode y_L_law.2.1 1895 = .ok (.lcmp, 1) := by decide +kernel
theorem d_L_law_1896 : decode y_L_law.2.1 1896 = .ok (.ifCond .eq 5, 3) := by decide +kernel
theorem d_L_law_1899 : decode y_L_law.2.1 1899 = .ok (.iconst 0, 1) := by decide +kernel
theorem d_L_law_1900 : decode y_L_law.2.1 1900 = .ok (.ireturn, 1) := by decide +kernel
theorem d_L_law_1901 : decode y_L_law.2.1 1901 = .ok (.goto 1968, 3) := by decide +kernel
theorem d_L_law_1904 : decode y_L_law.2.1 1904 = .ok (.aload_n 1, 1) := by decide +kernel
theorem d_L_law_1905 : decode y_L_law.2.1 1905 = .ok (.aload_n 0, 1) := by decide +kernel
theorem d_L_law_1906 : decode y_L_law.2.1 1906 = .ok (.iload 4, 2) := by decide +kernel
theorem d_L_law_1908 : decode y_L_law.2.1 1908 = .ok (.iconst 1, 1) := by decide +kernel
theorem d_L_law_1909 : decode y_L_law.2.1 1909 = .ok (.iadd, 1) := by decide +kernel
theorem d_L_law_1910 : decode y_L_law.2.1 1910 = .ok (.iaload, 1) := by decide +kernel
theorem d_L_law_1911 : decode y_L_law.2.1 1911 = .ok (.aload_n 0, 1) := by decide +kernel
theorem d_L_law_1912 : decode y_L_law.2.1 1912 = .ok (.iload 4, 2) := by decide +kernel
theorem d_L_law_1914 : decode y_L_law.2.1 1914 = .ok (.iconst 2, 1) := by decide +kernel
theorem d_L_law_1915 : decode y_L_law.2.1 1915 = .ok (.iadd, 1) := by decide +kernel
theorem d_L_law_1916 : decode y_L_law.2.1 1916 = .ok (.iaload, 1) := by decide +kernel
theorem d_L_law_1917 : decode y_L_law.2.1 1917 = .ok (.aload_n 0, 1) := by decide +kernel
theorem d_L_law_1918 : decode y_L_law.2.1 1918 = .ok (.iload 4, 2) := by decide +kernel
theorem d_L_law_1920 : decode y_L_law.2.1 1920 = .ok (.iconst 3, 1) := by decide +kernel
theorem d_L_law_1921 : decode y_L_law.2.1 1921 = .ok (.iadd, 1) := by decide +kernel
theorem d_L_law_1922 : decode y_L_law.2.1 1922 = .ok (.iaload, 1) := by decide +kernel
theorem d_L_law_1923 : decode y_L_law.2.1 1923 = .ok (.aload_n 0, 1) := by decide +kernel
theorem d_L_law_1924 : decode y_L_law.2.1 1924 = .ok (.iload 4, 2) := by decide +kernel
theorem d_L_law_1926 : decode y_L_law.2.1 1926 = .ok (.iconst 4, 1) := by decide +kernel
theorem d_L_law_1927 : decode y_L_law.2.1 1927 = .ok (.iadd, 1) := by decide +kernel
theorem d_L_law_1928 : decode y_L_law.2.1 1928 = .ok (.iaload, 1) := by decide +kernel
theorem d_L_law_1929 : decode y_L_law.2.1 1929 = .ok (.aload_n 3, 1) := by decide +kernel
theorem d_L_law_1930 : decode y_L_law.2.1 1930 = .ok (.invokestatic 219, 3) := by decide +kernel
theorem d_L_law_1933 : decode y_L_law.2.1 1933 = .ok (.istore 5, 2) := by decide +kernel
theorem d_L_law_1935 : decode y_L_law.2.1 1935 = .ok (.aload_n 2, 1) := by decide +kernel
theorem d_L_law_1936 : decode y_L_law.2.1 1936 = .ok (.aload_n 0, 1) := by decide +kernel
theorem d_L_law_1937 : decode y_L_law.2.1 1937 = .ok (.iload 4, 2) := by decide +kernel
theorem d_L_law_1939 : decode y_L_law.2.1 1939 = .ok (.iconst 1, 1) := by decide +kernel
theorem d_L_law_1940 : decode y_L_law.2.1 1940 = .ok (.iadd, 1) := by decide +kernel
theorem d_L_law_1941 : decode y_L_law.2.1 1941 = .ok (.iaload, 1) := by decide +kernel
theorem d_L_law_1942 : decode y_L_law.2.1 1942 = .ok (.aload_n 0, 1) := by decide +kernel
theorem d_L_law_1943 : decode y_L_law.2.1 1943 = .ok (.iload 4, 2) := by decide +kernel
theorem d_L_law_1945 : decode y_L_law.2.1 1945 = .ok (.iconst 2, 1) := by decide +kernel
theorem d_L_law_1946 : decode y_L_law.2.1 1946 = .ok (.iadd, 1) := by decide +kernel
theorem d_L_law_1947 : decode y_L_law.2.1 1947 = .ok (.iaload, 1) := by decide +kernel
theorem d_L_law_1948 : decode y_L_law.2.1 1948 = .ok (.aload_n 0, 1) := by decide +kernel
theorem d_L_law_1949 : decode y_L_law.2.1 1949 = .ok (.iload 4, 2) := by decide +kernel
theorem d_L_law_1951 : decode y_L_law.2.1 1951 = .ok (.iconst 3, 1) := by decide +kernel
theorem d_L_law_1952 : decode y_L_law.2.1 1952 = .ok (.iadd, 1) := by decide +kernel
theorem d_L_law_1953 : decode y_L_law.2.1 1953 = .ok (.iaload, 1) := by decide +kernel
theorem d_L_law_1954 : decode y_L_law.2.1 1954 = .ok (.aload_n 0, 1) := by decide +kernel
theorem d_L_law_1955 : decode y_L_law.2.1 1955 = .ok (.iload 4, 2) := by decide +kernel
theorem d_L_law_1957 : decode y_L_law.2.1 1957 = .ok (.iconst 4, 1) := by decide +kernel
theorem d_L_law_1958 : decode y_L_law.2.1 1958 = .ok (.iadd, 1) := by decide +kernel
theorem d_L_law_1959 : decode y_L_law.2.1 1959 = .ok (.iaload, 1) := by decide +kernel
theorem d_L_law_1960 : decode y_L_law.2.1 1960 = .ok (.invokevirtual 221, 3) := by decide +kernel
theorem d_L_law_1963 : decode y_L_law.2.1 1963 = .ok (.istore 6, 2) := by decide +kernel
theorem d_L_law_1965 : decode y_L_law.2.1 1965 = .ok (.aload_n 2, 1) := by decide +kernel
theorem d_L_law_1966 : decode y_L_law.2.1 1966 = .ok (.invokevirtual 156, 3) := by decide +kernel
theorem d_L_law_1969 : decode y_L_law.2.1 1969 = .ok (.iload 5, 2) := by decide +kernel
theorem d_L_law_1971 : decode y_L_law.2.1 1971 = .ok (.if_icmp .eq 5, 3) := by decide +kernel
theorem d_L_law_1974 : decode y_L_law.2.1 1974 = .ok (.iconst 0, 1) := by decide +kernel
theorem d_L_law_1975 : decode y_L_law.2.1 1975 = .ok (.ireturn, 1) := by decide +kernel
theorem d_L_law_1976 : decode y_L_law.2.1 1976 = .ok (.iload 5, 2) := by decide +kernel
theorem d_L_law_1978 : decode y_L_law.2.1 1978 = .ok (.ifCond .ne 15, 3) := by decide +kernel
theorem d_L_law_1981 : decode y_L_law.2.1 1981 = .ok (.aload_n 3, 1) := by decide +kernel
theorem d_L_law_1982 : decode y_L_law.2.1 1982 = .ok (.iconst 0, 1) := by decide +kernel
theorem d_L_law_1983 : decode y_L_law.2.1 1983 = .ok (.laload, 1) := by decide +kernel
theorem d_L_law_1984 : decode y_L_law.2.1 1984 = .ok (.iload 6, 2) := by decide +kernel
theorem d_L_law_1986 : decode y_L_law.2.1 1986 = .ok (.i2l, 1) := by decide +kernel
theorem d_L_law_1987 : decode y_L_law.2.1 1987 = .ok (.lcmp, 1) := by decide +kernel
theorem d_L_law_1988 : decode y_L_law.2.1 1988 = .ok (.ifCond .eq 5, 3) := by decide +kernel
theorem d_L_law_1991 : decode y_L_law.2.1 1991 = .ok (.iconst 0, 1) := by decide +kernel
theorem d_L_law_1992 : decode y_L_law.2.1 1992 = .ok (.ireturn, 1) := by decide +kernel
theorem d_L_law_1993 : decode y_L_law.2.1 1993 = .ok (.goto 1876, 3) := by decide +kernel
theorem d_L_law_1996 : decode y_L_law.2.1 1996 = .ok (.aload_n 1, 1) := by decide +kernel
theorem d_L_law_1997 : decode y_L_law.2.1 1997 = .ok (.aload_n 0, 1) := by decide +kernel
theorem d_L_law_1998 : decode y_L_law.2.1 1998 = .ok (.iload 4, 2) := by decide +kernel
theorem d_L_law_2000 : decode y_L_law.2.1 2000 = .ok (.iconst 1, 1) := by decide +kernel
theorem d_L_law_2001 : decode y_L_law.2.1 2001 = .ok (.iadd, 1) := by decide +kernel
theorem d_L_law_2002 : decode y_L_law.2.1 2002 = .ok (.iaload, 1) := by decide +kernel
theorem d_L_law_2003 : decode y_L_law.2.1 2003 = .ok (.aload_n 0, 1) := by decide +kernel
theorem d_L_law_2004 : decode y_L_law.2.1 2004 = .ok (.iload 4, 2) := by decide +kernel
theorem d_L_law_2006 : decode y_L_law.2.1 2006 = .ok (.iconst 2, 1) := by decide +kernel
theorem d_L_law_2007 : decode y_L_law.2.1 2007 = .ok (.iadd, 1) := by decide +kernel
theorem d_L_law_2008 : decode y_L_law.2.1 2008 = .ok (.iaload, 1) := by decide +kernel
theorem d_L_law_2009 : decode y_L_law.2.1 2009 = .ok (.aload_n 0, 1) := by decide +kernel
theorem d_L_law_2010 : decode y_L_law.2.1 2010 = .ok (.iload 4, 2) := by decide +kernel
theorem d_L_law_2012 : decode y_L_law.2.1 2012 = .ok (.iconst 3, 1) := by decide +kernel
theorem d_L_law_2013 : decode y_L_law.2.1 2013 = .ok (.iadd, 1) := by decide +kernel
theorem d_L_law_2014 : decode y_L_law.2.1 2014 = .ok (.iaload, 1) := by decide +kernel
theorem d_L_law_2015 : decode y_L_law.2.1 2015 = .ok (.aload_n 0, 1) := by decide +kernel
theorem d_L_law_2016 : decode y_L_law.2.1 2016 = .ok (.iload 4, 2) := by decide +kernel
theorem d_L_law_2018 : decode y_L_law.2.1 2018 = .ok (.iconst 4, 1) := by decide +kernel
theorem d_L_law_2019 : decode y_L_law.2.1 2019 = .ok (.iadd, 1) := by decide +kernel
theorem d_L_law_2020 : decode y_L_law.2.1 2020 = .ok (.iaload, 1) := by decide +kernel
theorem d_L_law_2021 : decode y_L_law.2.1 2021 = .ok (.aload_n 0, 1) := by decide +kernel
theorem d_L_law_2022 : decode y_L_law.2.1 2022 = .ok (.iload 4, 2) := by decide +kernel
theorem d_L_law_2024 : decode y_L_law.2.1 2024 = .ok (.iconst 5, 1) := by decide +kernel
theorem d_L_law_2025 : decode y_L_law.2.1 2025 = .ok (.iadd, 1) := by decide +kernel
theorem d_L_law_2026 : decode y_L_law.2.1 2026 = .ok (.iaload, 1) := by decide +kernel
theorem d_L_law_2027 : decode y_L_law.2.1 2027 = .ok (.aload_n 0, 1) := by decide +kernel
theorem d_L_law_2028 : decode y_L_law.2.1 2028 = .ok (.iload 4, 2) := by decide +kernel
theorem d_L_law_2030 : decode y_L_law.2.1 2030 = .ok (.bipush 6, 2) := by decide +kernel
theorem d_L_law_2032 : decode y_L_law.2.1 2032 = .ok (.iadd, 1) := by decide +kernel
theorem d_L_law_2033 : decode y_L_law.2.1 2033 = .ok (.iaload, 1) := by decide +kernel
theorem d_L_law_2034 : decode y_L_law.2.1 2034 = .ok (.aload_n 3, 1) := by decide +kernel
theorem d_L_law_2035 : decode y_L_law.2.1 2035 = .ok (.invokestatic 222, 3) := by decide +kernel
theorem d_L_law_2038 : decode y_L_law.2.1 2038 = .ok (.istore 5, 2) := by decide +kernel
theorem d_L_law_2040 : decode y_L_law.2.1 2040 = .ok (.aload_n 2, 1) := by decide +kernel
theorem d_L_law_2041 : decode y_L_law.2.1 2041 = .ok (.aload_n 0, 1) := by decide +kernel
theorem d_L_law_2042 : decode y_L_law.2.1 2042 = .ok (.iload 4, 2) := by decide +kernel
theorem d_L_law_2044 : decode y_L_law.2.1 2044 = .ok (.iconst 1, 1) := by decide +kernel
theorem d_L_law_2045 : decode y_L_law.2.1 2045 = .ok (.iadd, 1) := by decide +kernel
theorem d_L_law_2046 : decode y_L_law.2.1 2046 = .ok (.iaload, 1) := by decide +kernel
theorem d_L_law_2047 : decode y_L_law.2.1 2047 = .ok (.aload_n 0, 1) := by decide +kernel
theorem d_L_law_2048 : decode y_L_law.2.1 2048 = .ok (.iload 4, 2) := by decide +kernel
theorem d_L_law_2050 : decode y_L_law.2.1 2050 = .ok (.iconst 2, 1) := by decide +kernel
