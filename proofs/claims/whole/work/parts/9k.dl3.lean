/-! DECODE ROWS of the law (printed) -/
theorem dL_law__1695 : decode cL_law_ 1695 = .ok (.iconst 1, 1) := by decide +kernel
theorem dL_law__1696 : decode cL_law_ 1696 = .ok (.iadd, 1) := by decide +kernel
theorem dL_law__1697 : decode cL_law_ 1697 = .ok (.iaload, 1) := by decide +kernel
theorem dL_law__1698 : decode cL_law_ 1698 = .ok (.aload_n 0, 1) := by decide +kernel
theorem dL_law__1699 : decode cL_law_ 1699 = .ok (.iload 4, 2) := by decide +kernel
theorem dL_law__1701 : decode cL_law_ 1701 = .ok (.iconst 2, 1) := by decide +kernel
theorem dL_law__1702 : decode cL_law_ 1702 = .ok (.iadd, 1) := by decide +kernel
theorem dL_law__1703 : decode cL_law_ 1703 = .ok (.iaload, 1) := by decide +kernel
theorem dL_law__1704 : decode cL_law_ 1704 = .ok (.invokevirtual 221, 3) := by decide +kernel
theorem dL_law__1707 : decode cL_law_ 1707 = .ok (.istore 6, 2) := by decide +kernel
theorem dL_law__1709 : decode cL_law_ 1709 = .ok (.aload_n 2, 1) := by decide +kernel
theorem dL_law__1710 : decode cL_law_ 1710 = .ok (.invokevirtual 151, 3) := by decide +kernel
theorem dL_law__1713 : decode cL_law_ 1713 = .ok (.iload 5, 2) := by decide +kernel
theorem dL_law__1715 : decode cL_law_ 1715 = .ok (.if_icmp .eq 5, 3) := by decide +kernel
theorem dL_law__1718 : decode cL_law_ 1718 = .ok (.iconst 0, 1) := by decide +kernel
theorem dL_law__1719 : decode cL_law_ 1719 = .ok (.ireturn, 1) := by decide +kernel
theorem dL_law__1720 : decode cL_law_ 1720 = .ok (.iload 5, 2) := by decide +kernel
theorem dL_law__1722 : decode cL_law_ 1722 = .ok (.ifCond .ne 15, 3) := by decide +kernel
theorem dL_law__1725 : decode cL_law_ 1725 = .ok (.aload_n 3, 1) := by decide +kernel
theorem dL_law__1726 : decode cL_law_ 1726 = .ok (.iconst 0, 1) := by decide +kernel
theorem dL_law__1727 : decode cL_law_ 1727 = .ok (.laload, 1) := by decide +kernel
theorem dL_law__1728 : decode cL_law_ 1728 = .ok (.iload 6, 2) := by decide +kernel
theorem dL_law__1730 : decode cL_law_ 1730 = .ok (.i2l, 1) := by decide +kernel
theorem dL_law__1731 : decode cL_law_ 1731 = .ok (.lcmp, 1) := by decide +kernel
theorem dL_law__1732 : decode cL_law_ 1732 = .ok (.ifCond .eq 5, 3) := by decide +kernel
theorem dL_law__1735 : decode cL_law_ 1735 = .ok (.iconst 0, 1) := by decide +kernel
theorem dL_law__1736 : decode cL_law_ 1736 = .ok (.ireturn, 1) := by decide +kernel
theorem dL_law__1737 : decode cL_law_ 1737 = .ok (.goto 1401, 3) := by decide +kernel
theorem dL_law__1740 : decode cL_law_ 1740 = .ok (.aload_n 1, 1) := by decide +kernel
theorem dL_law__1741 : decode cL_law_ 1741 = .ok (.aload_n 0, 1) := by decide +kernel
theorem dL_law__1742 : decode cL_law_ 1742 = .ok (.iload 4, 2) := by decide +kernel
theorem dL_law__1744 : decode cL_law_ 1744 = .ok (.iconst 1, 1) := by decide +kernel
theorem dL_law__1745 : decode cL_law_ 1745 = .ok (.iadd, 1) := by decide +kernel
theorem dL_law__1746 : decode cL_law_ 1746 = .ok (.iaload, 1) := by decide +kernel
theorem dL_law__1747 : decode cL_law_ 1747 = .ok (.aload_n 0, 1) := by decide +kernel
theorem dL_law__1748 : decode cL_law_ 1748 = .ok (.iload 4, 2) := by decide +kernel
theorem dL_law__1750 : decode cL_law_ 1750 = .ok (.iconst 2, 1) := by decide +kernel
theorem dL_law__1751 : decode cL_law_ 1751 = .ok (.iadd, 1) := by decide +kernel
theorem dL_law__1752 : decode cL_law_ 1752 = .ok (.iaload, 1) := by decide +kernel
theorem dL_law__1753 : decode cL_law_ 1753 = .ok (.aload_n 3, 1) := by decide +kernel
theorem dL_law__1754 : decode cL_law_ 1754 = .ok (.invokestatic 222, 3) := by decide +kernel
theorem dL_law__1757 : decode cL_law_ 1757 = .ok (.istore 5, 2) := by decide +kernel
theorem dL_law__1759 : decode cL_law_ 1759 = .ok (.aload_n 2, 1) := by decide +kernel
theorem dL_law__1760 : decode cL_law_ 1760 = .ok (.aload_n 0, 1) := by decide +kernel
theorem dL_law__1761 : decode cL_law_ 1761 = .ok (.iload 4, 2) := by decide +kernel
theorem dL_law__1763 : decode cL_law_ 1763 = .ok (.iconst 1, 1) := by decide +kernel
theorem dL_law__1764 : decode cL_law_ 1764 = .ok (.iadd, 1) := by decide +kernel
theorem dL_law__1765 : decode cL_law_ 1765 = .ok (.iaload, 1) := by decide +kernel
theorem dL_law__1766 : decode cL_law_ 1766 = .ok (.aload_n 0, 1) := by decide +kernel
theorem dL_law__1767 : decode cL_law_ 1767 = .ok (.iload 4, 2) := by decide +kernel
theorem dL_law__1769 : decode cL_law_ 1769 = .ok (.iconst 2, 1) := by decide +kernel
theorem dL_law__1770 : decode cL_law_ 1770 = .ok (.iadd, 1) := by decide +kernel
theorem dL_law__1771 : decode cL_law_ 1771 = .ok (.iaload, 1) := by decide +kernel
theorem dL_law__1772 : decode cL_law_ 1772 = .ok (.invokevirtual 224, 3) := by decide +kernel
theorem dL_law__1775 : decode cL_law_ 1775 = .ok (.istore 6, 2) := by decide +kernel
theorem dL_law__1777 : decode cL_law_ 1777 = .ok (.aload_n 2, 1) := by decide +kernel
theorem dL_law__1778 : decode cL_law_ 1778 = .ok (.invokevirtual 151, 3) := by decide +kernel
theorem dL_law__1781 : decode cL_law_ 1781 = .ok (.iload 5, 2) := by decide +kernel
theorem dL_law__1783 : decode cL_law_ 1783 = .ok (.if_icmp .eq 5, 3) := by decide +kernel
theorem dL_law__1786 : decode cL_law_ 1786 = .ok (.iconst 0, 1) := by decide +kernel
theorem dL_law__1787 : decode cL_law_ 1787 = .ok (.ireturn, 1) := by decide +kernel
theorem dL_law__1788 : decode cL_law_ 1788 = .ok (.iload 5, 2) := by decide +kernel
theorem dL_law__1790 : decode cL_law_ 1790 = .ok (.ifCond .ne 15, 3) := by decide +kernel
theorem dL_law__1793 : decode cL_law_ 1793 = .ok (.aload_n 3, 1) := by decide +kernel
theorem dL_law__1794 : decode cL_law_ 1794 = .ok (.iconst 0, 1) := by decide +kernel
theorem dL_law__1795 : decode cL_law_ 1795 = .ok (.laload, 1) := by decide +kernel
theorem dL_law__1796 : decode cL_law_ 1796 = .ok (.iload 6, 2) := by decide +kernel
theorem dL_law__1798 : decode cL_law_ 1798 = .ok (.i2l, 1) := by decide +kernel
theorem dL_law__1799 : decode cL_law_ 1799 = .ok (.lcmp, 1) := by decide +kernel
theorem dL_law__1800 : decode cL_law_ 1800 = .ok (.ifCond .eq 5, 3) := by decide +kernel
theorem dL_law__1803 : decode cL_law_ 1803 = .ok (.iconst 0, 1) := by decide +kernel
theorem dL_law__1804 : decode cL_law_ 1804 = .ok (.ireturn, 1) := by decide +kernel
theorem dL_law__1805 : decode cL_law_ 1805 = .ok (.goto 1333, 3) := by decide +kernel
theorem dL_law__1808 : decode cL_law_ 1808 = .ok (.aload_n 1, 1) := by decide +kernel
theorem dL_law__1809 : decode cL_law_ 1809 = .ok (.invokevirtual 225, 3) := by decide +kernel
theorem dL_law__1812 : decode cL_law_ 1812 = .ok (.aload_n 2, 1) := by decide +kernel
theorem dL_law__1813 : decode cL_law_ 1813 = .ok (.invokevirtual 228, 3) := by decide +kernel
theorem dL_law__1816 : decode cL_law_ 1816 = .ok (.if_icmp .eq 1322, 3) := by decide +kernel
theorem dL_law__1819 : decode cL_law_ 1819 = .ok (.iconst 0, 1) := by decide +kernel
theorem dL_law__1820 : decode cL_law_ 1820 = .ok (.ireturn, 1) := by decide +kernel
theorem dL_law__1821 : decode cL_law_ 1821 = .ok (.aload_n 1, 1) := by decide +kernel
theorem dL_law__1822 : decode cL_law_ 1822 = .ok (.invokevirtual 229, 3) := by decide +kernel
theorem dL_law__1825 : decode cL_law_ 1825 = .ok (.aload_n 2, 1) := by decide +kernel
theorem dL_law__1826 : decode cL_law_ 1826 = .ok (.invokevirtual 232, 3) := by decide +kernel
theorem dL_law__1829 : decode cL_law_ 1829 = .ok (.if_icmp .eq 1309, 3) := by decide +kernel
theorem dL_law__1832 : decode cL_law_ 1832 = .ok (.iconst 0, 1) := by decide +kernel
theorem dL_law__1833 : decode cL_law_ 1833 = .ok (.ireturn, 1) := by decide +kernel
theorem dL_law__1834 : decode cL_law_ 1834 = .ok (.aload_n 1, 1) := by decide +kernel
theorem dL_law__1835 : decode cL_law_ 1835 = .ok (.aload_n 0, 1) := by decide +kernel
theorem dL_law__1836 : decode cL_law_ 1836 = .ok (.iload 4, 2) := by decide +kernel
theorem dL_law__1838 : decode cL_law_ 1838 = .ok (.iconst 1, 1) := by decide +kernel
theorem dL_law__1839 : decode cL_law_ 1839 = .ok (.iadd, 1) := by decide +kernel
theorem dL_law__1840 : decode cL_law_ 1840 = .ok (.iaload, 1) := by decide +kernel
theorem dL_law__1841 : decode cL_law_ 1841 = .ok (.aload_n 0, 1) := by decide +kernel
theorem dL_law__1842 : decode cL_law_ 1842 = .ok (.iload 4, 2) := by decide +kernel
theorem dL_law__1844 : decode cL_law_ 1844 = .ok (.iconst 2, 1) := by decide +kernel
theorem dL_law__1845 : decode cL_law_ 1845 = .ok (.iadd, 1) := by decide +kernel
theorem dL_law__1846 : decode cL_law_ 1846 = .ok (.iaload, 1) := by decide +kernel
theorem dL_law__1847 : decode cL_law_ 1847 = .ok (.aload_n 3, 1) := by decide +kernel
theorem dL_law__1848 : decode cL_law_ 1848 = .ok (.invokestatic 233, 3) := by decide +kernel
theorem dL_law__1851 : decode cL_law_ 1851 = .ok (.istore 5, 2) := by decide +kernel
theorem dL_law__1853 : decode cL_law_ 1853 = .ok (.aload_n 2, 1) := by decide +kernel
theorem dL_law__1854 : decode cL_law_ 1854 = .ok (.aload_n 0, 1) := by decide +kernel
theorem dL_law__1855 : decode cL_law_ 1855 = .ok (.iload 4, 2) := by decide +kernel
theorem dL_law__1857 : decode cL_law_ 1857 = .ok (.iconst 1, 1) := by decide +kernel
theorem dL_law__1858 : decode cL_law_ 1858 = .ok (.iadd, 1) := by decide +kernel
theorem dL_law__1859 : decode cL_law_ 1859 = .ok (.iaload, 1) := by decide +kernel
theorem dL_law__1860 : decode cL_law_ 1860 = .ok (.aload_n 0, 1) := by decide +kernel
theorem dL_law__1861 : decode cL_law_ 1861 = .ok (.iload 4, 2) := by decide +kernel
theorem dL_law__1863 : decode cL_law_ 1863 = .ok (.iconst 2, 1) := by decide +kernel
theorem dL_law__1864 : decode cL_law_ 1864 = .ok (.iadd, 1) := by decide +kernel
theorem dL_law__1865 : decode cL_law_ 1865 = .ok (.iaload, 1) := by decide +kernel
theorem dL_law__1866 : decode cL_law_ 1866 = .ok (.invokevirtual 235, 3) := by decide +kernel
theorem dL_law__1869 : decode cL_law_ 1869 = .ok (.istore 6, 2) := by decide +kernel
theorem dL_law__1871 : decode cL_law_ 1871 = .ok (.aload_n 2, 1) := by decide +kernel
theorem dL_law__1872 : decode cL_law_ 1872 = .ok (.invokevirtual 151, 3) := by decide +kernel
theorem dL_law__1875 : decode cL_law_ 1875 = .ok (.iload 5, 2) := by decide +kernel
theorem dL_law__1877 : decode cL_law_ 1877 = .ok (.if_icmp .eq 5, 3) := by decide +kernel
theorem dL_law__1880 : decode cL_law_ 1880 = .ok (.iconst 0, 1) := by decide +kernel
theorem dL_law__1881 : decode cL_law_ 1881 = .ok (.ireturn, 1) := by decide +kernel
theorem dL_law__1882 : decode cL_law_ 1882 = .ok (.iload 5, 2) := by decide +kernel
theorem dL_law__1884 : decode cL_law_ 1884 = .ok (.ifCond .ne 15, 3) := by decide +kernel
theorem dL_law__1887 : decode cL_law_ 1887 = .ok (.aload_n 3, 1) := by decide +kernel
theorem dL_law__1888 : decode cL_law_ 1888 = .ok (.iconst 0, 1) := by decide +kernel
theorem dL_law__1889 : decode cL_law_ 1889 = .ok (.laload, 1) := by decide +kernel
theorem dL_law__1890 : decode cL_law_ 1890 = .ok (.iload 6, 2) := by decide +kernel
theorem dL_law__1892 : decode cL_law_ 1892 = .ok (.i2l, 1) := by decide +kernel
theorem dL_law__1893 : decode cL_law_ 1893 = .ok (.lcmp, 1) := by decide +kernel
theorem dL_law__1894 : decode cL_law_ 1894 = .ok (.ifCond .eq 5, 3) := by decide +kernel
theorem dL_law__1897 : decode cL_law_ 1897 = .ok (.iconst 0, 1) := by decide +kernel
theorem dL_law__1898 : decode cL_law_ 1898 = .ok (.ireturn, 1) := by decide +kernel
theorem dL_law__1899 : decode cL_law_ 1899 = .ok (.goto 1239, 3) := by decide +kernel
theorem dL_law__1902 : decode cL_law_ 1902 = .ok (.aload_n 1, 1) := by decide +kernel
theorem dL_law__1903 : decode cL_law_ 1903 = .ok (.aload_n 0, 1) := by decide +kernel
theorem dL_law__1904 : decode cL_law_ 1904 = .ok (.iload 4, 2) := by decide +kernel
theorem dL_law__1906 : decode cL_law_ 1906 = .ok (.iconst 1, 1) := by decide +kernel
theorem dL_law__1907 : decode cL_law_ 1907 = .ok (.iadd, 1) := by decide +kernel
theorem dL_law__1908 : decode cL_law_ 1908 = .ok (.iaload, 1) := by decide +kernel
theorem dL_law__1909 : decode cL_law_ 1909 = .ok (.aload_n 0, 1) := by decide +kernel
theorem dL_law__1910 : decode cL_law_ 1910 = .ok (.iload 4, 2) := by decide +kernel
theorem dL_law__1912 : decode cL_law_ 1912 = .ok (.iconst 2, 1) := by decide +kernel
theorem dL_law__1913 : decode cL_law_ 1913 = .ok (.iadd, 1) := by decide +kernel
theorem dL_law__1914 : decode cL_law_ 1914 = .ok (.iaload, 1) := by decide +kernel
theorem dL_law__1915 : decode cL_law_ 1915 = .ok (.aload_n 3, 1) := by decide +kernel
theorem dL_law__1916 : decode cL_law_ 1916 = .ok (.invokestatic 236, 3) := by decide +kernel
theorem dL_law__1919 : decode cL_law_ 1919 = .ok (.istore 5, 2) := by decide +kernel
theorem dL_law__1921 : decode cL_law_ 1921 = .ok (.aload_n 2, 1) := by decide +kernel
theorem dL_law__1922 : decode cL_law_ 1922 = .ok (.aload_n 0, 1) := by decide +kernel
theorem dL_law__1923 : decode cL_law_ 1923 = .ok (.iload 4, 2) := by decide +kernel
theorem dL_law__1925 : decode cL_law_ 1925 = .ok (.iconst 1, 1) := by decide +kernel
theorem dL_law__1926 : decode cL_law_ 1926 = .ok (.iadd, 1) := by decide +kernel
theorem dL_law__1927 : decode cL_law_ 1927 = .ok (.iaload, 1) := by decide +kernel
theorem dL_law__1928 : decode cL_law_ 1928 = .ok (.aload_n 0, 1) := by decide +kernel
theorem dL_law__1929 : decode cL_law_ 1929 = .ok (.iload 4, 2) := by decide +kernel
theorem dL_law__1931 : decode cL_law_ 1931 = .ok (.iconst 2, 1) := by decide +kernel
theorem dL_law__1932 : decode cL_law_ 1932 = .ok (.iadd, 1) := by decide +kernel
theorem dL_law__1933 : decode cL_law_ 1933 = .ok (.iaload, 1) := by decide +kernel
theorem dL_law__1934 : decode cL_law_ 1934 = .ok (.invokevirtual 238, 3) := by decide +kernel
theorem dL_law__1937 : decode cL_law_ 1937 = .ok (.istore 6, 2) := by decide +kernel
theorem dL_law__1939 : decode cL_law_ 1939 = .ok (.aload_n 2, 1) := by decide +kernel
theorem dL_law__1940 : decode cL_law_ 1940 = .ok (.invokevirtual 151, 3) := by decide +kernel
theorem dL_law__1943 : decode cL_law_ 1943 = .ok (.iload 5, 2) := by decide +kernel
theorem dL_law__1945 : decode cL_law_ 1945 = .ok (.if_icmp .eq 5, 3) := by decide +kernel
theorem dL_law__1948 : decode cL_law_ 1948 = .ok (.iconst 0, 1) := by decide +kernel
theorem dL_law__1949 : decode cL_law_ 1949 = .ok (.ireturn, 1) := by decide +kernel
theorem dL_law__1950 : decode cL_law_ 1950 = .ok (.iload 5, 2) := by decide +kernel
theorem dL_law__1952 : decode cL_law_ 1952 = .ok (.ifCond .ne 15, 3) := by decide +kernel
theorem dL_law__1955 : decode cL_law_ 1955 = .ok (.aload_n 3, 1) := by decide +kernel
theorem dL_law__1956 : decode cL_law_ 1956 = .ok (.iconst 0, 1) := by decide +kernel
theorem dL_law__1957 : decode cL_law_ 1957 = .ok (.laload, 1) := by decide +kernel
theorem dL_law__1958 : decode cL_law_ 1958 = .ok (.iload 6, 2) := by decide +kernel
theorem dL_law__1960 : decode cL_law_ 1960 = .ok (.i2l, 1) := by decide +kernel
theorem dL_law__1961 : decode cL_law_ 1961 = .ok (.lcmp, 1) := by decide +kernel
theorem dL_law__1962 : decode cL_law_ 1962 = .ok (.ifCond .eq 5, 3) := by decide +kernel
theorem dL_law__1965 : decode cL_law_ 1965 = .ok (.iconst 0, 1) := by decide +kernel
theorem dL_law__1966 : decode cL_law_ 1966 = .ok (.ireturn, 1) := by decide +kernel
theorem dL_law__1967 : decode cL_law_ 1967 = .ok (.goto 1171, 3) := by decide +kernel
theorem dL_law__1970 : decode cL_law_ 1970 = .ok (.aload_n 1, 1) := by decide +kernel
theorem dL_law__1971 : decode cL_law_ 1971 = .ok (.invokevirtual 239, 3) := by decide +kernel
theorem dL_law__1974 : decode cL_law_ 1974 = .ok (.aload_n 2, 1) := by decide +kernel
theorem dL_law__1975 : decode cL_law_ 1975 = .ok (.invokevirtual 242, 3) := by decide +kernel
theorem dL_law__1978 : decode cL_law_ 1978 = .ok (.if_icmp .eq 1160, 3) := by decide +kernel
theorem dL_law__1981 : decode cL_law_ 1981 = .ok (.iconst 0, 1) := by decide +kernel
theorem dL_law__1982 : decode cL_law_ 1982 = .ok (.ireturn, 1) := by decide +kernel
theorem dL_law__1983 : decode cL_law_ 1983 = .ok (.aload_n 1, 1) := by decide +kernel
theorem dL_law__1984 : decode cL_law_ 1984 = .ok (.aload_n 0, 1) := by decide +kernel
theorem dL_law__1985 : decode cL_law_ 1985 = .ok (.iload 4, 2) := by decide +kernel
theorem dL_law__1987 : decode cL_law_ 1987 = .ok (.iconst 1, 1) := by decide +kernel
theorem dL_law__1988 : decode cL_law_ 1988 = .ok (.iadd, 1) := by decide +kernel
theorem dL_law__1989 : decode cL_law_ 1989 = .ok (.iaload, 1) := by decide +kernel
theorem dL_law__1990 : decode cL_law_ 1990 = .ok (.aload_n 0, 1) := by decide +kernel
theorem dL_law__1991 : decode cL_law_ 1991 = .ok (.iload 4, 2) := by decide +kernel
theorem dL_law__1993 : decode cL_law_ 1993 = .ok (.iconst 2, 1) := by decide +kernel
theorem dL_law__1994 : decode cL_law_ 1994 = .ok (.iadd, 1) := by decide +kernel
theorem dL_law__1995 : decode cL_law_ 1995 = .ok (.iaload, 1) := by decide +kernel
theorem dL_law__1996 : decode cL_law_ 1996 = .ok (.aload_n 0, 1) := by decide +kernel
theorem dL_law__1997 : decode cL_law_ 1997 = .ok (.iload 4, 2) := by decide +kernel
theorem dL_law__1999 : decode cL_law_ 1999 = .ok (.iconst 3, 1) := by decide +kernel
theorem dL_law__2000 : decode cL_law_ 2000 = .ok (.iadd, 1) := by decide +kernel
theorem dL_law__2001 : decode cL_law_ 2001 = .ok (.iaload, 1) := by decide +kernel
theorem dL_law__2002 : decode cL_law_ 2002 = .ok (.aload_n 0, 1) := by decide +kernel
theorem dL_law__2003 : decode cL_law_ 2003 = .ok (.iload 4, 2) := by decide +kernel
theorem dL_law__2005 : decode cL_law_ 2005 = .ok (.iconst 4, 1) := by decide +kernel
theorem dL_law__2006 : decode cL_law_ 2006 = .ok (.iadd, 1) := by decide +kernel
theorem dL_law__2007 : decode cL_law_ 2007 = .ok (.iaload, 1) := by decide +kernel
theorem dL_law__2008 : decode cL_law_ 2008 = .ok (.aload_n 3, 1) := by decide +kernel
theorem dL_law__2009 : decode cL_law_ 2009 = .ok (.invokestatic 243, 3) := by decide +kernel
theorem dL_law__2012 : decode cL_law_ 2012 = .ok (.istore 5, 2) := by decide +kernel
theorem dL_law__2014 : decode cL_law_ 2014 = .ok (.aload_n 2, 1) := by decide +kernel
theorem dL_law__2015 : decode cL_law_ 2015 = .ok (.aload_n 0, 1) := by decide +kernel
theorem dL_law__2016 : decode cL_law_ 2016 = .ok (.iload 4, 2) := by decide +kernel
theorem dL_law__2018 : decode cL_law_ 2018 = .ok (.iconst 1, 1) := by decide +kernel
theorem dL_law__2019 : decode cL_law_ 2019 = .ok (.iadd, 1) := by decide +kernel
theorem dL_law__2020 : decode cL_law_ 2020 = .ok (.iaload, 1) := by decide +kernel
theorem dL_law__2021 : decode cL_law_ 2021 = .ok (.aload_n 0, 1) := by decide +kernel
theorem dL_law__2022 : decode cL_law_ 2022 = .ok (.iload 4, 2) := by decide +kernel
theorem dL_law__2024 : decode cL_law_ 2024 = .ok (.iconst 2, 1) := by decide +kernel
theorem dL_law__2025 : decode cL_law_ 2025 = .ok (.iadd, 1) := by decide +kernel
theorem dL_law__2026 : decode cL_law_ 2026 = .ok (.iaload, 1) := by decide +kernel
theorem dL_law__2027 : decode cL_law_ 2027 = .ok (.aload_n 0, 1) := by decide +kernel
theorem dL_law__2028 : decode cL_law_ 2028 = .ok (.iload 4, 2) := by decide +kernel
theorem dL_law__2030 : decode cL_law_ 2030 = .ok (.iconst 3, 1) := by decide +kernel
theorem dL_law__2031 : decode cL_law_ 2031 = .ok (.iadd, 1) := by decide +kernel
theorem dL_law__2032 : decode cL_law_ 2032 = .ok (.iaload, 1) := by decide +kernel
theorem dL_law__2033 : decode cL_law_ 2033 = .ok (.aload_n 0, 1) := by decide +kernel
theorem dL_law__2034 : decode cL_law_ 2034 = .ok (.iload 4, 2) := by decide +kernel
theorem dL_law__2036 : decode cL_law_ 2036 = .ok (.iconst 4, 1) := by decide +kernel
theorem dL_law__2037 : decode cL_law_ 2037 = .ok (.iadd, 1) := by decide +kernel
theorem dL_law__2038 : decode cL_law_ 2038 = .ok (.iaload, 1) := by decide +kernel
theorem dL_law__2039 : decode cL_law_ 2039 = .ok (.invokevirtual 246, 3) := by decide +kernel
theorem dL_law__2042 : decode cL_law_ 2042 = .ok (.istore 6, 2) := by decide +kernel
theorem dL_law__2044 : decode cL_law_ 2044 = .ok (.aload_n 2, 1) := by decide +kernel
theorem dL_law__2045 : decode cL_law_ 2045 = .ok (.invokevirtual 151, 3) := by decide +kernel
theorem dL_law__2048 : decode cL_law_ 2048 = .ok (.iload 5, 2) := by decide +kernel
theorem dL_law__2050 : decode cL_law_ 2050 = .ok (.if_icmp .eq 5, 3) := by decide +kernel
theorem dL_law__2053 : decode cL_law_ 2053 = .ok (.iconst 0, 1) := by decide +kernel
theorem dL_law__2054 : decode cL_law_ 2054 = .ok (.ireturn, 1) := by decide +kernel
theorem dL_law__2055 : decode cL_law_ 2055 = .ok (.iload 5, 2) := by decide +kernel
theorem dL_law__2057 : decode cL_law_ 2057 = .ok (.ifCond .ne 15, 3) := by decide +kernel
theorem dL_law__2060 : decode cL_law_ 2060 = .ok (.aload_n 3, 1) := by decide +kernel
theorem dL_law__2061 : decode cL_law_ 2061 = .ok (.iconst 0, 1) := by decide +kernel
theorem dL_law__2062 : decode cL_law_ 2062 = .ok (.laload, 1) := by decide +kernel
theorem dL_law__2063 : decode cL_law_ 2063 = .ok (.iload 6, 2) := by decide +kernel
theorem dL_law__2065 : decode cL_law_ 2065 = .ok (.i2l, 1) := by decide +kernel
theorem dL_law__2066 : decode cL_law_ 2066 = .ok (.lcmp, 1) := by decide +kernel
theorem dL_law__2067 : decode cL_law_ 2067 = .ok (.ifCond .eq 5, 3) := by decide +kernel
theorem dL_law__2070 : decode cL_law_ 2070 = .ok (.iconst 0, 1) := by decide +kernel
theorem dL_law__2071 : decode cL_law_ 2071 = .ok (.ireturn, 1) := by decide +kernel
theorem dL_law__2072 : decode cL_law_ 2072 = .ok (.goto 1066, 3) := by decide +kernel
theorem dL_law__2075 : decode cL_law_ 2075 = .ok (.aload_n 1, 1) := by decide +kernel
theorem dL_law__2076 : decode cL_law_ 2076 = .ok (.aload_n 0, 1) := by decide +kernel
theorem dL_law__2077 : decode cL_law_ 2077 = .ok (.iload 4, 2) := by decide +kernel
theorem dL_law__2079 : decode cL_law_ 2079 = .ok (.iconst 1, 1) := by decide +kernel
theorem dL_law__2080 : decode cL_law_ 2080 = .ok (.iadd, 1) := by decide +kernel
theorem dL_law__2081 : decode cL_law_ 2081 = .ok (.iaload, 1) := by decide +kernel
theorem dL_law__2082 : decode cL_law_ 2082 = .ok (.aload_n 0, 1) := by decide +kernel
theorem dL_law__2083 : decode cL_law_ 2083 = .ok (.iload 4, 2) := by decide +kernel
theorem dL_law__2085 : decode cL_law_ 2085 = .ok (.iconst 2, 1) := by decide +kernel
theorem dL_law__2086 : decode cL_law_ 2086 = .ok (.iadd, 1) := by decide +kernel
theorem dL_law__2087 : decode cL_law_ 2087 = .ok (.iaload, 1) := by decide +kernel
theorem dL_law__2088 : decode cL_law_ 2088 = .ok (.aload_n 0, 1) := by decide +kernel
theorem dL_law__2089 : decode cL_law_ 2089 = .ok (.iload 4, 2) := by decide +kernel
theorem dL_law__2091 : decode cL_law_ 2091 = .ok (.iconst 3, 1) := by decide +kernel
theorem dL_law__2092 : decode cL_law_ 2092 = .ok (.iadd, 1) := by decide +kernel
theorem dL_law__2093 : decode cL_law_ 2093 = .ok (.iaload, 1) := by decide +kernel
theorem dL_law__2094 : decode cL_law_ 2094 = .ok (.aload_n 0, 1) := by decide +kernel
theorem dL_law__2095 : decode cL_law_ 2095 = .ok (.iload 4, 2) := by decide +kernel
theorem dL_law__2097 : decode cL_law_ 2097 = .ok (.iconst 4, 1) := by decide +kernel
theorem dL_law__2098 : decode cL_law_ 2098 = .ok (.iadd, 1) := by decide +kernel
theorem dL_law__2099 : decode cL_law_ 2099 = .ok (.iaload, 1) := by decide +kernel
theorem dL_law__2100 : decode cL_law_ 2100 = .ok (.aload_n 3, 1) := by decide +kernel
theorem dL_law__2101 : decode cL_law_ 2101 = .ok (.invokestatic 247, 3) := by decide +kernel
theorem dL_law__2104 : decode cL_law_ 2104 = .ok (.istore 5, 2) := by decide +kernel
theorem dL_law__2106 : decode cL_law_ 2106 = .ok (.aload_n 2, 1) := by decide +kernel
theorem dL_law__2107 : decode cL_law_ 2107 = .ok (.aload_n 0, 1) := by decide +kernel
theorem dL_law__2108 : decode cL_law_ 2108 = .ok (.iload 4, 2) := by decide +kernel
theorem dL_law__2110 : decode cL_law_ 2110 = .ok (.iconst 1, 1) := by decide +kernel
theorem dL_law__2111 : decode cL_law_ 2111 = .ok (.iadd, 1) := by decide +kernel
theorem dL_law__2112 : decode cL_law_ 2112 = .ok (.iaload, 1) := by decide +kernel
theorem dL_law__2113 : decode cL_law_ 2113 = .ok (.aload_n 0, 1) := by decide +kernel
theorem dL_law__2114 : decode cL_law_ 2114 = .ok (.iload 4, 2) := by decide +kernel
theorem dL_law__2116 : decode cL_law_ 2116 = .ok (.iconst 2, 1) := by decide +kernel
theorem dL_law__2117 : decode cL_law_ 2117 = .ok (.iadd, 1) := by decide +kernel
theorem dL_law__2118 : decode cL_law_ 2118 = .ok (.iaload, 1) := by decide +kernel
theorem dL_law__2119 : decode cL_law_ 2119 = .ok (.aload_n 0, 1) := by decide +kernel
theorem dL_law__2120 : decode cL_law_ 2120 = .ok (.iload 4, 2) := by decide +kernel
theorem dL_law__2122 : decode cL_law_ 2122 = .ok (.iconst 3, 1) := by decide +kernel
theorem dL_law__2123 : decode cL_law_ 2123 = .ok (.iadd, 1) := by decide +kernel
theorem dL_law__2124 : decode cL_law_ 2124 = .ok (.iaload, 1) := by decide +kernel
theorem dL_law__2125 : decode cL_law_ 2125 = .ok (.aload_n 0, 1) := by decide +kernel
theorem dL_law__2126 : decode cL_law_ 2126 = .ok (.iload 4, 2) := by decide +kernel
theorem dL_law__2128 : decode cL_law_ 2128 = .ok (.iconst 4, 1) := by decide +kernel
theorem dL_law__2129 : decode cL_law_ 2129 = .ok (.iadd, 1) := by decide +kernel
theorem dL_law__2130 : decode cL_law_ 2130 = .ok (.iaload, 1) := by decide +kernel
theorem dL_law__2131 : decode cL_law_ 2131 = .ok (.invokevirtual 249, 3) := by decide +kernel
theorem dL_law__2134 : decode cL_law_ 2134 = .ok (.istore 6, 2) := by decide +kernel
theorem dL_law__2136 : decode cL_law_ 2136 = .ok (.aload_n 2, 1) := by decide +kernel
theorem dL_law__2137 : decode cL_law_ 2137 = .ok (.invokevirtual 151, 3) := by decide +kernel
theorem dL_law__2140 : decode cL_law_ 2140 = .ok (.iload 5, 2) := by decide +kernel
theorem dL_law__2142 : decode cL_law_ 2142 = .ok (.if_icmp .eq 5, 3) := by decide +kernel
theorem dL_law__2145 : decode cL_law_ 2145 = .ok (.iconst 0, 1) := by decide +kernel
theorem dL_law__2146 : decode cL_law_ 2146 = .ok (.ireturn, 1) := by decide +kernel
theorem dL_law__2147 : decode cL_law_ 2147 = .ok (.iload 5, 2) := by decide +kernel
theorem dL_law__2149 : decode cL_law_ 2149 = .ok (.ifCond .ne 15, 3) := by decide +kernel
theorem dL_law__2152 : decode cL_law_ 2152 = .ok (.aload_n 3, 1) := by decide +kernel
theorem dL_law__2153 : decode cL_law_ 2153 = .ok (.iconst 0, 1) := by decide +kernel
theorem dL_law__2154 : decode cL_law_ 2154 = .ok (.laload, 1) := by decide +kernel
theorem dL_law__2155 : decode cL_law_ 2155 = .ok (.iload 6, 2) := by decide +kernel
theorem dL_law__2157 : decode cL_law_ 2157 = .ok (.i2l, 1) := by decide +kernel
theorem dL_law__2158 : decode cL_law_ 2158 = .ok (.lcmp, 1) := by decide +kernel
theorem dL_law__2159 : decode cL_law_ 2159 = .ok (.ifCond .eq 5, 3) := by decide +kernel
theorem dL_law__2162 : decode cL_law_ 2162 = .ok (.iconst 0, 1) := by decide +kernel
theorem dL_law__2163 : decode cL_law_ 2163 = .ok (.ireturn, 1) := by decide +kernel
theorem dL_law__2164 : decode cL_law_ 2164 = .ok (.goto 974, 3) := by decide +kernel
theorem dL_law__2167 : decode cL_law_ 2167 = .ok (.aload_n 1, 1) := by decide +kernel
theorem dL_law__2168 : decode cL_law_ 2168 = .ok (.aload_n 0, 1) := by decide +kernel
theorem dL_law__2169 : decode cL_law_ 2169 = .ok (.iload 4, 2) := by decide +kernel
theorem dL_law__2171 : decode cL_law_ 2171 = .ok (.iconst 1, 1) := by decide +kernel
theorem dL_law__2172 : decode cL_law_ 2172 = .ok (.iadd, 1) := by decide +kernel
theorem dL_law__2173 : decode cL_law_ 2173 = .ok (.iaload, 1) := by decide +kernel
theorem dL_law__2174 : decode cL_law_ 2174 = .ok (.aload_n 0, 1) := by decide +kernel
theorem dL_law__2175 : decode cL_law_ 2175 = .ok (.iload 4, 2) := by decide +kernel
theorem dL_law__2177 : decode cL_law_ 2177 = .ok (.iconst 2, 1) := by decide +kernel
theorem dL_law__2178 : decode cL_law_ 2178 = .ok (.iadd, 1) := by decide +kernel
theorem dL_law__2179 : decode cL_law_ 2179 = .ok (.iaload, 1) := by decide +kernel
theorem dL_law__2180 : decode cL_law_ 2180 = .ok (.aload_n 0, 1) := by decide +kernel
theorem dL_law__2181 : decode cL_law_ 2181 = .ok (.iload 4, 2) := by decide +kernel
theorem dL_law__2183 : decode cL_law_ 2183 = .ok (.iconst 3, 1) := by decide +kernel
theorem dL_law__2184 : decode cL_law_ 2184 = .ok (.iadd, 1) := by decide +kernel
theorem dL_law__2185 : decode cL_law_ 2185 = .ok (.iaload, 1) := by decide +kernel
theorem dL_law__2186 : decode cL_law_ 2186 = .ok (.aload_n 3, 1) := by decide +kernel
theorem dL_law__2187 : decode cL_law_ 2187 = .ok (.invokestatic 250, 3) := by decide +kernel
theorem dL_law__2190 : decode cL_law_ 2190 = .ok (.istore 5, 2) := by decide +kernel
theorem dL_law__2192 : decode cL_law_ 2192 = .ok (.aload_n 2, 1) := by decide +kernel
theorem dL_law__2193 : decode cL_law_ 2193 = .ok (.aload_n 0, 1) := by decide +kernel
theorem dL_law__2194 : decode cL_law_ 2194 = .ok (.iload 4, 2) := by decide +kernel
theorem dL_law__2196 : decode cL_law_ 2196 = .ok (.iconst 1, 1) := by decide +kernel
theorem dL_law__2197 : decode cL_law_ 2197 = .ok (.iadd, 1) := by decide +kernel
theorem dL_law__2198 : decode cL_law_ 2198 = .ok (.iaload, 1) := by decide +kernel
theorem dL_law__2199 : decode cL_law_ 2199 = .ok (.aload_n 0, 1) := by decide +kernel
theorem dL_law__2200 : decode cL_law_ 2200 = .ok (.iload 4, 2) := by decide +kernel
theorem dL_law__2202 : decode cL_law_ 2202 = .ok (.iconst 2, 1) := by decide +kernel
theorem dL_law__2203 : decode cL_law_ 2203 = .ok (.iadd, 1) := by decide +kernel
theorem dL_law__2204 : decode cL_law_ 2204 = .ok (.iaload, 1) := by decide +kernel
theorem dL_law__2205 : decode cL_law_ 2205 = .ok (.aload_n 0, 1) := by decide +kernel
theorem dL_law__2206 : decode cL_law_ 2206 = .ok (.iload 4, 2) := by decide +kernel
theorem dL_law__2208 : decode cL_law_ 2208 = .ok (.iconst 3, 1) := by decide +kernel
theorem dL_law__2209 : decode cL_law_ 2209 = .ok (.iadd, 1) := by decide +kernel
theorem dL_law__2210 : decode cL_law_ 2210 = .ok (.iaload, 1) := by decide +kernel
theorem dL_law__2211 : decode cL_law_ 2211 = .ok (.invokevirtual 252, 3) := by decide +kernel
theorem dL_law__2214 : decode cL_law_ 2214 = .ok (.istore 6, 2) := by decide +kernel
theorem dL_law__2216 : decode cL_law_ 2216 = .ok (.aload_n 2, 1) := by decide +kernel
theorem dL_law__2217 : decode cL_law_ 2217 = .ok (.invokevirtual 151, 3) := by decide +kernel
theorem dL_law__2220 : decode cL_law_ 2220 = .ok (.iload 5, 2) := by decide +kernel
theorem dL_law__2222 : decode cL_law_ 2222 = .ok (.if_icmp .eq 5, 3) := by decide +kernel
theorem dL_law__2225 : decode cL_law_ 2225 = .ok (.iconst 0, 1) := by decide +kernel
theorem dL_law__2226 : decode cL_law_ 2226 = .ok (.ireturn, 1) := by decide +kernel
theorem dL_law__2227 : decode cL_law_ 2227 = .ok (.iload 5, 2) := by decide +kernel
theorem dL_law__2229 : decode cL_law_ 2229 = .ok (.ifCond .ne 15, 3) := by decide +kernel
theorem dL_law__2232 : decode cL_law_ 2232 = .ok (.aload_n 3, 1) := by decide +kernel
theorem dL_law__2233 : decode cL_law_ 2233 = .ok (.iconst 0, 1) := by decide +kernel
theorem dL_law__2234 : decode cL_law_ 2234 = .ok (.laload, 1) := by decide +kernel
theorem dL_law__2235 : decode cL_law_ 2235 = .ok (.iload 6, 2) := by decide +kernel
theorem dL_law__2237 : decode cL_law_ 2237 = .ok (.i2l, 1) := by decide +kernel
theorem dL_law__2238 : decode cL_law_ 2238 = .ok (.lcmp, 1) := by decide +kernel
theorem dL_law__2239 : decode cL_law_ 2239 = .ok (.ifCond .eq 5, 3) := by decide +kernel
theorem dL_law__2242 : decode cL_law_ 2242 = .ok (.iconst 0, 1) := by decide +kernel
theorem dL_law__2243 : decode cL_law_ 2243 = .ok (.ireturn, 1) := by decide +kernel
theorem dL_law__2244 : decode cL_law_ 2244 = .ok (.goto 894, 3) := by decide +kernel
theorem dL_law__2247 : decode cL_law_ 2247 = .ok (.aload_n 1, 1) := by decide +kernel
theorem dL_law__2248 : decode cL_law_ 2248 = .ok (.aload_n 0, 1) := by decide +kernel
theorem dL_law__2249 : decode cL_law_ 2249 = .ok (.iload 4, 2) := by decide +kernel
theorem dL_law__2251 : decode cL_law_ 2251 = .ok (.iconst 1, 1) := by decide +kernel
theorem dL_law__2252 : decode cL_law_ 2252 = .ok (.iadd, 1) := by decide +kernel
theorem dL_law__2253 : decode cL_law_ 2253 = .ok (.iaload, 1) := by decide +kernel
theorem dL_law__2254 : decode cL_law_ 2254 = .ok (.aload_n 0, 1) := by decide +kernel
theorem dL_law__2255 : decode cL_law_ 2255 = .ok (.iload 4, 2) := by decide +kernel
theorem dL_law__2257 : decode cL_law_ 2257 = .ok (.iconst 2, 1) := by decide +kernel
theorem dL_law__2258 : decode cL_law_ 2258 = .ok (.iadd, 1) := by decide +kernel
theorem dL_law__2259 : decode cL_law_ 2259 = .ok (.iaload, 1) := by decide +kernel
theorem dL_law__2260 : decode cL_law_ 2260 = .ok (.aload_n 3, 1) := by decide +kernel
theorem dL_law__2261 : decode cL_law_ 2261 = .ok (.invokestatic 253, 3) := by decide +kernel
theorem dL_law__2264 : decode cL_law_ 2264 = .ok (.istore 5, 2) := by decide +kernel
theorem dL_law__2266 : decode cL_law_ 2266 = .ok (.aload_n 2, 1) := by decide +kernel
theorem dL_law__2267 : decode cL_law_ 2267 = .ok (.aload_n 0, 1) := by decide +kernel
theorem dL_law__2268 : decode cL_law_ 2268 = .ok (.iload 4, 2) := by decide +kernel
theorem dL_law__2270 : decode cL_law_ 2270 = .ok (.iconst 1, 1) := by decide +kernel
theorem dL_law__2271 : decode cL_law_ 2271 = .ok (.iadd, 1) := by decide +kernel
theorem dL_law__2272 : decode cL_law_ 2272 = .ok (.iaload, 1) := by decide +kernel
theorem dL_law__2273 : decode cL_law_ 2273 = .ok (.aload_n 0, 1) := by decide +kernel
theorem dL_law__2274 : decode cL_law_ 2274 = .ok (.iload 4, 2) := by decide +kernel
theorem dL_law__2276 : decode cL_law_ 2276 = .ok (.iconst 2, 1) := by decide +kernel
theorem dL_law__2277 : decode cL_law_ 2277 = .ok (.iadd, 1) := by decide +kernel
theorem dL_law__2278 : decode cL_law_ 2278 = .ok (.iaload, 1) := by decide +kernel
theorem dL_law__2279 : decode cL_law_ 2279 = .ok (.invokevirtual 255, 3) := by decide +kernel
theorem dL_law__2282 : decode cL_law_ 2282 = .ok (.istore 6, 2) := by decide +kernel
theorem dL_law__2284 : decode cL_law_ 2284 = .ok (.aload_n 2, 1) := by decide +kernel
theorem dL_law__2285 : decode cL_law_ 2285 = .ok (.invokevirtual 151, 3) := by decide +kernel
theorem dL_law__2288 : decode cL_law_ 2288 = .ok (.iload 5, 2) := by decide +kernel
theorem dL_law__2290 : decode cL_law_ 2290 = .ok (.if_icmp .eq 5, 3) := by decide +kernel
theorem dL_law__2293 : decode cL_law_ 2293 = .ok (.iconst 0, 1) := by decide +kernel
theorem dL_law__2294 : decode cL_law_ 2294 = .ok (.ireturn, 1) := by decide +kernel
theorem dL_law__2295 : decode cL_law_ 2295 = .ok (.iload 5, 2) := by decide +kernel
theorem dL_law__2297 : decode cL_law_ 2297 = .ok (.ifCond .ne 15, 3) := by decide +kernel
theorem dL_law__2300 : decode cL_law_ 2300 = .ok (.aload_n 3, 1) := by decide +kernel
theorem dL_law__2301 : decode cL_law_ 2301 = .ok (.iconst 0, 1) := by decide +kernel
theorem dL_law__2302 : decode cL_law_ 2302 = .ok (.laload, 1) := by decide +kernel
theorem dL_law__2303 : decode cL_law_ 2303 = .ok (.iload 6, 2) := by decide +kernel
theorem dL_law__2305 : decode cL_law_ 2305 = .ok (.i2l, 1) := by decide +kernel
theorem dL_law__2306 : decode cL_law_ 2306 = .ok (.lcmp, 1) := by decide +kernel
theorem dL_law__2307 : decode cL_law_ 2307 = .ok (.ifCond .eq 5, 3) := by decide +kernel
theorem dL_law__2310 : decode cL_law_ 2310 = .ok (.iconst 0, 1) := by decide +kernel
theorem dL_law__2311 : decode cL_law_ 2311 = .ok (.ireturn, 1) := by decide +kernel
theorem dL_law__2312 : decode cL_law_ 2312 = .ok (.goto 826, 3) := by decide +kernel
theorem dL_law__2315 : decode cL_law_ 2315 = .ok (.aload_n 1, 1) := by decide +kernel
theorem dL_law__2316 : decode cL_law_ 2316 = .ok (.aload_n 0, 1) := by decide +kernel
theorem dL_law__2317 : decode cL_law_ 2317 = .ok (.iload 4, 2) := by decide +kernel
theorem dL_law__2319 : decode cL_law_ 2319 = .ok (.iconst 1, 1) := by decide +kernel
theorem dL_law__2320 : decode cL_law_ 2320 = .ok (.iadd, 1) := by decide +kernel
theorem dL_law__2321 : decode cL_law_ 2321 = .ok (.iaload, 1) := by decide +kernel
theorem dL_law__2322 : decode cL_law_ 2322 = .ok (.aload_n 0, 1) := by decide +kernel
theorem dL_law__2323 : decode cL_law_ 2323 = .ok (.iload 4, 2) := by decide +kernel
theorem dL_law__2325 : decode cL_law_ 2325 = .ok (.iconst 2, 1) := by decide +kernel
theorem dL_law__2326 : decode cL_law_ 2326 = .ok (.iadd, 1) := by decide +kernel
theorem dL_law__2327 : decode cL_law_ 2327 = .ok (.iaload, 1) := by decide +kernel
theorem dL_law__2328 : decode cL_law_ 2328 = .ok (.aload_n 3, 1) := by decide +kernel
theorem dL_law__2329 : decode cL_law_ 2329 = .ok (.invokestatic 256, 3) := by decide +kernel
theorem dL_law__2332 : decode cL_law_ 2332 = .ok (.istore 5, 2) := by decide +kernel
theorem dL_law__2334 : decode cL_law_ 2334 = .ok (.aload_n 2, 1) := by decide +kernel
theorem dL_law__2335 : decode cL_law_ 2335 = .ok (.aload_n 0, 1) := by decide +kernel
theorem dL_law__2336 : decode cL_law_ 2336 = .ok (.iload 4, 2) := by decide +kernel
theorem dL_law__2338 : decode cL_law_ 2338 = .ok (.iconst 1, 1) := by decide +kernel
theorem dL_law__2339 : decode cL_law_ 2339 = .ok (.iadd, 1) := by decide +kernel
theorem dL_law__2340 : decode cL_law_ 2340 = .ok (.iaload, 1) := by decide +kernel
theorem dL_law__2341 : decode cL_law_ 2341 = .ok (.aload_n 0, 1) := by decide +kernel
theorem dL_law__2342 : decode cL_law_ 2342 = .ok (.iload 4, 2) := by decide +kernel
theorem dL_law__2344 : decode cL_law_ 2344 = .ok (.iconst 2, 1) := by decide +kernel
theorem dL_law__2345 : decode cL_law_ 2345 = .ok (.iadd, 1) := by decide +kernel
theorem dL_law__2346 : decode cL_law_ 2346 = .ok (.iaload, 1) := by decide +kernel
theorem dL_law__2347 : decode cL_law_ 2347 = .ok (.invokevirtual 258, 3) := by decide +kernel
theorem dL_law__2350 : decode cL_law_ 2350 = .ok (.istore 6, 2) := by decide +kernel
theorem dL_law__2352 : decode cL_law_ 2352 = .ok (.aload_n 2, 1) := by decide +kernel
theorem dL_law__2353 : decode cL_law_ 2353 = .ok (.invokevirtual 151, 3) := by decide +kernel
theorem dL_law__2356 : decode cL_law_ 2356 = .ok (.iload 5, 2) := by decide +kernel
theorem dL_law__2358 : decode cL_law_ 2358 = .ok (.if_icmp .eq 5, 3) := by decide +kernel
theorem dL_law__2361 : decode cL_law_ 2361 = .ok (.iconst 0, 1) := by decide +kernel
theorem dL_law__2362 : decode cL_law_ 2362 = .ok (.ireturn, 1) := by decide +kernel
theorem dL_law__2363 : decode cL_law_ 2363 = .ok (.iload 5, 2) := by decide +kernel
theorem dL_law__2365 : decode cL_law_ 2365 = .ok (.ifCond .ne 15, 3) := by decide +kernel
theorem dL_law__2368 : decode cL_law_ 2368 = .ok (.aload_n 3, 1) := by decide +kernel
theorem dL_law__2369 : decode cL_law_ 2369 = .ok (.iconst 0, 1) := by decide +kernel
theorem dL_law__2370 : decode cL_law_ 2370 = .ok (.laload, 1) := by decide +kernel
theorem dL_law__2371 : decode cL_law_ 2371 = .ok (.iload 6, 2) := by decide +kernel
theorem dL_law__2373 : decode cL_law_ 2373 = .ok (.i2l, 1) := by decide +kernel
theorem dL_law__2374 : decode cL_law_ 2374 = .ok (.lcmp, 1) := by decide +kernel
theorem dL_law__2375 : decode cL_law_ 2375 = .ok (.ifCond .eq 5, 3) := by decide +kernel
theorem dL_law__2378 : decode cL_law_ 2378 = .ok (.iconst 0, 1) := by decide +kernel
theorem dL_law__2379 : decode cL_law_ 2379 = .ok (.ireturn, 1) := by decide +kernel
theorem dL_law__2380 : decode cL_law_ 2380 = .ok (.goto 758, 3) := by decide +kernel
theorem dL_law__2383 : decode cL_law_ 2383 = .ok (.aload_n 1, 1) := by decide +kernel
theorem dL_law__2384 : decode cL_law_ 2384 = .ok (.invokevirtual 259, 3) := by decide +kernel
theorem dL_law__2387 : decode cL_law_ 2387 = .ok (.aload_n 2, 1) := by decide +kernel
theorem dL_law__2388 : decode cL_law_ 2388 = .ok (.invokevirtual 262, 3) := by decide +kernel
theorem dL_law__2391 : decode cL_law_ 2391 = .ok (.if_icmp .eq 747, 3) := by decide +kernel
theorem dL_law__2394 : decode cL_law_ 2394 = .ok (.iconst 0, 1) := by decide +kernel
theorem dL_law__2395 : decode cL_law_ 2395 = .ok (.ireturn, 1) := by decide +kernel
theorem dL_law__2396 : decode cL_law_ 2396 = .ok (.aload_n 1, 1) := by decide +kernel
theorem dL_law__2397 : decode cL_law_ 2397 = .ok (.invokevirtual 263, 3) := by decide +kernel
theorem dL_law__2400 : decode cL_law_ 2400 = .ok (.aload_n 2, 1) := by decide +kernel
theorem dL_law__2401 : decode cL_law_ 2401 = .ok (.invokevirtual 266, 3) := by decide +kernel
theorem dL_law__2404 : decode cL_law_ 2404 = .ok (.if_icmp .eq 734, 3) := by decide +kernel
theorem dL_law__2407 : decode cL_law_ 2407 = .ok (.iconst 0, 1) := by decide +kernel
theorem dL_law__2408 : decode cL_law_ 2408 = .ok (.ireturn, 1) := by decide +kernel
theorem dL_law__2409 : decode cL_law_ 2409 = .ok (.aload_n 1, 1) := by decide +kernel
theorem dL_law__2410 : decode cL_law_ 2410 = .ok (.aload_n 0, 1) := by decide +kernel
theorem dL_law__2411 : decode cL_law_ 2411 = .ok (.iload 4, 2) := by decide +kernel
theorem dL_law__2413 : decode cL_law_ 2413 = .ok (.iconst 1, 1) := by decide +kernel
theorem dL_law__2414 : decode cL_law_ 2414 = .ok (.iadd, 1) := by decide +kernel
theorem dL_law__2415 : decode cL_law_ 2415 = .ok (.iaload, 1) := by decide +kernel
theorem dL_law__2416 : decode cL_law_ 2416 = .ok (.aload_n 3, 1) := by decide +kernel
theorem dL_law__2417 : decode cL_law_ 2417 = .ok (.invokestatic 267, 3) := by decide +kernel
theorem dL_law__2420 : decode cL_law_ 2420 = .ok (.istore 5, 2) := by decide +kernel
theorem dL_law__2422 : decode cL_law_ 2422 = .ok (.aload_n 2, 1) := by decide +kernel
theorem dL_law__2423 : decode cL_law_ 2423 = .ok (.aload_n 0, 1) := by decide +kernel
theorem dL_law__2424 : decode cL_law_ 2424 = .ok (.iload 4, 2) := by decide +kernel
theorem dL_law__2426 : decode cL_law_ 2426 = .ok (.iconst 1, 1) := by decide +kernel
theorem dL_law__2427 : decode cL_law_ 2427 = .ok (.iadd, 1) := by decide +kernel
theorem dL_law__2428 : decode cL_law_ 2428 = .ok (.iaload, 1) := by decide +kernel
theorem dL_law__2429 : decode cL_law_ 2429 = .ok (.invokevirtual 269, 3) := by decide +kernel
theorem dL_law__2432 : decode cL_law_ 2432 = .ok (.istore 6, 2) := by decide +kernel
theorem dL_law__2434 : decode cL_law_ 2434 = .ok (.aload_n 2, 1) := by decide +kernel
theorem dL_law__2435 : decode cL_law_ 2435 = .ok (.invokevirtual 151, 3) := by decide +kernel
theorem dL_law__2438 : decode cL_law_ 2438 = .ok (.iload 5, 2) := by decide +kernel
theorem dL_law__2440 : decode cL_law_ 2440 = .ok (.if_icmp .eq 5, 3) := by decide +kernel
theorem dL_law__2443 : decode cL_law_ 2443 = .ok (.iconst 0, 1) := by decide +kernel
theorem dL_law__2444 : decode cL_law_ 2444 = .ok (.ireturn, 1) := by decide +kernel
theorem dL_law__2445 : decode cL_law_ 2445 = .ok (.iload 5, 2) := by decide +kernel
theorem dL_law__2447 : decode cL_law_ 2447 = .ok (.ifCond .ne 15, 3) := by decide +kernel
theorem dL_law__2450 : decode cL_law_ 2450 = .ok (.aload_n 3, 1) := by decide +kernel
theorem dL_law__2451 : decode cL_law_ 2451 = .ok (.iconst 0, 1) := by decide +kernel
