theorem dL_law_1792 : decode cL_law 1792 = .ok (.aload_n 0, 1) := by decide +kernel
theorem dL_law_1793 : decode cL_law 1793 = .ok (.iload_n 3, 1) := by decide +kernel
theorem dL_law_1794 : decode cL_law 1794 = .ok (.iconst 3, 1) := by decide +kernel
theorem dL_law_1795 : decode cL_law 1795 = .ok (.iadd, 1) := by decide +kernel
theorem dL_law_1796 : decode cL_law 1796 = .ok (.iaload, 1) := by decide +kernel
theorem dL_law_1797 : decode cL_law 1797 = .ok (.invokevirtual 241, 3) := by decide +kernel
theorem dL_law_1800 : decode cL_law 1800 = .ok (.aload_n 2, 1) := by decide +kernel
theorem dL_law_1801 : decode cL_law 1801 = .ok (.aload_n 0, 1) := by decide +kernel
theorem dL_law_1802 : decode cL_law 1802 = .ok (.iload_n 3, 1) := by decide +kernel
theorem dL_law_1803 : decode cL_law 1803 = .ok (.iconst 1, 1) := by decide +kernel
theorem dL_law_1804 : decode cL_law 1804 = .ok (.iadd, 1) := by decide +kernel
theorem dL_law_1805 : decode cL_law 1805 = .ok (.iaload, 1) := by decide +kernel
theorem dL_law_1806 : decode cL_law 1806 = .ok (.aload_n 0, 1) := by decide +kernel
theorem dL_law_1807 : decode cL_law 1807 = .ok (.iload_n 3, 1) := by decide +kernel
theorem dL_law_1808 : decode cL_law 1808 = .ok (.iconst 2, 1) := by decide +kernel
theorem dL_law_1809 : decode cL_law 1809 = .ok (.iadd, 1) := by decide +kernel
theorem dL_law_1810 : decode cL_law 1810 = .ok (.iaload, 1) := by decide +kernel
theorem dL_law_1811 : decode cL_law 1811 = .ok (.aload_n 0, 1) := by decide +kernel
theorem dL_law_1812 : decode cL_law 1812 = .ok (.iload_n 3, 1) := by decide +kernel
theorem dL_law_1813 : decode cL_law 1813 = .ok (.iconst 3, 1) := by decide +kernel
theorem dL_law_1814 : decode cL_law 1814 = .ok (.iadd, 1) := by decide +kernel
theorem dL_law_1815 : decode cL_law 1815 = .ok (.iaload, 1) := by decide +kernel
theorem dL_law_1816 : decode cL_law 1816 = .ok (.invokevirtual 244, 3) := by decide +kernel
theorem dL_law_1819 : decode cL_law 1819 = .ok (.if_icmp .eq 339, 3) := by decide +kernel
theorem dL_law_1824 : decode cL_law 1824 = .ok (.aload_n 1, 1) := by decide +kernel
theorem dL_law_1825 : decode cL_law 1825 = .ok (.aload_n 0, 1) := by decide +kernel
theorem dL_law_1826 : decode cL_law 1826 = .ok (.iload_n 3, 1) := by decide +kernel
theorem dL_law_1827 : decode cL_law 1827 = .ok (.iconst 1, 1) := by decide +kernel
theorem dL_law_1828 : decode cL_law 1828 = .ok (.iadd, 1) := by decide +kernel
theorem dL_law_1829 : decode cL_law 1829 = .ok (.iaload, 1) := by decide +kernel
theorem dL_law_1830 : decode cL_law 1830 = .ok (.aload_n 0, 1) := by decide +kernel
theorem dL_law_1831 : decode cL_law 1831 = .ok (.iload_n 3, 1) := by decide +kernel
theorem dL_law_1832 : decode cL_law 1832 = .ok (.iconst 2, 1) := by decide +kernel
theorem dL_law_1833 : decode cL_law 1833 = .ok (.iadd, 1) := by decide +kernel
theorem dL_law_1834 : decode cL_law 1834 = .ok (.iaload, 1) := by decide +kernel
theorem dL_law_1835 : decode cL_law 1835 = .ok (.aload_n 0, 1) := by decide +kernel
theorem dL_law_1836 : decode cL_law 1836 = .ok (.iload_n 3, 1) := by decide +kernel
theorem dL_law_1837 : decode cL_law 1837 = .ok (.iconst 3, 1) := by decide +kernel
theorem dL_law_1838 : decode cL_law 1838 = .ok (.iadd, 1) := by decide +kernel
theorem dL_law_1839 : decode cL_law 1839 = .ok (.iaload, 1) := by decide +kernel
theorem dL_law_1840 : decode cL_law 1840 = .ok (.invokevirtual 245, 3) := by decide +kernel
theorem dL_law_1843 : decode cL_law 1843 = .ok (.aload_n 2, 1) := by decide +kernel
theorem dL_law_1844 : decode cL_law 1844 = .ok (.aload_n 0, 1) := by decide +kernel
theorem dL_law_1845 : decode cL_law 1845 = .ok (.iload_n 3, 1) := by decide +kernel
theorem dL_law_1846 : decode cL_law 1846 = .ok (.iconst 1, 1) := by decide +kernel
theorem dL_law_1847 : decode cL_law 1847 = .ok (.iadd, 1) := by decide +kernel
theorem dL_law_1848 : decode cL_law 1848 = .ok (.iaload, 1) := by decide +kernel
theorem dL_law_1849 : decode cL_law 1849 = .ok (.aload_n 0, 1) := by decide +kernel
theorem dL_law_1850 : decode cL_law 1850 = .ok (.iload_n 3, 1) := by decide +kernel
theorem dL_law_1851 : decode cL_law 1851 = .ok (.iconst 2, 1) := by decide +kernel
theorem dL_law_1852 : decode cL_law 1852 = .ok (.iadd, 1) := by decide +kernel
theorem dL_law_1853 : decode cL_law 1853 = .ok (.iaload, 1) := by decide +kernel
theorem dL_law_1854 : decode cL_law 1854 = .ok (.aload_n 0, 1) := by decide +kernel
theorem dL_law_1855 : decode cL_law 1855 = .ok (.iload_n 3, 1) := by decide +kernel
theorem dL_law_1856 : decode cL_law 1856 = .ok (.iconst 3, 1) := by decide +kernel
theorem dL_law_1857 : decode cL_law 1857 = .ok (.iadd, 1) := by decide +kernel
theorem dL_law_1858 : decode cL_law 1858 = .ok (.iaload, 1) := by decide +kernel
theorem dL_law_1859 : decode cL_law 1859 = .ok (.invokevirtual 248, 3) := by decide +kernel
theorem dL_law_1862 : decode cL_law 1862 = .ok (.if_icmp .eq 296, 3) := by decide +kernel
theorem dL_law_1867 : decode cL_law 1867 = .ok (.aload_n 1, 1) := by decide +kernel
theorem dL_law_1868 : decode cL_law 1868 = .ok (.aload_n 0, 1) := by decide +kernel
theorem dL_law_1869 : decode cL_law 1869 = .ok (.iload_n 3, 1) := by decide +kernel
theorem dL_law_1870 : decode cL_law 1870 = .ok (.iconst 1, 1) := by decide +kernel
theorem dL_law_1871 : decode cL_law 1871 = .ok (.iadd, 1) := by decide +kernel
theorem dL_law_1872 : decode cL_law 1872 = .ok (.iaload, 1) := by decide +kernel
theorem dL_law_1873 : decode cL_law 1873 = .ok (.aload_n 0, 1) := by decide +kernel
theorem dL_law_1874 : decode cL_law 1874 = .ok (.iload_n 3, 1) := by decide +kernel
theorem dL_law_1875 : decode cL_law 1875 = .ok (.iconst 2, 1) := by decide +kernel
theorem dL_law_1876 : decode cL_law 1876 = .ok (.iadd, 1) := by decide +kernel
theorem dL_law_1877 : decode cL_law 1877 = .ok (.iaload, 1) := by decide +kernel
theorem dL_law_1878 : decode cL_law 1878 = .ok (.aload_n 0, 1) := by decide +kernel
theorem dL_law_1879 : decode cL_law 1879 = .ok (.iload_n 3, 1) := by decide +kernel
theorem dL_law_1880 : decode cL_law 1880 = .ok (.iconst 3, 1) := by decide +kernel
theorem dL_law_1881 : decode cL_law 1881 = .ok (.iadd, 1) := by decide +kernel
theorem dL_law_1882 : decode cL_law 1882 = .ok (.iaload, 1) := by decide +kernel
theorem dL_law_1883 : decode cL_law 1883 = .ok (.invokevirtual 249, 3) := by decide +kernel
theorem dL_law_1886 : decode cL_law 1886 = .ok (.aload_n 2, 1) := by decide +kernel
theorem dL_law_1887 : decode cL_law 1887 = .ok (.aload_n 0, 1) := by decide +kernel
theorem dL_law_1888 : decode cL_law 1888 = .ok (.iload_n 3, 1) := by decide +kernel
theorem dL_law_1889 : decode cL_law 1889 = .ok (.iconst 1, 1) := by decide +kernel
theorem dL_law_1890 : decode cL_law 1890 = .ok (.iadd, 1) := by decide +kernel
theorem dL_law_1891 : decode cL_law 1891 = .ok (.iaload, 1) := by decide +kernel
theorem dL_law_1892 : decode cL_law 1892 = .ok (.aload_n 0, 1) := by decide +kernel
theorem dL_law_1893 : decode cL_law 1893 = .ok (.iload_n 3, 1) := by decide +kernel
theorem dL_law_1894 : decode cL_law 1894 = .ok (.iconst 2, 1) := by decide +kernel
theorem dL_law_1895 : decode cL_law 1895 = .ok (.iadd, 1) := by decide +kernel
theorem dL_law_1896 : decode cL_law 1896 = .ok (.iaload, 1) := by decide +kernel
theorem dL_law_1897 : decode cL_law 1897 = .ok (.aload_n 0, 1) := by decide +kernel
theorem dL_law_1898 : decode cL_law 1898 = .ok (.iload_n 3, 1) := by decide +kernel
theorem dL_law_1899 : decode cL_law 1899 = .ok (.iconst 3, 1) := by decide +kernel
theorem dL_law_1900 : decode cL_law 1900 = .ok (.iadd, 1) := by decide +kernel
theorem dL_law_1901 : decode cL_law 1901 = .ok (.iaload, 1) := by decide +kernel
theorem dL_law_1902 : decode cL_law 1902 = .ok (.invokevirtual 252, 3) := by decide +kernel
theorem dL_law_1905 : decode cL_law 1905 = .ok (.if_icmp .eq 253, 3) := by decide +kernel
theorem dL_law_1910 : decode cL_law 1910 = .ok (.aload_n 1, 1) := by decide +kernel
theorem dL_law_1911 : decode cL_law 1911 = .ok (.aload_n 0, 1) := by decide +kernel
theorem dL_law_1912 : decode cL_law 1912 = .ok (.iload_n 3, 1) := by decide +kernel
theorem dL_law_1913 : decode cL_law 1913 = .ok (.iconst 1, 1) := by decide +kernel
theorem dL_law_1914 : decode cL_law 1914 = .ok (.iadd, 1) := by decide +kernel
theorem dL_law_1915 : decode cL_law 1915 = .ok (.iaload, 1) := by decide +kernel
theorem dL_law_1916 : decode cL_law 1916 = .ok (.invokevirtual 253, 3) := by decide +kernel
theorem dL_law_1919 : decode cL_law 1919 = .ok (.aload_n 2, 1) := by decide +kernel
theorem dL_law_1920 : decode cL_law 1920 = .ok (.aload_n 0, 1) := by decide +kernel
theorem dL_law_1921 : decode cL_law 1921 = .ok (.iload_n 3, 1) := by decide +kernel
theorem dL_law_1922 : decode cL_law 1922 = .ok (.iconst 1, 1) := by decide +kernel
theorem dL_law_1923 : decode cL_law 1923 = .ok (.iadd, 1) := by decide +kernel
theorem dL_law_1924 : decode cL_law 1924 = .ok (.iaload, 1) := by decide +kernel
theorem dL_law_1925 : decode cL_law 1925 = .ok (.invokevirtual 256, 3) := by decide +kernel
theorem dL_law_1928 : decode cL_law 1928 = .ok (.if_icmp .eq 230, 3) := by decide +kernel
theorem dL_law_1933 : decode cL_law 1933 = .ok (.aload_n 1, 1) := by decide +kernel
theorem dL_law_1934 : decode cL_law 1934 = .ok (.aload_n 0, 1) := by decide +kernel
theorem dL_law_1935 : decode cL_law 1935 = .ok (.iload_n 3, 1) := by decide +kernel
theorem dL_law_1936 : decode cL_law 1936 = .ok (.iconst 1, 1) := by decide +kernel
theorem dL_law_1937 : decode cL_law 1937 = .ok (.iadd, 1) := by decide +kernel
theorem dL_law_1938 : decode cL_law 1938 = .ok (.iaload, 1) := by decide +kernel
theorem dL_law_1939 : decode cL_law 1939 = .ok (.invokevirtual 257, 3) := by decide +kernel
theorem dL_law_1942 : decode cL_law 1942 = .ok (.aload_n 2, 1) := by decide +kernel
theorem dL_law_1943 : decode cL_law 1943 = .ok (.aload_n 0, 1) := by decide +kernel
theorem dL_law_1944 : decode cL_law 1944 = .ok (.iload_n 3, 1) := by decide +kernel
theorem dL_law_1945 : decode cL_law 1945 = .ok (.iconst 1, 1) := by decide +kernel
theorem dL_law_1946 : decode cL_law 1946 = .ok (.iadd, 1) := by decide +kernel
theorem dL_law_1947 : decode cL_law 1947 = .ok (.iaload, 1) := by decide +kernel
theorem dL_law_1948 : decode cL_law 1948 = .ok (.invokevirtual 260, 3) := by decide +kernel
theorem dL_law_1951 : decode cL_law 1951 = .ok (.if_icmp .eq 207, 3) := by decide +kernel
theorem dL_law_1956 : decode cL_law 1956 = .ok (.aload_n 1, 1) := by decide +kernel
theorem dL_law_1957 : decode cL_law 1957 = .ok (.aload_n 0, 1) := by decide +kernel
theorem dL_law_1958 : decode cL_law 1958 = .ok (.iload_n 3, 1) := by decide +kernel
theorem dL_law_1959 : decode cL_law 1959 = .ok (.iconst 1, 1) := by decide +kernel
theorem dL_law_1960 : decode cL_law 1960 = .ok (.iadd, 1) := by decide +kernel
theorem dL_law_1961 : decode cL_law 1961 = .ok (.iaload, 1) := by decide +kernel
theorem dL_law_1962 : decode cL_law 1962 = .ok (.invokevirtual 261, 3) := by decide +kernel
theorem dL_law_1965 : decode cL_law 1965 = .ok (.aload_n 2, 1) := by decide +kernel
theorem dL_law_1966 : decode cL_law 1966 = .ok (.aload_n 0, 1) := by decide +kernel
theorem dL_law_1967 : decode cL_law 1967 = .ok (.iload_n 3, 1) := by decide +kernel
theorem dL_law_1968 : decode cL_law 1968 = .ok (.iconst 1, 1) := by decide +kernel
theorem dL_law_1969 : decode cL_law 1969 = .ok (.iadd, 1) := by decide +kernel
theorem dL_law_1970 : decode cL_law 1970 = .ok (.iaload, 1) := by decide +kernel
theorem dL_law_1971 : decode cL_law 1971 = .ok (.invokevirtual 264, 3) := by decide +kernel
theorem dL_law_1974 : decode cL_law 1974 = .ok (.if_icmp .eq 184, 3) := by decide +kernel
theorem dL_law_1979 : decode cL_law 1979 = .ok (.aload_n 1, 1) := by decide +kernel
theorem dL_law_1980 : decode cL_law 1980 = .ok (.aload_n 0, 1) := by decide +kernel
theorem dL_law_1981 : decode cL_law 1981 = .ok (.iload_n 3, 1) := by decide +kernel
theorem dL_law_1982 : decode cL_law 1982 = .ok (.iconst 1, 1) := by decide +kernel
theorem dL_law_1983 : decode cL_law 1983 = .ok (.iadd, 1) := by decide +kernel
theorem dL_law_1984 : decode cL_law 1984 = .ok (.iaload, 1) := by decide +kernel
theorem dL_law_1985 : decode cL_law 1985 = .ok (.aload_n 0, 1) := by decide +kernel
theorem dL_law_1986 : decode cL_law 1986 = .ok (.iload_n 3, 1) := by decide +kernel
theorem dL_law_1987 : decode cL_law 1987 = .ok (.iconst 2, 1) := by decide +kernel
theorem dL_law_1988 : decode cL_law 1988 = .ok (.iadd, 1) := by decide +kernel
theorem dL_law_1989 : decode cL_law 1989 = .ok (.iaload, 1) := by decide +kernel
