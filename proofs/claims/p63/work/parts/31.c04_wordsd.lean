theorem dL_law_1838 : decode cL_law 1838 = .ok (.invokevirtual 245, 3) := by decide +kernel
theorem dL_law_1841 : decode cL_law 1841 = .ok (.pop, 1) := by decide +kernel
theorem dL_law_1842 : decode cL_law 1842 = .ok (.aload_n 2, 1) := by decide +kernel
theorem dL_law_1843 : decode cL_law 1843 = .ok (.aload_n 0, 1) := by decide +kernel
theorem dL_law_1844 : decode cL_law 1844 = .ok (.iload_n 3, 1) := by decide +kernel
theorem dL_law_1845 : decode cL_law 1845 = .ok (.iconst 1, 1) := by decide +kernel
theorem dL_law_1846 : decode cL_law 1846 = .ok (.iadd, 1) := by decide +kernel
theorem dL_law_1847 : decode cL_law 1847 = .ok (.iaload, 1) := by decide +kernel
theorem dL_law_1848 : decode cL_law 1848 = .ok (.aload_n 0, 1) := by decide +kernel
theorem dL_law_1849 : decode cL_law 1849 = .ok (.iload_n 3, 1) := by decide +kernel
theorem dL_law_1850 : decode cL_law 1850 = .ok (.iconst 2, 1) := by decide +kernel
theorem dL_law_1851 : decode cL_law 1851 = .ok (.iadd, 1) := by decide +kernel
theorem dL_law_1852 : decode cL_law 1852 = .ok (.iaload, 1) := by decide +kernel
theorem dL_law_1853 : decode cL_law 1853 = .ok (.aload_n 0, 1) := by decide +kernel
theorem dL_law_1854 : decode cL_law 1854 = .ok (.iload_n 3, 1) := by decide +kernel
theorem dL_law_1855 : decode cL_law 1855 = .ok (.iconst 3, 1) := by decide +kernel
theorem dL_law_1856 : decode cL_law 1856 = .ok (.iadd, 1) := by decide +kernel
theorem dL_law_1857 : decode cL_law 1857 = .ok (.iaload, 1) := by decide +kernel
theorem dL_law_1858 : decode cL_law 1858 = .ok (.invokevirtual 248, 3) := by decide +kernel
theorem dL_law_1861 : decode cL_law 1861 = .ok (.pop, 1) := by decide +kernel
theorem dL_law_1862 : decode cL_law 1862 = .ok (.goto 294, 3) := by decide +kernel
theorem dL_law_1865 : decode cL_law 1865 = .ok (.aload_n 1, 1) := by decide +kernel
theorem dL_law_1866 : decode cL_law 1866 = .ok (.aload_n 0, 1) := by decide +kernel
theorem dL_law_1867 : decode cL_law 1867 = .ok (.iload_n 3, 1) := by decide +kernel
theorem dL_law_1868 : decode cL_law 1868 = .ok (.iconst 1, 1) := by decide +kernel
theorem dL_law_1869 : decode cL_law 1869 = .ok (.iadd, 1) := by decide +kernel
theorem dL_law_1870 : decode cL_law 1870 = .ok (.iaload, 1) := by decide +kernel
theorem dL_law_1871 : decode cL_law 1871 = .ok (.aload_n 0, 1) := by decide +kernel
theorem dL_law_1872 : decode cL_law 1872 = .ok (.iload_n 3, 1) := by decide +kernel
theorem dL_law_1873 : decode cL_law 1873 = .ok (.iconst 2, 1) := by decide +kernel
theorem dL_law_1874 : decode cL_law 1874 = .ok (.iadd, 1) := by decide +kernel
theorem dL_law_1875 : decode cL_law 1875 = .ok (.iaload, 1) := by decide +kernel
theorem dL_law_1876 : decode cL_law 1876 = .ok (.aload_n 0, 1) := by decide +kernel
theorem dL_law_1877 : decode cL_law 1877 = .ok (.iload_n 3, 1) := by decide +kernel
theorem dL_law_1878 : decode cL_law 1878 = .ok (.iconst 3, 1) := by decide +kernel
theorem dL_law_1879 : decode cL_law 1879 = .ok (.iadd, 1) := by decide +kernel
theorem dL_law_1880 : decode cL_law 1880 = .ok (.iaload, 1) := by decide +kernel
theorem dL_law_1881 : decode cL_law 1881 = .ok (.invokevirtual 249, 3) := by decide +kernel
theorem dL_law_1884 : decode cL_law 1884 = .ok (.pop, 1) := by decide +kernel
theorem dL_law_1885 : decode cL_law 1885 = .ok (.aload_n 2, 1) := by decide +kernel
theorem dL_law_1886 : decode cL_law 1886 = .ok (.aload_n 0, 1) := by decide +kernel
theorem dL_law_1887 : decode cL_law 1887 = .ok (.iload_n 3, 1) := by decide +kernel
theorem dL_law_1888 : decode cL_law 1888 = .ok (.iconst 1, 1) := by decide +kernel
theorem dL_law_1889 : decode cL_law 1889 = .ok (.iadd, 1) := by decide +kernel
theorem dL_law_1890 : decode cL_law 1890 = .ok (.iaload, 1) := by decide +kernel
theorem dL_law_1891 : decode cL_law 1891 = .ok (.aload_n 0, 1) := by decide +kernel
theorem dL_law_1892 : decode cL_law 1892 = .ok (.iload_n 3, 1) := by decide +kernel
theorem dL_law_1893 : decode cL_law 1893 = .ok (.iconst 2, 1) := by decide +kernel
theorem dL_law_1894 : decode cL_law 1894 = .ok (.iadd, 1) := by decide +kernel
theorem dL_law_1895 : decode cL_law 1895 = .ok (.iaload, 1) := by decide +kernel
theorem dL_law_1896 : decode cL_law 1896 = .ok (.aload_n 0, 1) := by decide +kernel
theorem dL_law_1897 : decode cL_law 1897 = .ok (.iload_n 3, 1) := by decide +kernel
theorem dL_law_1898 : decode cL_law 1898 = .ok (.iconst 3, 1) := by decide +kernel
theorem dL_law_1899 : decode cL_law 1899 = .ok (.iadd, 1) := by decide +kernel
theorem dL_law_1900 : decode cL_law 1900 = .ok (.iaload, 1) := by decide +kernel
theorem dL_law_1901 : decode cL_law 1901 = .ok (.invokevirtual 252, 3) := by decide +kernel
theorem dL_law_1904 : decode cL_law 1904 = .ok (.pop, 1) := by decide +kernel
theorem dL_law_1905 : decode cL_law 1905 = .ok (.goto 251, 3) := by decide +kernel
theorem dL_law_1908 : decode cL_law 1908 = .ok (.aload_n 1, 1) := by decide +kernel
theorem dL_law_1909 : decode cL_law 1909 = .ok (.aload_n 0, 1) := by decide +kernel
theorem dL_law_1910 : decode cL_law 1910 = .ok (.iload_n 3, 1) := by decide +kernel
theorem dL_law_1911 : decode cL_law 1911 = .ok (.iconst 1, 1) := by decide +kernel
theorem dL_law_1912 : decode cL_law 1912 = .ok (.iadd, 1) := by decide +kernel
theorem dL_law_1913 : decode cL_law 1913 = .ok (.iaload, 1) := by decide +kernel
theorem dL_law_1914 : decode cL_law 1914 = .ok (.invokevirtual 253, 3) := by decide +kernel
theorem dL_law_1917 : decode cL_law 1917 = .ok (.pop, 1) := by decide +kernel
theorem dL_law_1918 : decode cL_law 1918 = .ok (.aload_n 2, 1) := by decide +kernel
theorem dL_law_1919 : decode cL_law 1919 = .ok (.aload_n 0, 1) := by decide +kernel
theorem dL_law_1920 : decode cL_law 1920 = .ok (.iload_n 3, 1) := by decide +kernel
theorem dL_law_1921 : decode cL_law 1921 = .ok (.iconst 1, 1) := by decide +kernel
theorem dL_law_1922 : decode cL_law 1922 = .ok (.iadd, 1) := by decide +kernel
theorem dL_law_1923 : decode cL_law 1923 = .ok (.iaload, 1) := by decide +kernel
theorem dL_law_1924 : decode cL_law 1924 = .ok (.invokevirtual 256, 3) := by decide +kernel
theorem dL_law_1927 : decode cL_law 1927 = .ok (.pop, 1) := by decide +kernel
theorem dL_law_1928 : decode cL_law 1928 = .ok (.goto 228, 3) := by decide +kernel
theorem dL_law_1931 : decode cL_law 1931 = .ok (.aload_n 1, 1) := by decide +kernel
theorem dL_law_1932 : decode cL_law 1932 = .ok (.aload_n 0, 1) := by decide +kernel
theorem dL_law_1933 : decode cL_law 1933 = .ok (.iload_n 3, 1) := by decide +kernel
theorem dL_law_1934 : decode cL_law 1934 = .ok (.iconst 1, 1) := by decide +kernel
theorem dL_law_1935 : decode cL_law 1935 = .ok (.iadd, 1) := by decide +kernel
theorem dL_law_1936 : decode cL_law 1936 = .ok (.iaload, 1) := by decide +kernel
theorem dL_law_1937 : decode cL_law 1937 = .ok (.invokevirtual 257, 3) := by decide +kernel
theorem dL_law_1940 : decode cL_law 1940 = .ok (.pop, 1) := by decide +kernel
theorem dL_law_1941 : decode cL_law 1941 = .ok (.aload_n 2, 1) := by decide +kernel
theorem dL_law_1942 : decode cL_law 1942 = .ok (.aload_n 0, 1) := by decide +kernel
theorem dL_law_1943 : decode cL_law 1943 = .ok (.iload_n 3, 1) := by decide +kernel
theorem dL_law_1944 : decode cL_law 1944 = .ok (.iconst 1, 1) := by decide +kernel
theorem dL_law_1945 : decode cL_law 1945 = .ok (.iadd, 1) := by decide +kernel
theorem dL_law_1946 : decode cL_law 1946 = .ok (.iaload, 1) := by decide +kernel
theorem dL_law_1947 : decode cL_law 1947 = .ok (.invokevirtual 260, 3) := by decide +kernel
theorem dL_law_1950 : decode cL_law 1950 = .ok (.pop, 1) := by decide +kernel
theorem dL_law_1951 : decode cL_law 1951 = .ok (.goto 205, 3) := by decide +kernel
theorem dL_law_1954 : decode cL_law 1954 = .ok (.aload_n 1, 1) := by decide +kernel
theorem dL_law_1955 : decode cL_law 1955 = .ok (.aload_n 0, 1) := by decide +kernel
theorem dL_law_1956 : decode cL_law 1956 = .ok (.iload_n 3, 1) := by decide +kernel
theorem dL_law_1957 : decode cL_law 1957 = .ok (.iconst 1, 1) := by decide +kernel
theorem dL_law_1958 : decode cL_law 1958 = .ok (.iadd, 1) := by decide +kernel
theorem dL_law_1959 : decode cL_law 1959 = .ok (.iaload, 1) := by decide +kernel
theorem dL_law_1960 : decode cL_law 1960 = .ok (.invokevirtual 261, 3) := by decide +kernel
theorem dL_law_1963 : decode cL_law 1963 = .ok (.pop, 1) := by decide +kernel
theorem dL_law_1964 : decode cL_law 1964 = .ok (.aload_n 2, 1) := by decide +kernel
theorem dL_law_1965 : decode cL_law 1965 = .ok (.aload_n 0, 1) := by decide +kernel
theorem dL_law_1966 : decode cL_law 1966 = .ok (.iload_n 3, 1) := by decide +kernel
theorem dL_law_1967 : decode cL_law 1967 = .ok (.iconst 1, 1) := by decide +kernel
theorem dL_law_1968 : decode cL_law 1968 = .ok (.iadd, 1) := by decide +kernel
theorem dL_law_1969 : decode cL_law 1969 = .ok (.iaload, 1) := by decide +kernel
theorem dL_law_1970 : decode cL_law 1970 = .ok (.invokevirtual 264, 3) := by decide +kernel
theorem dL_law_1973 : decode cL_law 1973 = .ok (.pop, 1) := by decide +kernel
theorem dL_law_1974 : decode cL_law 1974 = .ok (.goto 182, 3) := by decide +kernel
theorem dL_law_1977 : decode cL_law 1977 = .ok (.aload_n 1, 1) := by decide +kernel
theorem dL_law_1978 : decode cL_law 1978 = .ok (.aload_n 0, 1) := by decide +kernel
theorem dL_law_1979 : decode cL_law 1979 = .ok (.iload_n 3, 1) := by decide +kernel
theorem dL_law_1980 : decode cL_law 1980 = .ok (.iconst 1, 1) := by decide +kernel
theorem dL_law_1981 : decode cL_law 1981 = .ok (.iadd, 1) := by decide +kernel
theorem dL_law_1982 : decode cL_law 1982 = .ok (.iaload, 1) := by decide +kernel
theorem dL_law_1983 : decode cL_law 1983 = .ok (.aload_n 0, 1) := by decide +kernel
theorem dL_law_1984 : decode cL_law 1984 = .ok (.iload_n 3, 1) := by decide +kernel
theorem dL_law_1985 : decode cL_law 1985 = .ok (.iconst 2, 1) := by decide +kernel
theorem dL_law_1986 : decode cL_law 1986 = .ok (.iadd, 1) := by decide +kernel
theorem dL_law_1987 : decode cL_law 1987 = .ok (.iaload, 1) := by decide +kernel
theorem dL_law_1988 : decode cL_law 1988 = .ok (.aload_n 0, 1) := by decide +kernel
theorem dL_law_1989 : decode cL_law 1989 = .ok (.iload_n 3, 1) := by decide +kernel
theorem dL_law_1990 : decode cL_law 1990 = .ok (.iconst 3, 1) := by decide +kernel
theorem dL_law_1991 : decode cL_law 1991 = .ok (.iadd, 1) := by decide +kernel
theorem dL_law_1992 : decode cL_law 1992 = .ok (.iaload, 1) := by decide +kernel
theorem dL_law_1993 : decode cL_law 1993 = .ok (.invokevirtual 265, 3) := by decide +kernel
theorem dL_law_1996 : decode cL_law 1996 = .ok (.aload_n 2, 1) := by decide +kernel
theorem dL_law_1997 : decode cL_law 1997 = .ok (.aload_n 0, 1) := by decide +kernel
theorem dL_law_1998 : decode cL_law 1998 = .ok (.iload_n 3, 1) := by decide +kernel
theorem dL_law_1999 : decode cL_law 1999 = .ok (.iconst 1, 1) := by decide +kernel
theorem dL_law_2000 : decode cL_law 2000 = .ok (.iadd, 1) := by decide +kernel
theorem dL_law_2001 : decode cL_law 2001 = .ok (.iaload, 1) := by decide +kernel
theorem dL_law_2002 : decode cL_law 2002 = .ok (.aload_n 0, 1) := by decide +kernel
theorem dL_law_2003 : decode cL_law 2003 = .ok (.iload_n 3, 1) := by decide +kernel
theorem dL_law_2004 : decode cL_law 2004 = .ok (.iconst 2, 1) := by decide +kernel
theorem dL_law_2005 : decode cL_law 2005 = .ok (.iadd, 1) := by decide +kernel
theorem dL_law_2006 : decode cL_law 2006 = .ok (.iaload, 1) := by decide +kernel
theorem dL_law_2007 : decode cL_law 2007 = .ok (.aload_n 0, 1) := by decide +kernel
theorem dL_law_2008 : decode cL_law 2008 = .ok (.iload_n 3, 1) := by decide +kernel
theorem dL_law_2009 : decode cL_law 2009 = .ok (.iconst 3, 1) := by decide +kernel
theorem dL_law_2010 : decode cL_law 2010 = .ok (.iadd, 1) := by decide +kernel
theorem dL_law_2011 : decode cL_law 2011 = .ok (.iaload, 1) := by decide +kernel
theorem dL_law_2012 : decode cL_law 2012 = .ok (.invokevirtual 268, 3) := by decide +kernel
theorem dL_law_2015 : decode cL_law 2015 = .ok (.if_icmp .eq 141, 3) := by decide +kernel
theorem dL_law_2020 : decode cL_law 2020 = .ok (.aload_n 1, 1) := by decide +kernel
theorem dL_law_2021 : decode cL_law 2021 = .ok (.aload_n 0, 1) := by decide +kernel
theorem dL_law_2022 : decode cL_law 2022 = .ok (.iload_n 3, 1) := by decide +kernel
theorem dL_law_2023 : decode cL_law 2023 = .ok (.iconst 1, 1) := by decide +kernel
theorem dL_law_2024 : decode cL_law 2024 = .ok (.iadd, 1) := by decide +kernel
theorem dL_law_2025 : decode cL_law 2025 = .ok (.iaload, 1) := by decide +kernel
theorem dL_law_2026 : decode cL_law 2026 = .ok (.aload_n 0, 1) := by decide +kernel
theorem dL_law_2027 : decode cL_law 2027 = .ok (.iload_n 3, 1) := by decide +kernel
theorem dL_law_2028 : decode cL_law 2028 = .ok (.iconst 2, 1) := by decide +kernel
theorem dL_law_2029 : decode cL_law 2029 = .ok (.iadd, 1) := by decide +kernel
theorem dL_law_2030 : decode cL_law 2030 = .ok (.iaload, 1) := by decide +kernel
theorem dL_law_2031 : decode cL_law 2031 = .ok (.aload_n 0, 1) := by decide +kernel
theorem dL_law_2032 : decode cL_law 2032 = .ok (.iload_n 3, 1) := by decide +kernel
theorem dL_law_2033 : decode cL_law 2033 = .ok (.iconst 3, 1) := by decide +kernel
theorem dL_law_2034 : decode cL_law 2034 = .ok (.iadd, 1) := by decide +kernel
theorem dL_law_2035 : decode cL_law 2035 = .ok (.iaload, 1) := by decide +kernel
theorem dL_law_2036 : decode cL_law 2036 = .ok (.i2l, 1) := by decide +kernel
theorem dL_law_2037 : decode cL_law 2037 = .ok (.bipush 32, 2) := by decide +kernel
theorem dL_law_2039 : decode cL_law 2039 = .ok (.lshl, 1) := by decide +kernel
theorem dL_law_2040 : decode cL_law 2040 = .ok (.aload_n 0, 1) := by decide +kernel
theorem dL_law_2041 : decode cL_law 2041 = .ok (.iload_n 3, 1) := by decide +kernel
theorem dL_law_2042 : decode cL_law 2042 = .ok (.iconst 4, 1) := by decide +kernel
theorem dL_law_2043 : decode cL_law 2043 = .ok (.iadd, 1) := by decide +kernel
theorem dL_law_2044 : decode cL_law 2044 = .ok (.iaload, 1) := by decide +kernel
theorem dL_law_2045 : decode cL_law 2045 = .ok (.i2l, 1) := by decide +kernel
theorem dL_law_2046 : decode cL_law 2046 = .ok (.ldc2_w 269, 3) := by decide +kernel
theorem dL_law_2049 : decode cL_law 2049 = .ok (.land, 1) := by decide +kernel
theorem dL_law_2050 : decode cL_law 2050 = .ok (.lor, 1) := by decide +kernel
theorem dL_law_2051 : decode cL_law 2051 = .ok (.invokevirtual 271, 3) := by decide +kernel
theorem dL_law_2054 : decode cL_law 2054 = .ok (.pop, 1) := by decide +kernel
theorem dL_law_2055 : decode cL_law 2055 = .ok (.aload_n 2, 1) := by decide +kernel
theorem dL_law_2056 : decode cL_law 2056 = .ok (.aload_n 0, 1) := by decide +kernel
theorem dL_law_2057 : decode cL_law 2057 = .ok (.iload_n 3, 1) := by decide +kernel
theorem dL_law_2058 : decode cL_law 2058 = .ok (.iconst 1, 1) := by decide +kernel
theorem dL_law_2059 : decode cL_law 2059 = .ok (.iadd, 1) := by decide +kernel
theorem dL_law_2060 : decode cL_law 2060 = .ok (.iaload, 1) := by decide +kernel
theorem dL_law_2061 : decode cL_law 2061 = .ok (.aload_n 0, 1) := by decide +kernel
theorem dL_law_2062 : decode cL_law 2062 = .ok (.iload_n 3, 1) := by decide +kernel
theorem dL_law_2063 : decode cL_law 2063 = .ok (.iconst 2, 1) := by decide +kernel
theorem dL_law_2064 : decode cL_law 2064 = .ok (.iadd, 1) := by decide +kernel
theorem dL_law_2065 : decode cL_law 2065 = .ok (.iaload, 1) := by decide +kernel
theorem dL_law_2066 : decode cL_law 2066 = .ok (.aload_n 0, 1) := by decide +kernel
theorem dL_law_2067 : decode cL_law 2067 = .ok (.iload_n 3, 1) := by decide +kernel
theorem dL_law_2068 : decode cL_law 2068 = .ok (.iconst 3, 1) := by decide +kernel
theorem dL_law_2069 : decode cL_law 2069 = .ok (.iadd, 1) := by decide +kernel
theorem dL_law_2070 : decode cL_law 2070 = .ok (.iaload, 1) := by decide +kernel
theorem dL_law_2071 : decode cL_law 2071 = .ok (.i2l, 1) := by decide +kernel
theorem dL_law_2072 : decode cL_law 2072 = .ok (.bipush 32, 2) := by decide +kernel
theorem dL_law_2074 : decode cL_law 2074 = .ok (.lshl, 1) := by decide +kernel
theorem dL_law_2075 : decode cL_law 2075 = .ok (.aload_n 0, 1) := by decide +kernel
theorem dL_law_2076 : decode cL_law 2076 = .ok (.iload_n 3, 1) := by decide +kernel
theorem dL_law_2077 : decode cL_law 2077 = .ok (.iconst 4, 1) := by decide +kernel
theorem dL_law_2078 : decode cL_law 2078 = .ok (.iadd, 1) := by decide +kernel
theorem dL_law_2079 : decode cL_law 2079 = .ok (.iaload, 1) := by decide +kernel
theorem dL_law_2080 : decode cL_law 2080 = .ok (.i2l, 1) := by decide +kernel
theorem dL_law_2081 : decode cL_law 2081 = .ok (.ldc2_w 269, 3) := by decide +kernel
theorem dL_law_2084 : decode cL_law 2084 = .ok (.land, 1) := by decide +kernel
theorem dL_law_2085 : decode cL_law 2085 = .ok (.lor, 1) := by decide +kernel
theorem dL_law_2086 : decode cL_law 2086 = .ok (.invokevirtual 275, 3) := by decide +kernel
theorem dL_law_2089 : decode cL_law 2089 = .ok (.pop, 1) := by decide +kernel
theorem dL_law_2090 : decode cL_law 2090 = .ok (.goto 66, 3) := by decide +kernel
theorem dL_law_2093 : decode cL_law 2093 = .ok (.aload_n 1, 1) := by decide +kernel
theorem dL_law_2094 : decode cL_law 2094 = .ok (.aload_n 0, 1) := by decide +kernel
theorem dL_law_2095 : decode cL_law 2095 = .ok (.iload_n 3, 1) := by decide +kernel
theorem dL_law_2096 : decode cL_law 2096 = .ok (.iconst 1, 1) := by decide +kernel
theorem dL_law_2097 : decode cL_law 2097 = .ok (.iadd, 1) := by decide +kernel
theorem dL_law_2098 : decode cL_law 2098 = .ok (.iaload, 1) := by decide +kernel
theorem dL_law_2099 : decode cL_law 2099 = .ok (.aload_n 0, 1) := by decide +kernel
theorem dL_law_2100 : decode cL_law 2100 = .ok (.iload_n 3, 1) := by decide +kernel
theorem dL_law_2101 : decode cL_law 2101 = .ok (.iconst 2, 1) := by decide +kernel
theorem dL_law_2102 : decode cL_law 2102 = .ok (.iadd, 1) := by decide +kernel
theorem dL_law_2103 : decode cL_law 2103 = .ok (.iaload, 1) := by decide +kernel
theorem dL_law_2104 : decode cL_law 2104 = .ok (.aload_n 0, 1) := by decide +kernel
theorem dL_law_2105 : decode cL_law 2105 = .ok (.iload_n 3, 1) := by decide +kernel
theorem dL_law_2106 : decode cL_law 2106 = .ok (.iconst 3, 1) := by decide +kernel
theorem dL_law_2107 : decode cL_law 2107 = .ok (.iadd, 1) := by decide +kernel
theorem dL_law_2108 : decode cL_law 2108 = .ok (.iaload, 1) := by decide +kernel
theorem dL_law_2109 : decode cL_law 2109 = .ok (.aload_n 0, 1) := by decide +kernel
theorem dL_law_2110 : decode cL_law 2110 = .ok (.iload_n 3, 1) := by decide +kernel
theorem dL_law_2111 : decode cL_law 2111 = .ok (.iconst 4, 1) := by decide +kernel
theorem dL_law_2112 : decode cL_law 2112 = .ok (.iadd, 1) := by decide +kernel
theorem dL_law_2113 : decode cL_law 2113 = .ok (.iaload, 1) := by decide +kernel
theorem dL_law_2114 : decode cL_law 2114 = .ok (.aload_n 0, 1) := by decide +kernel
theorem dL_law_2115 : decode cL_law 2115 = .ok (.iload_n 3, 1) := by decide +kernel
theorem dL_law_2116 : decode cL_law 2116 = .ok (.iconst 5, 1) := by decide +kernel
theorem dL_law_2117 : decode cL_law 2117 = .ok (.iadd, 1) := by decide +kernel
theorem dL_law_2118 : decode cL_law 2118 = .ok (.iaload, 1) := by decide +kernel
theorem dL_law_2119 : decode cL_law 2119 = .ok (.invokevirtual 276, 3) := by decide +kernel
theorem dL_law_2122 : decode cL_law 2122 = .ok (.pop, 1) := by decide +kernel
theorem dL_law_2123 : decode cL_law 2123 = .ok (.aload_n 2, 1) := by decide +kernel
theorem dL_law_2124 : decode cL_law 2124 = .ok (.aload_n 0, 1) := by decide +kernel
theorem dL_law_2125 : decode cL_law 2125 = .ok (.iload_n 3, 1) := by decide +kernel
theorem dL_law_2126 : decode cL_law 2126 = .ok (.iconst 1, 1) := by decide +kernel
theorem dL_law_2127 : decode cL_law 2127 = .ok (.iadd, 1) := by decide +kernel
theorem dL_law_2128 : decode cL_law 2128 = .ok (.iaload, 1) := by decide +kernel
theorem dL_law_2129 : decode cL_law 2129 = .ok (.aload_n 0, 1) := by decide +kernel
theorem dL_law_2130 : decode cL_law 2130 = .ok (.iload_n 3, 1) := by decide +kernel
theorem dL_law_2131 : decode cL_law 2131 = .ok (.iconst 2, 1) := by decide +kernel
theorem dL_law_2132 : decode cL_law 2132 = .ok (.iadd, 1) := by decide +kernel
theorem dL_law_2133 : decode cL_law 2133 = .ok (.iaload, 1) := by decide +kernel
theorem dL_law_2134 : decode cL_law 2134 = .ok (.aload_n 0, 1) := by decide +kernel
theorem dL_law_2135 : decode cL_law 2135 = .ok (.iload_n 3, 1) := by decide +kernel
theorem dL_law_2136 : decode cL_law 2136 = .ok (.iconst 3, 1) := by decide +kernel
theorem dL_law_2137 : decode cL_law 2137 = .ok (.iadd, 1) := by decide +kernel
theorem dL_law_2138 : decode cL_law 2138 = .ok (.iaload, 1) := by decide +kernel
theorem dL_law_2139 : decode cL_law 2139 = .ok (.aload_n 0, 1) := by decide +kernel
theorem dL_law_2140 : decode cL_law 2140 = .ok (.iload_n 3, 1) := by decide +kernel
theorem dL_law_2141 : decode cL_law 2141 = .ok (.iconst 4, 1) := by decide +kernel
theorem dL_law_2142 : decode cL_law 2142 = .ok (.iadd, 1) := by decide +kernel
theorem dL_law_2143 : decode cL_law 2143 = .ok (.iaload, 1) := by decide +kernel
theorem dL_law_2144 : decode cL_law 2144 = .ok (.aload_n 0, 1) := by decide +kernel
theorem dL_law_2145 : decode cL_law 2145 = .ok (.iload_n 3, 1) := by decide +kernel
theorem dL_law_2146 : decode cL_law 2146 = .ok (.iconst 5, 1) := by decide +kernel
theorem dL_law_2147 : decode cL_law 2147 = .ok (.iadd, 1) := by decide +kernel
theorem dL_law_2148 : decode cL_law 2148 = .ok (.iaload, 1) := by decide +kernel
theorem dL_law_2149 : decode cL_law 2149 = .ok (.invokevirtual 279, 3) := by decide +kernel
theorem dL_law_2152 : decode cL_law 2152 = .ok (.pop, 1) := by decide +kernel
theorem dL_law_2153 : decode cL_law 2153 = .ok (.goto 3, 3) := by decide +kernel
theorem dL_law_0 : decode cL_law 0 = .ok (.new 7, 3) := by decide +kernel
theorem dL_law_3 : decode cL_law 3 = .ok (.dup, 1) := by decide +kernel
theorem dL_law_4 : decode cL_law 4 = .ok (.invokespecial 9, 3) := by decide +kernel
theorem dL_law_7 : decode cL_law 7 = .ok (.astore_n 1, 1) := by decide +kernel
theorem dL_law_8 : decode cL_law 8 = .ok (.new 10, 3) := by decide +kernel
theorem dL_law_11 : decode cL_law 11 = .ok (.dup, 1) := by decide +kernel
theorem dL_law_12 : decode cL_law 12 = .ok (.invokespecial 12, 3) := by decide +kernel
theorem dL_law_15 : decode cL_law 15 = .ok (.astore_n 2, 1) := by decide +kernel
theorem dL_law_16 : decode cL_law 16 = .ok (.iconst 0, 1) := by decide +kernel
theorem dL_law_17 : decode cL_law 17 = .ok (.istore_n 3, 1) := by decide +kernel
theorem dL_law_18 : decode cL_law 18 = .ok (.iload_n 3, 1) := by decide +kernel
theorem dL_law_19 : decode cL_law 19 = .ok (.aload_n 0, 1) := by decide +kernel
theorem dL_law_20 : decode cL_law 20 = .ok (.arraylength, 1) := by decide +kernel
theorem dL_law_21 : decode cL_law 21 = .ok (.bipush 6, 2) := by decide +kernel
theorem dL_law_23 : decode cL_law 23 = .ok (.isub, 1) := by decide +kernel
theorem dL_law_24 : decode cL_law 24 = .ok (.if_icmp .gt 2138, 3) := by decide +kernel
theorem dL_law_2162 : decode cL_law 2162 = .ok (.iconst 1, 1) := by decide +kernel
theorem dL_law_2163 : decode cL_law 2163 = .ok (.ireturn, 1) := by decide +kernel
theorem dL_law_27 : decode cL_law 27 = .ok (.aload_n 0, 1) := by decide +kernel
theorem dL_law_28 : decode cL_law 28 = .ok (.iload_n 3, 1) := by decide +kernel
theorem dL_law_29 : decode cL_law 29 = .ok (.iaload, 1) := by decide +kernel
theorem dL_law_30 : decode cL_law 30 = .ok (.bipush 63, 2) := by decide +kernel
theorem dL_law_32 : decode cL_law 32 = .ok (.iand, 1) := by decide +kernel
theorem dL_law_2159 : decode cL_law 2159 = .ok (.goto (-2141), 3) := by decide +kernel
