theorem dL_law_1811 : decode cL_law 1811 = .ok (.lcmp, 1) := by decide +kernel
theorem dL_law_1812 : decode cL_law 1812 = .ok (.ifCond .eq 5, 3) := by decide +kernel
theorem dL_law_1815 : decode cL_law 1815 = .ok (.iconst 0, 1) := by decide +kernel
theorem dL_law_1816 : decode cL_law 1816 = .ok (.ireturn, 1) := by decide +kernel
theorem dL_law_1817 : decode cL_law 1817 = .ok (.goto 389, 3) := by decide +kernel
theorem dL_law_1820 : decode cL_law 1820 = .ok (.aload_n 1, 1) := by decide +kernel
theorem dL_law_1821 : decode cL_law 1821 = .ok (.invokevirtual 232, 3) := by decide +kernel
theorem dL_law_1824 : decode cL_law 1824 = .ok (.aload_n 2, 1) := by decide +kernel
theorem dL_law_1825 : decode cL_law 1825 = .ok (.invokevirtual 235, 3) := by decide +kernel
theorem dL_law_1828 : decode cL_law 1828 = .ok (.if_icmp .eq 378, 3) := by decide +kernel
theorem dL_law_1831 : decode cL_law 1831 = .ok (.iconst 0, 1) := by decide +kernel
theorem dL_law_1832 : decode cL_law 1832 = .ok (.ireturn, 1) := by decide +kernel
theorem dL_law_1833 : decode cL_law 1833 = .ok (.aload_n 1, 1) := by decide +kernel
theorem dL_law_1834 : decode cL_law 1834 = .ok (.aload_n 0, 1) := by decide +kernel
theorem dL_law_1835 : decode cL_law 1835 = .ok (.iload 5, 2) := by decide +kernel
theorem dL_law_1837 : decode cL_law 1837 = .ok (.iconst 1, 1) := by decide +kernel
theorem dL_law_1838 : decode cL_law 1838 = .ok (.iadd, 1) := by decide +kernel
theorem dL_law_1839 : decode cL_law 1839 = .ok (.iaload, 1) := by decide +kernel
theorem dL_law_1840 : decode cL_law 1840 = .ok (.ifCond .eq 7, 3) := by decide +kernel
theorem dL_law_1843 : decode cL_law 1843 = .ok (.iconst 1, 1) := by decide +kernel
theorem dL_law_1844 : decode cL_law 1844 = .ok (.goto 4, 3) := by decide +kernel
theorem dL_law_1847 : decode cL_law 1847 = .ok (.iconst 0, 1) := by decide +kernel
theorem dL_law_1848 : decode cL_law 1848 = .ok (.aload_n 3, 1) := by decide +kernel
theorem dL_law_1849 : decode cL_law 1849 = .ok (.invokestatic 236, 3) := by decide +kernel
theorem dL_law_1852 : decode cL_law 1852 = .ok (.istore 6, 2) := by decide +kernel
theorem dL_law_1854 : decode cL_law 1854 = .ok (.aload_n 2, 1) := by decide +kernel
theorem dL_law_1855 : decode cL_law 1855 = .ok (.aload_n 0, 1) := by decide +kernel
theorem dL_law_1856 : decode cL_law 1856 = .ok (.iload 5, 2) := by decide +kernel
theorem dL_law_1858 : decode cL_law 1858 = .ok (.iconst 1, 1) := by decide +kernel
theorem dL_law_1859 : decode cL_law 1859 = .ok (.iadd, 1) := by decide +kernel
theorem dL_law_1860 : decode cL_law 1860 = .ok (.iaload, 1) := by decide +kernel
theorem dL_law_1861 : decode cL_law 1861 = .ok (.ifCond .eq 7, 3) := by decide +kernel
theorem dL_law_1864 : decode cL_law 1864 = .ok (.iconst 1, 1) := by decide +kernel
theorem dL_law_1865 : decode cL_law 1865 = .ok (.goto 4, 3) := by decide +kernel
theorem dL_law_1868 : decode cL_law 1868 = .ok (.iconst 0, 1) := by decide +kernel
theorem dL_law_1869 : decode cL_law 1869 = .ok (.invokevirtual 239, 3) := by decide +kernel
theorem dL_law_1872 : decode cL_law 1872 = .ok (.istore 7, 2) := by decide +kernel
theorem dL_law_1874 : decode cL_law 1874 = .ok (.aload_n 2, 1) := by decide +kernel
theorem dL_law_1875 : decode cL_law 1875 = .ok (.invokevirtual 136, 3) := by decide +kernel
theorem dL_law_1878 : decode cL_law 1878 = .ok (.iload 6, 2) := by decide +kernel
theorem dL_law_1880 : decode cL_law 1880 = .ok (.if_icmp .eq 5, 3) := by decide +kernel
theorem dL_law_1883 : decode cL_law 1883 = .ok (.iconst 0, 1) := by decide +kernel
theorem dL_law_1884 : decode cL_law 1884 = .ok (.ireturn, 1) := by decide +kernel
theorem dL_law_1885 : decode cL_law 1885 = .ok (.iload 6, 2) := by decide +kernel
theorem dL_law_1887 : decode cL_law 1887 = .ok (.ifCond .ne 15, 3) := by decide +kernel
theorem dL_law_1890 : decode cL_law 1890 = .ok (.aload_n 3, 1) := by decide +kernel
theorem dL_law_1891 : decode cL_law 1891 = .ok (.iconst 0, 1) := by decide +kernel
theorem dL_law_1892 : decode cL_law 1892 = .ok (.laload, 1) := by decide +kernel
theorem dL_law_1893 : decode cL_law 1893 = .ok (.iload 7, 2) := by decide +kernel
theorem dL_law_1895 : decode cL_law 1895 = .ok (.i2l, 1) := by decide +kernel
theorem dL_law_1896 : decode cL_law 1896 = .ok (.lcmp, 1) := by decide +kernel
theorem dL_law_1897 : decode cL_law 1897 = .ok (.ifCond .eq 5, 3) := by decide +kernel
theorem dL_law_1900 : decode cL_law 1900 = .ok (.iconst 0, 1) := by decide +kernel
theorem dL_law_1901 : decode cL_law 1901 = .ok (.ireturn, 1) := by decide +kernel
theorem dL_law_1902 : decode cL_law 1902 = .ok (.goto 304, 3) := by decide +kernel
theorem dL_law_1905 : decode cL_law 1905 = .ok (.aload_n 1, 1) := by decide +kernel
theorem dL_law_1906 : decode cL_law 1906 = .ok (.aload_n 0, 1) := by decide +kernel
theorem dL_law_1907 : decode cL_law 1907 = .ok (.iload 5, 2) := by decide +kernel
theorem dL_law_1909 : decode cL_law 1909 = .ok (.iconst 1, 1) := by decide +kernel
theorem dL_law_1910 : decode cL_law 1910 = .ok (.iadd, 1) := by decide +kernel
theorem dL_law_1911 : decode cL_law 1911 = .ok (.iaload, 1) := by decide +kernel
theorem dL_law_1912 : decode cL_law 1912 = .ok (.aload_n 3, 1) := by decide +kernel
theorem dL_law_1913 : decode cL_law 1913 = .ok (.invokestatic 240, 3) := by decide +kernel
theorem dL_law_1916 : decode cL_law 1916 = .ok (.istore 6, 2) := by decide +kernel
theorem dL_law_1918 : decode cL_law 1918 = .ok (.aload_n 2, 1) := by decide +kernel
theorem dL_law_1919 : decode cL_law 1919 = .ok (.aload_n 0, 1) := by decide +kernel
theorem dL_law_1920 : decode cL_law 1920 = .ok (.iload 5, 2) := by decide +kernel
theorem dL_law_1922 : decode cL_law 1922 = .ok (.iconst 1, 1) := by decide +kernel
theorem dL_law_1923 : decode cL_law 1923 = .ok (.iadd, 1) := by decide +kernel
theorem dL_law_1924 : decode cL_law 1924 = .ok (.iaload, 1) := by decide +kernel
theorem dL_law_1925 : decode cL_law 1925 = .ok (.invokevirtual 242, 3) := by decide +kernel
theorem dL_law_1928 : decode cL_law 1928 = .ok (.istore 7, 2) := by decide +kernel
theorem dL_law_1930 : decode cL_law 1930 = .ok (.aload_n 2, 1) := by decide +kernel
theorem dL_law_1931 : decode cL_law 1931 = .ok (.invokevirtual 136, 3) := by decide +kernel
theorem dL_law_1934 : decode cL_law 1934 = .ok (.iload 6, 2) := by decide +kernel
theorem dL_law_1936 : decode cL_law 1936 = .ok (.if_icmp .eq 5, 3) := by decide +kernel
theorem dL_law_1939 : decode cL_law 1939 = .ok (.iconst 0, 1) := by decide +kernel
theorem dL_law_1940 : decode cL_law 1940 = .ok (.ireturn, 1) := by decide +kernel
theorem dL_law_1941 : decode cL_law 1941 = .ok (.iload 6, 2) := by decide +kernel
theorem dL_law_1943 : decode cL_law 1943 = .ok (.ifCond .ne 15, 3) := by decide +kernel
