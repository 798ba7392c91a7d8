theorem dL_law_2017 : decode cL_law 2017 = .ok (.iload_n 3, 1) := by decide +kernel
theorem dL_law_2018 : decode cL_law 2018 = .ok (.iconst 4, 1) := by decide +kernel
theorem dL_law_2019 : decode cL_law 2019 = .ok (.iadd, 1) := by decide +kernel
theorem dL_law_2020 : decode cL_law 2020 = .ok (.iaload, 1) := by decide +kernel
theorem dL_law_2021 : decode cL_law 2021 = .ok (.i2l, 1) := by decide +kernel
theorem dL_law_2022 : decode cL_law 2022 = .ok (.ldc2_w 287, 3) := by decide +kernel
theorem dL_law_2025 : decode cL_law 2025 = .ok (.land, 1) := by decide +kernel
theorem dL_law_2026 : decode cL_law 2026 = .ok (.lor, 1) := by decide +kernel
theorem dL_law_2027 : decode cL_law 2027 = .ok (.invokevirtual 289, 3) := by decide +kernel
theorem dL_law_2030 : decode cL_law 2030 = .ok (.aload_n 2, 1) := by decide +kernel
theorem dL_law_2031 : decode cL_law 2031 = .ok (.aload_n 0, 1) := by decide +kernel
theorem dL_law_2032 : decode cL_law 2032 = .ok (.iload_n 3, 1) := by decide +kernel
theorem dL_law_2033 : decode cL_law 2033 = .ok (.iconst 1, 1) := by decide +kernel
theorem dL_law_2034 : decode cL_law 2034 = .ok (.iadd, 1) := by decide +kernel
theorem dL_law_2035 : decode cL_law 2035 = .ok (.iaload, 1) := by decide +kernel
theorem dL_law_2036 : decode cL_law 2036 = .ok (.aload_n 0, 1) := by decide +kernel
theorem dL_law_2037 : decode cL_law 2037 = .ok (.iload_n 3, 1) := by decide +kernel
theorem dL_law_2038 : decode cL_law 2038 = .ok (.iconst 2, 1) := by decide +kernel
theorem dL_law_2039 : decode cL_law 2039 = .ok (.iadd, 1) := by decide +kernel
theorem dL_law_2040 : decode cL_law 2040 = .ok (.iaload, 1) := by decide +kernel
theorem dL_law_2041 : decode cL_law 2041 = .ok (.aload_n 0, 1) := by decide +kernel
theorem dL_law_2042 : decode cL_law 2042 = .ok (.iload_n 3, 1) := by decide +kernel
theorem dL_law_2043 : decode cL_law 2043 = .ok (.iconst 3, 1) := by decide +kernel
theorem dL_law_2044 : decode cL_law 2044 = .ok (.iadd, 1) := by decide +kernel
theorem dL_law_2045 : decode cL_law 2045 = .ok (.iaload, 1) := by decide +kernel
theorem dL_law_2046 : decode cL_law 2046 = .ok (.i2l, 1) := by decide +kernel
theorem dL_law_2047 : decode cL_law 2047 = .ok (.bipush 32, 2) := by decide +kernel
theorem dL_law_2049 : decode cL_law 2049 = .ok (.lshl, 1) := by decide +kernel
theorem dL_law_2050 : decode cL_law 2050 = .ok (.aload_n 0, 1) := by decide +kernel
theorem dL_law_2051 : decode cL_law 2051 = .ok (.iload_n 3, 1) := by decide +kernel
theorem dL_law_2052 : decode cL_law 2052 = .ok (.iconst 4, 1) := by decide +kernel
theorem dL_law_2053 : decode cL_law 2053 = .ok (.iadd, 1) := by decide +kernel
theorem dL_law_2054 : decode cL_law 2054 = .ok (.iaload, 1) := by decide +kernel
theorem dL_law_2055 : decode cL_law 2055 = .ok (.i2l, 1) := by decide +kernel
theorem dL_law_2056 : decode cL_law 2056 = .ok (.ldc2_w 287, 3) := by decide +kernel
theorem dL_law_2059 : decode cL_law 2059 = .ok (.land, 1) := by decide +kernel
theorem dL_law_2060 : decode cL_law 2060 = .ok (.lor, 1) := by decide +kernel
theorem dL_law_2061 : decode cL_law 2061 = .ok (.invokevirtual 293, 3) := by decide +kernel
theorem dL_law_2064 : decode cL_law 2064 = .ok (.if_icmp .eq 68, 3) := by decide +kernel
theorem dL_law_2069 : decode cL_law 2069 = .ok (.aload_n 1, 1) := by decide +kernel
theorem dL_law_2070 : decode cL_law 2070 = .ok (.aload_n 0, 1) := by decide +kernel
theorem dL_law_2071 : decode cL_law 2071 = .ok (.iload_n 3, 1) := by decide +kernel
theorem dL_law_2072 : decode cL_law 2072 = .ok (.iconst 1, 1) := by decide +kernel
theorem dL_law_2073 : decode cL_law 2073 = .ok (.iadd, 1) := by decide +kernel
theorem dL_law_2074 : decode cL_law 2074 = .ok (.iaload, 1) := by decide +kernel
theorem dL_law_2075 : decode cL_law 2075 = .ok (.aload_n 0, 1) := by decide +kernel
theorem dL_law_2076 : decode cL_law 2076 = .ok (.iload_n 3, 1) := by decide +kernel
theorem dL_law_2077 : decode cL_law 2077 = .ok (.iconst 2, 1) := by decide +kernel
theorem dL_law_2078 : decode cL_law 2078 = .ok (.iadd, 1) := by decide +kernel
theorem dL_law_2079 : decode cL_law 2079 = .ok (.iaload, 1) := by decide +kernel
theorem dL_law_2080 : decode cL_law 2080 = .ok (.aload_n 0, 1) := by decide +kernel
theorem dL_law_2081 : decode cL_law 2081 = .ok (.iload_n 3, 1) := by decide +kernel
theorem dL_law_2082 : decode cL_law 2082 = .ok (.iconst 3, 1) := by decide +kernel
theorem dL_law_2083 : decode cL_law 2083 = .ok (.iadd, 1) := by decide +kernel
theorem dL_law_2084 : decode cL_law 2084 = .ok (.iaload, 1) := by decide +kernel
theorem dL_law_2085 : decode cL_law 2085 = .ok (.aload_n 0, 1) := by decide +kernel
theorem dL_law_2086 : decode cL_law 2086 = .ok (.iload_n 3, 1) := by decide +kernel
theorem dL_law_2087 : decode cL_law 2087 = .ok (.iconst 4, 1) := by decide +kernel
theorem dL_law_2088 : decode cL_law 2088 = .ok (.iadd, 1) := by decide +kernel
theorem dL_law_2089 : decode cL_law 2089 = .ok (.iaload, 1) := by decide +kernel
theorem dL_law_2090 : decode cL_law 2090 = .ok (.aload_n 0, 1) := by decide +kernel
theorem dL_law_2091 : decode cL_law 2091 = .ok (.iload_n 3, 1) := by decide +kernel
theorem dL_law_2092 : decode cL_law 2092 = .ok (.iconst 5, 1) := by decide +kernel
theorem dL_law_2093 : decode cL_law 2093 = .ok (.iadd, 1) := by decide +kernel
theorem dL_law_2094 : decode cL_law 2094 = .ok (.iaload, 1) := by decide +kernel
theorem dL_law_2095 : decode cL_law 2095 = .ok (.invokevirtual 294, 3) := by decide +kernel
theorem dL_law_2098 : decode cL_law 2098 = .ok (.aload_n 2, 1) := by decide +kernel
theorem dL_law_2099 : decode cL_law 2099 = .ok (.aload_n 0, 1) := by decide +kernel
theorem dL_law_2100 : decode cL_law 2100 = .ok (.iload_n 3, 1) := by decide +kernel
theorem dL_law_2101 : decode cL_law 2101 = .ok (.iconst 1, 1) := by decide +kernel
theorem dL_law_2102 : decode cL_law 2102 = .ok (.iadd, 1) := by decide +kernel
theorem dL_law_2103 : decode cL_law 2103 = .ok (.iaload, 1) := by decide +kernel
theorem dL_law_2104 : decode cL_law 2104 = .ok (.aload_n 0, 1) := by decide +kernel
theorem dL_law_2105 : decode cL_law 2105 = .ok (.iload_n 3, 1) := by decide +kernel
theorem dL_law_2106 : decode cL_law 2106 = .ok (.iconst 2, 1) := by decide +kernel
theorem dL_law_2107 : decode cL_law 2107 = .ok (.iadd, 1) := by decide +kernel
theorem dL_law_2108 : decode cL_law 2108 = .ok (.iaload, 1) := by decide +kernel
theorem dL_law_2109 : decode cL_law 2109 = .ok (.aload_n 0, 1) := by decide +kernel
theorem dL_law_2110 : decode cL_law 2110 = .ok (.iload_n 3, 1) := by decide +kernel
theorem dL_law_2111 : decode cL_law 2111 = .ok (.iconst 3, 1) := by decide +kernel
theorem dL_law_2112 : decode cL_law 2112 = .ok (.iadd, 1) := by decide +kernel
theorem dL_law_2113 : decode cL_law 2113 = .ok (.iaload, 1) := by decide +kernel
theorem dL_law_2114 : decode cL_law 2114 = .ok (.aload_n 0, 1) := by decide +kernel
theorem dL_law_2115 : decode cL_law 2115 = .ok (.iload_n 3, 1) := by decide +kernel
theorem dL_law_2116 : decode cL_law 2116 = .ok (.iconst 4, 1) := by decide +kernel
theorem dL_law_2117 : decode cL_law 2117 = .ok (.iadd, 1) := by decide +kernel
theorem dL_law_2118 : decode cL_law 2118 = .ok (.iaload, 1) := by decide +kernel
theorem dL_law_2119 : decode cL_law 2119 = .ok (.aload_n 0, 1) := by decide +kernel
theorem dL_law_2120 : decode cL_law 2120 = .ok (.iload_n 3, 1) := by decide +kernel
theorem dL_law_2121 : decode cL_law 2121 = .ok (.iconst 5, 1) := by decide +kernel
theorem dL_law_2122 : decode cL_law 2122 = .ok (.iadd, 1) := by decide +kernel
theorem dL_law_2123 : decode cL_law 2123 = .ok (.iaload, 1) := by decide +kernel
theorem dL_law_2124 : decode cL_law 2124 = .ok (.invokevirtual 297, 3) := by decide +kernel
theorem dL_law_2127 : decode cL_law 2127 = .ok (.if_icmp .eq 5, 3) := by decide +kernel
theorem dL_law_2132 : decode cL_law 2132 = .ok (.iinc 3 6, 3) := by decide +kernel
theorem dL_law_2135 : decode cL_law 2135 = .ok (.goto (-2117), 3) := by decide +kernel
theorem dL_law_2138 : decode cL_law 2138 = .ok (.iconst 1, 1) := by decide +kernel
theorem dL_law_2139 : decode cL_law 2139 = .ok (.ireturn, 1) := by decide +kernel
