theorem qL_law_1934 : decode (mB mL_law) 1934 = .ok (.invokestatic 285, 3) := by decide +kernel
theorem qL_law_1937 : decode (mB mL_law) 1937 = .ok (.istore 5, 2) := by decide +kernel
theorem qL_law_1939 : decode (mB mL_law) 1939 = .ok (.aload_n 2, 1) := by decide +kernel
theorem qL_law_1940 : decode (mB mL_law) 1940 = .ok (.aload_n 0, 1) := by decide +kernel
theorem qL_law_1941 : decode (mB mL_law) 1941 = .ok (.iload 4, 2) := by decide +kernel
theorem qL_law_1943 : decode (mB mL_law) 1943 = .ok (.iconst 1, 1) := by decide +kernel
theorem qL_law_1944 : decode (mB mL_law) 1944 = .ok (.iadd, 1) := by decide +kernel
theorem qL_law_1945 : decode (mB mL_law) 1945 = .ok (.iaload, 1) := by decide +kernel
theorem qL_law_1946 : decode (mB mL_law) 1946 = .ok (.aload_n 0, 1) := by decide +kernel
theorem qL_law_1947 : decode (mB mL_law) 1947 = .ok (.iload 4, 2) := by decide +kernel
theorem qL_law_1949 : decode (mB mL_law) 1949 = .ok (.iconst 2, 1) := by decide +kernel
theorem qL_law_1950 : decode (mB mL_law) 1950 = .ok (.iadd, 1) := by decide +kernel
theorem qL_law_1951 : decode (mB mL_law) 1951 = .ok (.iaload, 1) := by decide +kernel
theorem qL_law_1952 : decode (mB mL_law) 1952 = .ok (.invokevirtual 287, 3) := by decide +kernel
theorem qL_law_1955 : decode (mB mL_law) 1955 = .ok (.istore 6, 2) := by decide +kernel
theorem qL_law_1957 : decode (mB mL_law) 1957 = .ok (.aload_n 2, 1) := by decide +kernel
theorem qL_law_1958 : decode (mB mL_law) 1958 = .ok (.invokevirtual 180, 3) := by decide +kernel
theorem qL_law_1961 : decode (mB mL_law) 1961 = .ok (.iload 5, 2) := by decide +kernel
theorem qL_law_1963 : decode (mB mL_law) 1963 = .ok (.if_icmp .eq 5, 3) := by decide +kernel
theorem qL_law_1966 : decode (mB mL_law) 1966 = .ok (.iconst 0, 1) := by decide +kernel
theorem qL_law_1967 : decode (mB mL_law) 1967 = .ok (.ireturn, 1) := by decide +kernel
theorem qL_law_1968 : decode (mB mL_law) 1968 = .ok (.iload 5, 2) := by decide +kernel
theorem qL_law_1970 : decode (mB mL_law) 1970 = .ok (.ifCond .ne 15, 3) := by decide +kernel
theorem qL_law_1973 : decode (mB mL_law) 1973 = .ok (.aload_n 3, 1) := by decide +kernel
theorem qL_law_1974 : decode (mB mL_law) 1974 = .ok (.iconst 0, 1) := by decide +kernel
theorem qL_law_1975 : decode (mB mL_law) 1975 = .ok (.laload, 1) := by decide +kernel
theorem qL_law_1976 : decode (mB mL_law) 1976 = .ok (.iload 6, 2) := by decide +kernel
theorem qL_law_1978 : decode (mB mL_law) 1978 = .ok (.i2l, 1) := by decide +kernel
theorem qL_law_1979 : decode (mB mL_law) 1979 = .ok (.lcmp, 1) := by decide +kernel
theorem qL_law_1980 : decode (mB mL_law) 1980 = .ok (.ifCond .eq 5, 3) := by decide +kernel
theorem qL_law_1983 : decode (mB mL_law) 1983 = .ok (.iconst 0, 1) := by decide +kernel
theorem qL_law_1984 : decode (mB mL_law) 1984 = .ok (.ireturn, 1) := by decide +kernel
theorem qL_law_1985 : decode (mB mL_law) 1985 = .ok (.goto 1572, 3) := by decide +kernel
theorem qL_law_1988 : decode (mB mL_law) 1988 = .ok (.aload_n 1, 1) := by decide +kernel
theorem qL_law_1989 : decode (mB mL_law) 1989 = .ok (.aload_n 0, 1) := by decide +kernel
theorem qL_law_1990 : decode (mB mL_law) 1990 = .ok (.iload 4, 2) := by decide +kernel
theorem qL_law_1992 : decode (mB mL_law) 1992 = .ok (.iconst 1, 1) := by decide +kernel
theorem qL_law_1993 : decode (mB mL_law) 1993 = .ok (.iadd, 1) := by decide +kernel
theorem qL_law_1994 : decode (mB mL_law) 1994 = .ok (.iaload, 1) := by decide +kernel
theorem qL_law_1995 : decode (mB mL_law) 1995 = .ok (.aload_n 3, 1) := by decide +kernel
theorem qL_law_1996 : decode (mB mL_law) 1996 = .ok (.invokestatic 288, 3) := by decide +kernel
theorem qL_law_1999 : decode (mB mL_law) 1999 = .ok (.istore 5, 2) := by decide +kernel
theorem qL_law_2001 : decode (mB mL_law) 2001 = .ok (.aload_n 2, 1) := by decide +kernel
theorem qL_law_2002 : decode (mB mL_law) 2002 = .ok (.aload_n 0, 1) := by decide +kernel
theorem qL_law_2003 : decode (mB mL_law) 2003 = .ok (.iload 4, 2) := by decide +kernel
theorem qL_law_2005 : decode (mB mL_law) 2005 = .ok (.iconst 1, 1) := by decide +kernel
theorem qL_law_2006 : decode (mB mL_law) 2006 = .ok (.iadd, 1) := by decide +kernel
theorem qL_law_2007 : decode (mB mL_law) 2007 = .ok (.iaload, 1) := by decide +kernel
theorem qL_law_2008 : decode (mB mL_law) 2008 = .ok (.invokevirtual 290, 3) := by decide +kernel
theorem qL_law_2011 : decode (mB mL_law) 2011 = .ok (.istore 6, 2) := by decide +kernel
theorem qL_law_2013 : decode (mB mL_law) 2013 = .ok (.aload_n 2, 1) := by decide +kernel
theorem qL_law_2014 : decode (mB mL_law) 2014 = .ok (.invokevirtual 180, 3) := by decide +kernel
theorem qL_law_2017 : decode (mB mL_law) 2017 = .ok (.iload 5, 2) := by decide +kernel
theorem qL_law_2019 : decode (mB mL_law) 2019 = .ok (.if_icmp .eq 5, 3) := by decide +kernel
theorem qL_law_2022 : decode (mB mL_law) 2022 = .ok (.iconst 0, 1) := by decide +kernel
theorem qL_law_2023 : decode (mB mL_law) 2023 = .ok (.ireturn, 1) := by decide +kernel
theorem qL_law_2024 : decode (mB mL_law) 2024 = .ok (.iload 5, 2) := by decide +kernel
theorem qL_law_2026 : decode (mB mL_law) 2026 = .ok (.ifCond .ne 15, 3) := by decide +kernel
theorem qL_law_2029 : decode (mB mL_law) 2029 = .ok (.aload_n 3, 1) := by decide +kernel
theorem qL_law_2030 : decode (mB mL_law) 2030 = .ok (.iconst 0, 1) := by decide +kernel
theorem qL_law_2031 : decode (mB mL_law) 2031 = .ok (.laload, 1) := by decide +kernel
theorem qL_law_2032 : decode (mB mL_law) 2032 = .ok (.iload 6, 2) := by decide +kernel
theorem qL_law_2034 : decode (mB mL_law) 2034 = .ok (.i2l, 1) := by decide +kernel
theorem qL_law_2035 : decode (mB mL_law) 2035 = .ok (.lcmp, 1) := by decide +kernel
theorem qL_law_2036 : decode (mB mL_law) 2036 = .ok (.ifCond .eq 5, 3) := by decide +kernel
theorem qL_law_2039 : decode (mB mL_law) 2039 = .ok (.iconst 0, 1) := by decide +kernel
theorem qL_law_2040 : decode (mB mL_law) 2040 = .ok (.ireturn, 1) := by decide +kernel
theorem qL_law_2041 : decode (mB mL_law) 2041 = .ok (.goto 1516, 3) := by decide +kernel
theorem qL_law_2044 : decode (mB mL_law) 2044 = .ok (.aload_n 1, 1) := by decide +kernel
theorem qL_law_2045 : decode (mB mL_law) 2045 = .ok (.invokevirtual 291, 3) := by decide +kernel
theorem qL_law_2048 : decode (mB mL_law) 2048 = .ok (.aload_n 2, 1) := by decide +kernel
theorem qL_law_2049 : decode (mB mL_law) 2049 = .ok (.invokevirtual 294, 3) := by decide +kernel
theorem qL_law_2052 : decode (mB mL_law) 2052 = .ok (.if_icmp .eq 1505, 3) := by decide +kernel
theorem qL_law_2055 : decode (mB mL_law) 2055 = .ok (.iconst 0, 1) := by decide +kernel
theorem qL_law_2056 : decode (mB mL_law) 2056 = .ok (.ireturn, 1) := by decide +kernel
theorem qL_law_2057 : decode (mB mL_law) 2057 = .ok (.aload_n 1, 1) := by decide +kernel
theorem qL_law_2058 : decode (mB mL_law) 2058 = .ok (.invokevirtual 295, 3) := by decide +kernel
theorem qL_law_2061 : decode (mB mL_law) 2061 = .ok (.aload_n 2, 1) := by decide +kernel
theorem qL_law_2062 : decode (mB mL_law) 2062 = .ok (.invokevirtual 298, 3) := by decide +kernel
theorem qL_law_2065 : decode (mB mL_law) 2065 = .ok (.if_icmp .eq 1492, 3) := by decide +kernel
theorem qL_law_2068 : decode (mB mL_law) 2068 = .ok (.iconst 0, 1) := by decide +kernel
theorem qL_law_2069 : decode (mB mL_law) 2069 = .ok (.ireturn, 1) := by decide +kernel
theorem qL_law_2070 : decode (mB mL_law) 2070 = .ok (.aload_n 1, 1) := by decide +kernel
theorem qL_law_2071 : decode (mB mL_law) 2071 = .ok (.invokevirtual 299, 3) := by decide +kernel
theorem qL_law_2074 : decode (mB mL_law) 2074 = .ok (.aload_n 2, 1) := by decide +kernel
theorem qL_law_2075 : decode (mB mL_law) 2075 = .ok (.invokevirtual 302, 3) := by decide +kernel
theorem qL_law_2078 : decode (mB mL_law) 2078 = .ok (.if_icmp .eq 1479, 3) := by decide +kernel
theorem qL_law_2081 : decode (mB mL_law) 2081 = .ok (.iconst 0, 1) := by decide +kernel
theorem qL_law_2082 : decode (mB mL_law) 2082 = .ok (.ireturn, 1) := by decide +kernel
theorem qL_law_2083 : decode (mB mL_law) 2083 = .ok (.aload_n 1, 1) := by decide +kernel
theorem qL_law_2084 : decode (mB mL_law) 2084 = .ok (.aload_n 0, 1) := by decide +kernel
theorem qL_law_2085 : decode (mB mL_law) 2085 = .ok (.iload 4, 2) := by decide +kernel
theorem qL_law_2087 : decode (mB mL_law) 2087 = .ok (.iconst 1, 1) := by decide +kernel
theorem qL_law_2088 : decode (mB mL_law) 2088 = .ok (.iadd, 1) := by decide +kernel
theorem qL_law_2089 : decode (mB mL_law) 2089 = .ok (.iaload, 1) := by decide +kernel
theorem qL_law_2090 : decode (mB mL_law) 2090 = .ok (.aload_n 0, 1) := by decide +kernel
theorem qL_law_2091 : decode (mB mL_law) 2091 = .ok (.iload 4, 2) := by decide +kernel
theorem qL_law_2093 : decode (mB mL_law) 2093 = .ok (.iconst 2, 1) := by decide +kernel
theorem qL_law_2094 : decode (mB mL_law) 2094 = .ok (.iadd, 1) := by decide +kernel
theorem qL_law_2095 : decode (mB mL_law) 2095 = .ok (.iaload, 1) := by decide +kernel
theorem qL_law_2096 : decode (mB mL_law) 2096 = .ok (.aload_n 3, 1) := by decide +kernel
theorem qL_law_2097 : decode (mB mL_law) 2097 = .ok (.invokestatic 303, 3) := by decide +kernel
theorem qL_law_2100 : decode (mB mL_law) 2100 = .ok (.istore 5, 2) := by decide +kernel
theorem qL_law_2102 : decode (mB mL_law) 2102 = .ok (.aload_n 2, 1) := by decide +kernel
theorem qL_law_2103 : decode (mB mL_law) 2103 = .ok (.aload_n 0, 1) := by decide +kernel
theorem qL_law_2104 : decode (mB mL_law) 2104 = .ok (.iload 4, 2) := by decide +kernel
theorem qL_law_2106 : decode (mB mL_law) 2106 = .ok (.iconst 1, 1) := by decide +kernel
theorem qL_law_2107 : decode (mB mL_law) 2107 = .ok (.iadd, 1) := by decide +kernel
theorem qL_law_2108 : decode (mB mL_law) 2108 = .ok (.iaload, 1) := by decide +kernel
theorem qL_law_2109 : decode (mB mL_law) 2109 = .ok (.aload_n 0, 1) := by decide +kernel
theorem qL_law_2110 : decode (mB mL_law) 2110 = .ok (.iload 4, 2) := by decide +kernel
theorem qL_law_2112 : decode (mB mL_law) 2112 = .ok (.iconst 2, 1) := by decide +kernel
theorem qL_law_2113 : decode (mB mL_law) 2113 = .ok (.iadd, 1) := by decide +kernel
theorem qL_law_2114 : decode (mB mL_law) 2114 = .ok (.iaload, 1) := by decide +kernel
theorem qL_law_2115 : decode (mB mL_law) 2115 = .ok (.invokevirtual 305, 3) := by decide +kernel
theorem qL_law_2118 : decode (mB mL_law) 2118 = .ok (.istore 6, 2) := by decide +kernel
theorem qL_law_2120 : decode (mB mL_law) 2120 = .ok (.aload_n 2, 1) := by decide +kernel
theorem qL_law_2121 : decode (mB mL_law) 2121 = .ok (.invokevirtual 180, 3) := by decide +kernel
theorem qL_law_2124 : decode (mB mL_law) 2124 = .ok (.iload 5, 2) := by decide +kernel
theorem qL_law_2126 : decode (mB mL_law) 2126 = .ok (.if_icmp .eq 5, 3) := by decide +kernel
theorem qL_law_2129 : decode (mB mL_law) 2129 = .ok (.iconst 0, 1) := by decide +kernel
theorem qL_law_2130 : decode (mB mL_law) 2130 = .ok (.ireturn, 1) := by decide +kernel
theorem qL_law_2131 : decode (mB mL_law) 2131 = .ok (.iload 5, 2) := by decide +kernel
theorem qL_law_2133 : decode (mB mL_law) 2133 = .ok (.ifCond .ne 15, 3) := by decide +kernel
theorem qL_law_2136 : decode (mB mL_law) 2136 = .ok (.aload_n 3, 1) := by decide +kernel
theorem qL_law_2137 : decode (mB mL_law) 2137 = .ok (.iconst 0, 1) := by decide +kernel
theorem qL_law_2138 : decode (mB mL_law) 2138 = .ok (.laload, 1) := by decide +kernel
theorem qL_law_2139 : decode (mB mL_law) 2139 = .ok (.iload 6, 2) := by decide +kernel
theorem qL_law_2141 : decode (mB mL_law) 2141 = .ok (.i2l, 1) := by decide +kernel
theorem qL_law_2142 : decode (mB mL_law) 2142 = .ok (.lcmp, 1) := by decide +kernel
theorem qL_law_2143 : decode (mB mL_law) 2143 = .ok (.ifCond .eq 5, 3) := by decide +kernel
theorem qL_law_2146 : decode (mB mL_law) 2146 = .ok (.iconst 0, 1) := by decide +kernel
theorem qL_law_2147 : decode (mB mL_law) 2147 = .ok (.ireturn, 1) := by decide +kernel
theorem qL_law_2148 : decode (mB mL_law) 2148 = .ok (.goto 1409, 3) := by decide +kernel
theorem qL_law_2151 : decode (mB mL_law) 2151 = .ok (.aload_n 1, 1) := by decide +kernel
theorem qL_law_2152 : decode (mB mL_law) 2152 = .ok (.aload_n 0, 1) := by decide +kernel
theorem qL_law_2153 : decode (mB mL_law) 2153 = .ok (.iload 4, 2) := by decide +kernel
theorem qL_law_2155 : decode (mB mL_law) 2155 = .ok (.iconst 1, 1) := by decide +kernel
theorem qL_law_2156 : decode (mB mL_law) 2156 = .ok (.iadd, 1) := by decide +kernel
theorem qL_law_2157 : decode (mB mL_law) 2157 = .ok (.iaload, 1) := by decide +kernel
theorem qL_law_2158 : decode (mB mL_law) 2158 = .ok (.aload_n 0, 1) := by decide +kernel
theorem qL_law_2159 : decode (mB mL_law) 2159 = .ok (.iload 4, 2) := by decide +kernel
theorem qL_law_2161 : decode (mB mL_law) 2161 = .ok (.iconst 2, 1) := by decide +kernel
theorem qL_law_2162 : decode (mB mL_law) 2162 = .ok (.iadd, 1) := by decide +kernel
theorem qL_law_2163 : decode (mB mL_law) 2163 = .ok (.iaload, 1) := by decide +kernel
theorem qL_law_2164 : decode (mB mL_law) 2164 = .ok (.aload_n 3, 1) := by decide +kernel
theorem qL_law_2165 : decode (mB mL_law) 2165 = .ok (.invokestatic 306, 3) := by decide +kernel
theorem qL_law_2168 : decode (mB mL_law) 2168 = .ok (.istore 5, 2) := by decide +kernel
theorem qL_law_2170 : decode (mB mL_law) 2170 = .ok (.aload_n 2, 1) := by decide +kernel
theorem qL_law_2171 : decode (mB mL_law) 2171 = .ok (.aload_n 0, 1) := by decide +kernel
theorem qL_law_2172 : decode (mB mL_law) 2172 = .ok (.iload 4, 2) := by decide +kernel
theorem qL_law_2174 : decode (mB mL_law) 2174 = .ok (.iconst 1, 1) := by decide +kernel
theorem qL_law_2175 : decode (mB mL_law) 2175 = .ok (.iadd, 1) := by decide +kernel
theorem qL_law_2176 : decode (mB mL_law) 2176 = .ok (.iaload, 1) := by decide +kernel
theorem qL_law_2177 : decode (mB mL_law) 2177 = .ok (.aload_n 0, 1) := by decide +kernel
theorem qL_law_2178 : decode (mB mL_law) 2178 = .ok (.iload 4, 2) := by decide +kernel
theorem qL_law_2180 : decode (mB mL_law) 2180 = .ok (.iconst 2, 1) := by decide +kernel
theorem qL_law_2181 : decode (mB mL_law) 2181 = .ok (.iadd, 1) := by decide +kernel
theorem qL_law_2182 : decode (mB mL_law) 2182 = .ok (.iaload, 1) := by decide +kernel
theorem qL_law_2183 : decode (mB mL_law) 2183 = .ok (.invokevirtual 308, 3) := by decide +kernel
theorem qL_law_2186 : decode (mB mL_law) 2186 = .ok (.istore 6, 2) := by decide +kernel
theorem qL_law_2188 : decode (mB mL_law) 2188 = .ok (.aload_n 2, 1) := by decide +kernel
theorem qL_law_2189 : decode (mB mL_law) 2189 = .ok (.invokevirtual 180, 3) := by decide +kernel
theorem qL_law_2192 : decode (mB mL_law) 2192 = .ok (.iload 5, 2) := by decide +kernel
theorem qL_law_2194 : decode (mB mL_law) 2194 = .ok (.if_icmp .eq 5, 3) := by decide +kernel
theorem qL_law_2197 : decode (mB mL_law) 2197 = .ok (.iconst 0, 1) := by decide +kernel
theorem qL_law_2198 : decode (mB mL_law) 2198 = .ok (.ireturn, 1) := by decide +kernel
theorem qL_law_2199 : decode (mB mL_law) 2199 = .ok (.iload 5, 2) := by decide +kernel
theorem qL_law_2201 : decode (mB mL_law) 2201 = .ok (.ifCond .ne 15, 3) := by decide +kernel
theorem qL_law_2204 : decode (mB mL_law) 2204 = .ok (.aload_n 3, 1) := by decide +kernel
theorem qL_law_2205 : decode (mB mL_law) 2205 = .ok (.iconst 0, 1) := by decide +kernel
theorem qL_law_2206 : decode (mB mL_law) 2206 = .ok (.laload, 1) := by decide +kernel
theorem qL_law_2207 : decode (mB mL_law) 2207 = .ok (.iload 6, 2) := by decide +kernel
theorem qL_law_2209 : decode (mB mL_law) 2209 = .ok (.i2l, 1) := by decide +kernel
theorem qL_law_2210 : decode (mB mL_law) 2210 = .ok (.lcmp, 1) := by decide +kernel
theorem qL_law_2211 : decode (mB mL_law) 2211 = .ok (.ifCond .eq 5, 3) := by decide +kernel
theorem qL_law_2214 : decode (mB mL_law) 2214 = .ok (.iconst 0, 1) := by decide +kernel
theorem qL_law_2215 : decode (mB mL_law) 2215 = .ok (.ireturn, 1) := by decide +kernel
theorem qL_law_2216 : decode (mB mL_law) 2216 = .ok (.goto 1341, 3) := by decide +kernel
theorem qL_law_2219 : decode (mB mL_law) 2219 = .ok (.aload_n 1, 1) := by decide +kernel
theorem qL_law_2220 : decode (mB mL_law) 2220 = .ok (.aload_n 0, 1) := by decide +kernel
theorem qL_law_2221 : decode (mB mL_law) 2221 = .ok (.iload 4, 2) := by decide +kernel
theorem qL_law_2223 : decode (mB mL_law) 2223 = .ok (.iconst 1, 1) := by decide +kernel
theorem qL_law_2224 : decode (mB mL_law) 2224 = .ok (.iadd, 1) := by decide +kernel
theorem qL_law_2225 : decode (mB mL_law) 2225 = .ok (.iaload, 1) := by decide +kernel
theorem qL_law_2226 : decode (mB mL_law) 2226 = .ok (.aload_n 3, 1) := by decide +kernel
theorem qL_law_2227 : decode (mB mL_law) 2227 = .ok (.invokestatic 309, 3) := by decide +kernel
theorem qL_law_2230 : decode (mB mL_law) 2230 = .ok (.istore 5, 2) := by decide +kernel
theorem qL_law_2232 : decode (mB mL_law) 2232 = .ok (.aload_n 2, 1) := by decide +kernel
theorem qL_law_2233 : decode (mB mL_law) 2233 = .ok (.aload_n 0, 1) := by decide +kernel
theorem qL_law_2234 : decode (mB mL_law) 2234 = .ok (.iload 4, 2) := by decide +kernel
theorem qL_law_2236 : decode (mB mL_law) 2236 = .ok (.iconst 1, 1) := by decide +kernel
theorem qL_law_2237 : decode (mB mL_law) 2237 = .ok (.iadd, 1) := by decide +kernel
theorem qL_law_2238 : decode (mB mL_law) 2238 = .ok (.iaload, 1) := by decide +kernel
theorem qL_law_2239 : decode (mB mL_law) 2239 = .ok (.invokevirtual 311, 3) := by decide +kernel
theorem qL_law_2242 : decode (mB mL_law) 2242 = .ok (.istore 6, 2) := by decide +kernel
theorem qL_law_2244 : decode (mB mL_law) 2244 = .ok (.aload_n 2, 1) := by decide +kernel
theorem qL_law_2245 : decode (mB mL_law) 2245 = .ok (.invokevirtual 180, 3) := by decide +kernel
theorem qL_law_2248 : decode (mB mL_law) 2248 = .ok (.iload 5, 2) := by decide +kernel
theorem qL_law_2250 : decode (mB mL_law) 2250 = .ok (.if_icmp .eq 5, 3) := by decide +kernel
theorem qL_law_2253 : decode (mB mL_law) 2253 = .ok (.iconst 0, 1) := by decide +kernel
theorem qL_law_2254 : decode (mB mL_law) 2254 = .ok (.ireturn, 1) := by decide +kernel
theorem qL_law_2255 : decode (mB mL_law) 2255 = .ok (.iload 5, 2) := by decide +kernel
theorem qL_law_2257 : decode (mB mL_law) 2257 = .ok (.ifCond .ne 15, 3) := by decide +kernel
theorem qL_law_2260 : decode (mB mL_law) 2260 = .ok (.aload_n 3, 1) := by decide +kernel
theorem qL_law_2261 : decode (mB mL_law) 2261 = .ok (.iconst 0, 1) := by decide +kernel
theorem qL_law_2262 : decode (mB mL_law) 2262 = .ok (.laload, 1) := by decide +kernel
theorem qL_law_2263 : decode (mB mL_law) 2263 = .ok (.iload 6, 2) := by decide +kernel
theorem qL_law_2265 : decode (mB mL_law) 2265 = .ok (.i2l, 1) := by decide +kernel
theorem qL_law_2266 : decode (mB mL_law) 2266 = .ok (.lcmp, 1) := by decide +kernel
theorem qL_law_2267 : decode (mB mL_law) 2267 = .ok (.ifCond .eq 5, 3) := by decide +kernel
theorem qL_law_2270 : decode (mB mL_law) 2270 = .ok (.iconst 0, 1) := by decide +kernel
theorem qL_law_2271 : decode (mB mL_law) 2271 = .ok (.ireturn, 1) := by decide +kernel
theorem qL_law_2272 : decode (mB mL_law) 2272 = .ok (.goto 1285, 3) := by decide +kernel
theorem qL_law_2275 : decode (mB mL_law) 2275 = .ok (.aload_n 1, 1) := by decide +kernel
theorem qL_law_2276 : decode (mB mL_law) 2276 = .ok (.aload_n 0, 1) := by decide +kernel
theorem qL_law_2277 : decode (mB mL_law) 2277 = .ok (.iload 4, 2) := by decide +kernel
theorem qL_law_2279 : decode (mB mL_law) 2279 = .ok (.iconst 1, 1) := by decide +kernel
theorem qL_law_2280 : decode (mB mL_law) 2280 = .ok (.iadd, 1) := by decide +kernel
theorem qL_law_2281 : decode (mB mL_law) 2281 = .ok (.iaload, 1) := by decide +kernel
theorem qL_law_2282 : decode (mB mL_law) 2282 = .ok (.aload_n 3, 1) := by decide +kernel
theorem qL_law_2283 : decode (mB mL_law) 2283 = .ok (.invokestatic 312, 3) := by decide +kernel
theorem qL_law_2286 : decode (mB mL_law) 2286 = .ok (.istore 5, 2) := by decide +kernel
theorem qL_law_2288 : decode (mB mL_law) 2288 = .ok (.aload_n 2, 1) := by decide +kernel
theorem qL_law_2289 : decode (mB mL_law) 2289 = .ok (.aload_n 0, 1) := by decide +kernel
theorem qL_law_2290 : decode (mB mL_law) 2290 = .ok (.iload 4, 2) := by decide +kernel
theorem qL_law_2292 : decode (mB mL_law) 2292 = .ok (.iconst 1, 1) := by decide +kernel
theorem qL_law_2293 : decode (mB mL_law) 2293 = .ok (.iadd, 1) := by decide +kernel
theorem qL_law_2294 : decode (mB mL_law) 2294 = .ok (.iaload, 1) := by decide +kernel
theorem qL_law_2295 : decode (mB mL_law) 2295 = .ok (.invokevirtual 314, 3) := by decide +kernel
theorem qL_law_2298 : decode (mB mL_law) 2298 = .ok (.istore 6, 2) := by decide +kernel
theorem qL_law_2300 : decode (mB mL_law) 2300 = .ok (.aload_n 2, 1) := by decide +kernel
theorem qL_law_2301 : decode (mB mL_law) 2301 = .ok (.invokevirtual 180, 3) := by decide +kernel
theorem qL_law_2304 : decode (mB mL_law) 2304 = .ok (.iload 5, 2) := by decide +kernel
theorem qL_law_2306 : decode (mB mL_law) 2306 = .ok (.if_icmp .eq 5, 3) := by decide +kernel
theorem qL_law_2309 : decode (mB mL_law) 2309 = .ok (.iconst 0, 1) := by decide +kernel
theorem qL_law_2310 : decode (mB mL_law) 2310 = .ok (.ireturn, 1) := by decide +kernel
theorem qL_law_2311 : decode (mB mL_law) 2311 = .ok (.iload 5, 2) := by decide +kernel
theorem qL_law_2313 : decode (mB mL_law) 2313 = .ok (.ifCond .ne 15, 3) := by decide +kernel
theorem qL_law_2316 : decode (mB mL_law) 2316 = .ok (.aload_n 3, 1) := by decide +kernel
theorem qL_law_2317 : decode (mB mL_law) 2317 = .ok (.iconst 0, 1) := by decide +kernel
theorem qL_law_2318 : decode (mB mL_law) 2318 = .ok (.laload, 1) := by decide +kernel
theorem qL_law_2319 : decode (mB mL_law) 2319 = .ok (.iload 6, 2) := by decide +kernel
theorem qL_law_2321 : decode (mB mL_law) 2321 = .ok (.i2l, 1) := by decide +kernel
theorem qL_law_2322 : decode (mB mL_law) 2322 = .ok (.lcmp, 1) := by decide +kernel
theorem qL_law_2323 : decode (mB mL_law) 2323 = .ok (.ifCond .eq 5, 3) := by decide +kernel
theorem qL_law_2326 : decode (mB mL_law) 2326 = .ok (.iconst 0, 1) := by decide +kernel
theorem qL_law_2327 : decode (mB mL_law) 2327 = .ok (.ireturn, 1) := by decide +kernel
theorem qL_law_2328 : decode (mB mL_law) 2328 = .ok (.goto 1229, 3) := by decide +kernel
theorem qL_law_2331 : decode (mB mL_law) 2331 = .ok (.aload_n 1, 1) := by decide +kernel
theorem qL_law_2332 : decode (mB mL_law) 2332 = .ok (.aload_n 0, 1) := by decide +kernel
theorem qL_law_2333 : decode (mB mL_law) 2333 = .ok (.iload 4, 2) := by decide +kernel
theorem qL_law_2335 : decode (mB mL_law) 2335 = .ok (.iconst 1, 1) := by decide +kernel
theorem qL_law_2336 : decode (mB mL_law) 2336 = .ok (.iadd, 1) := by decide +kernel
theorem qL_law_2337 : decode (mB mL_law) 2337 = .ok (.iaload, 1) := by decide +kernel
theorem qL_law_2338 : decode (mB mL_law) 2338 = .ok (.aload_n 0, 1) := by decide +kernel
theorem qL_law_2339 : decode (mB mL_law) 2339 = .ok (.iload 4, 2) := by decide +kernel
theorem qL_law_2341 : decode (mB mL_law) 2341 = .ok (.iconst 2, 1) := by decide +kernel
theorem qL_law_2342 : decode (mB mL_law) 2342 = .ok (.iadd, 1) := by decide +kernel
theorem qL_law_2343 : decode (mB mL_law) 2343 = .ok (.iaload, 1) := by decide +kernel
theorem qL_law_2344 : decode (mB mL_law) 2344 = .ok (.aload_n 3, 1) := by decide +kernel
theorem qL_law_2345 : decode (mB mL_law) 2345 = .ok (.invokestatic 315, 3) := by decide +kernel
theorem qL_law_2348 : decode (mB mL_law) 2348 = .ok (.istore 5, 2) := by decide +kernel
theorem qL_law_2350 : decode (mB mL_law) 2350 = .ok (.aload_n 2, 1) := by decide +kernel
theorem qL_law_2351 : decode (mB mL_law) 2351 = .ok (.aload_n 0, 1) := by decide +kernel
theorem qL_law_2352 : decode (mB mL_law) 2352 = .ok (.iload 4, 2) := by decide +kernel
theorem qL_law_2354 : decode (mB mL_law) 2354 = .ok (.iconst 1, 1) := by decide +kernel
theorem qL_law_2355 : decode (mB mL_law) 2355 = .ok (.iadd, 1) := by decide +kernel
theorem qL_law_2356 : decode (mB mL_law) 2356 = .ok (.iaload, 1) := by decide +kernel
theorem qL_law_2357 : decode (mB mL_law) 2357 = .ok (.aload_n 0, 1) := by decide +kernel
theorem qL_law_2358 : decode (mB mL_law) 2358 = .ok (.iload 4, 2) := by decide +kernel
theorem qL_law_2360 : decode (mB mL_law) 2360 = .ok (.iconst 2, 1) := by decide +kernel
theorem qL_law_2361 : decode (mB mL_law) 2361 = .ok (.iadd, 1) := by decide +kernel
theorem qL_law_2362 : decode (mB mL_law) 2362 = .ok (.iaload, 1) := by decide +kernel
theorem qL_law_2363 : decode (mB mL_law) 2363 = .ok (.invokevirtual 317, 3) := by decide +kernel
theorem qL_law_2366 : decode (mB mL_law) 2366 = .ok (.istore 6, 2) := by decide +kernel
theorem qL_law_2368 : decode (mB mL_law) 2368 = .ok (.aload_n 2, 1) := by decide +kernel
theorem qL_law_2369 : decode (mB mL_law) 2369 = .ok (.invokevirtual 180, 3) := by decide +kernel
theorem qL_law_2372 : decode (mB mL_law) 2372 = .ok (.iload 5, 2) := by decide +kernel
theorem qL_law_2374 : decode (mB mL_law) 2374 = .ok (.if_icmp .eq 5, 3) := by decide +kernel
theorem qL_law_2377 : decode (mB mL_law) 2377 = .ok (.iconst 0, 1) := by decide +kernel
theorem qL_law_2378 : decode (mB mL_law) 2378 = .ok (.ireturn, 1) := by decide +kernel
theorem qL_law_2379 : decode (mB mL_law) 2379 = .ok (.iload 5, 2) := by decide +kernel
theorem qL_law_2381 : decode (mB mL_law) 2381 = .ok (.ifCond .ne 15, 3) := by decide +kernel
theorem qL_law_2384 : decode (mB mL_law) 2384 = .ok (.aload_n 3, 1) := by decide +kernel
theorem qL_law_2385 : decode (mB mL_law) 2385 = .ok (.iconst 0, 1) := by decide +kernel
theorem qL_law_2386 : decode (mB mL_law) 2386 = .ok (.laload, 1) := by decide +kernel
theorem qL_law_2387 : decode (mB mL_law) 2387 = .ok (.iload 6, 2) := by decide +kernel
theorem qL_law_2389 : decode (mB mL_law) 2389 = .ok (.i2l, 1) := by decide +kernel
theorem qL_law_2390 : decode (mB mL_law) 2390 = .ok (.lcmp, 1) := by decide +kernel
theorem qL_law_2391 : decode (mB mL_law) 2391 = .ok (.ifCond .eq 5, 3) := by decide +kernel
theorem qL_law_2394 : decode (mB mL_law) 2394 = .ok (.iconst 0, 1) := by decide +kernel
theorem qL_law_2395 : decode (mB mL_law) 2395 = .ok (.ireturn, 1) := by decide +kernel
theorem qL_law_2396 : decode (mB mL_law) 2396 = .ok (.goto 1161, 3) := by decide +kernel
theorem qL_law_2399 : decode (mB mL_law) 2399 = .ok (.aload_n 1, 1) := by decide +kernel
theorem qL_law_2400 : decode (mB mL_law) 2400 = .ok (.aload_n 0, 1) := by decide +kernel
theorem qL_law_2401 : decode (mB mL_law) 2401 = .ok (.iload 4, 2) := by decide +kernel
theorem qL_law_2403 : decode (mB mL_law) 2403 = .ok (.iconst 1, 1) := by decide +kernel
theorem qL_law_2404 : decode (mB mL_law) 2404 = .ok (.iadd, 1) := by decide +kernel
theorem qL_law_2405 : decode (mB mL_law) 2405 = .ok (.iaload, 1) := by decide +kernel
theorem qL_law_2406 : decode (mB mL_law) 2406 = .ok (.aload_n 0, 1) := by decide +kernel
theorem qL_law_2407 : decode (mB mL_law) 2407 = .ok (.iload 4, 2) := by decide +kernel
theorem qL_law_2409 : decode (mB mL_law) 2409 = .ok (.iconst 2, 1) := by decide +kernel
theorem qL_law_2410 : decode (mB mL_law) 2410 = .ok (.iadd, 1) := by decide +kernel
theorem qL_law_2411 : decode (mB mL_law) 2411 = .ok (.iaload, 1) := by decide +kernel
theorem qL_law_2412 : decode (mB mL_law) 2412 = .ok (.aload_n 3, 1) := by decide +kernel
theorem qL_law_2413 : decode (mB mL_law) 2413 = .ok (.invokestatic 318, 3) := by decide +kernel
theorem qL_law_2416 : decode (mB mL_law) 2416 = .ok (.istore 5, 2) := by decide +kernel
theorem qL_law_2418 : decode (mB mL_law) 2418 = .ok (.aload_n 2, 1) := by decide +kernel
theorem qL_law_2419 : decode (mB mL_law) 2419 = .ok (.aload_n 0, 1) := by decide +kernel
theorem qL_law_2420 : decode (mB mL_law) 2420 = .ok (.iload 4, 2) := by decide +kernel
theorem qL_law_2422 : decode (mB mL_law) 2422 = .ok (.iconst 1, 1) := by decide +kernel
theorem qL_law_2423 : decode (mB mL_law) 2423 = .ok (.iadd, 1) := by decide +kernel
theorem qL_law_2424 : decode (mB mL_law) 2424 = .ok (.iaload, 1) := by decide +kernel
theorem qL_law_2425 : decode (mB mL_law) 2425 = .ok (.aload_n 0, 1) := by decide +kernel
theorem qL_law_2426 : decode (mB mL_law) 2426 = .ok (.iload 4, 2) := by decide +kernel
theorem qL_law_2428 : decode (mB mL_law) 2428 = .ok (.iconst 2, 1) := by decide +kernel
theorem qL_law_2429 : decode (mB mL_law) 2429 = .ok (.iadd, 1) := by decide +kernel
theorem qL_law_2430 : decode (mB mL_law) 2430 = .ok (.iaload, 1) := by decide +kernel
theorem qL_law_2431 : decode (mB mL_law) 2431 = .ok (.invokevirtual 320, 3) := by decide +kernel
theorem qL_law_2434 : decode (mB mL_law) 2434 = .ok (.istore 6, 2) := by decide +kernel
theorem qL_law_2436 : decode (mB mL_law) 2436 = .ok (.aload_n 2, 1) := by decide +kernel
theorem qL_law_2437 : decode (mB mL_law) 2437 = .ok (.invokevirtual 180, 3) := by decide +kernel
theorem qL_law_2440 : decode (mB mL_law) 2440 = .ok (.iload 5, 2) := by decide +kernel
theorem qL_law_2442 : decode (mB mL_law) 2442 = .ok (.if_icmp .eq 5, 3) := by decide +kernel
theorem qL_law_2445 : decode (mB mL_law) 2445 = .ok (.iconst 0, 1) := by decide +kernel
theorem qL_law_2446 : decode (mB mL_law) 2446 = .ok (.ireturn, 1) := by decide +kernel
theorem qL_law_2447 : decode (mB mL_law) 2447 = .ok (.iload 5, 2) := by decide +kernel
theorem qL_law_2449 : decode (mB mL_law) 2449 = .ok (.ifCond .ne 15, 3) := by decide +kernel
theorem qL_law_2452 : decode (mB mL_law) 2452 = .ok (.aload_n 3, 1) := by decide +kernel
theorem qL_law_2453 : decode (mB mL_law) 2453 = .ok (.iconst 0, 1) := by decide +kernel
theorem qL_law_2454 : decode (mB mL_law) 2454 = .ok (.laload, 1) := by decide +kernel
theorem qL_law_2455 : decode (mB mL_law) 2455 = .ok (.iload 6, 2) := by decide +kernel
theorem qL_law_2457 : decode (mB mL_law) 2457 = .ok (.i2l, 1) := by decide +kernel
theorem qL_law_2458 : decode (mB mL_law) 2458 = .ok (.lcmp, 1) := by decide +kernel
theorem qL_law_2459 : decode (mB mL_law) 2459 = .ok (.ifCond .eq 5, 3) := by decide +kernel
theorem qL_law_2462 : decode (mB mL_law) 2462 = .ok (.iconst 0, 1) := by decide +kernel
theorem qL_law_2463 : decode (mB mL_law) 2463 = .ok (.ireturn, 1) := by decide +kernel
theorem qL_law_2464 : decode (mB mL_law) 2464 = .ok (.goto 1093, 3) := by decide +kernel
theorem qL_law_2467 : decode (mB mL_law) 2467 = .ok (.aload_n 1, 1) := by decide +kernel
theorem qL_law_2468 : decode (mB mL_law) 2468 = .ok (.invokevirtual 321, 3) := by decide +kernel
theorem qL_law_2471 : decode (mB mL_law) 2471 = .ok (.aload_n 2, 1) := by decide +kernel
theorem qL_law_2472 : decode (mB mL_law) 2472 = .ok (.invokevirtual 324, 3) := by decide +kernel
theorem qL_law_2475 : decode (mB mL_law) 2475 = .ok (.if_icmp .eq 1082, 3) := by decide +kernel
theorem qL_law_2478 : decode (mB mL_law) 2478 = .ok (.iconst 0, 1) := by decide +kernel
theorem qL_law_2479 : decode (mB mL_law) 2479 = .ok (.ireturn, 1) := by decide +kernel
theorem qL_law_2480 : decode (mB mL_law) 2480 = .ok (.aload_n 1, 1) := by decide +kernel
theorem qL_law_2481 : decode (mB mL_law) 2481 = .ok (.aload_n 0, 1) := by decide +kernel
theorem qL_law_2482 : decode (mB mL_law) 2482 = .ok (.iload 4, 2) := by decide +kernel
theorem qL_law_2484 : decode (mB mL_law) 2484 = .ok (.iconst 1, 1) := by decide +kernel

