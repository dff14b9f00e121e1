theorem ydb_4_0 : (decode cL_law 2112 = .ok (.iadd, 1)) ∧ (decode cL_law 2113 = .ok (.iaload, 1)) ∧ (decode cL_law 2114 = .ok (.aload_n 0, 1)) ∧ (decode cL_law 2115 = .ok (.iload 5, 2)) ∧ (decode cL_law 2117 = .ok (.iconst 2, 1)) ∧ (decode cL_law 2118 = .ok (.iadd, 1)) ∧ (decode cL_law 2119 = .ok (.iaload, 1)) ∧ (decode cL_law 2120 = .ok (.aload_n 0, 1)) ∧ (decode cL_law 2121 = .ok (.iload 5, 2)) ∧ (decode cL_law 2123 = .ok (.iconst 3, 1)) ∧ (decode cL_law 2124 = .ok (.iadd, 1)) ∧ (decode cL_law 2125 = .ok (.iaload, 1)) := by decide +kernel
theorem dL_law_2112 : decode cL_law 2112 = .ok (.iadd, 1) := ydb_4_0.1
theorem dL_law_2113 : decode cL_law 2113 = .ok (.iaload, 1) := ydb_4_0.2.1
theorem dL_law_2114 : decode cL_law 2114 = .ok (.aload_n 0, 1) := ydb_4_0.2.2.1
theorem dL_law_2115 : decode cL_law 2115 = .ok (.iload 5, 2) := ydb_4_0.2.2.2.1
theorem dL_law_2117 : decode cL_law 2117 = .ok (.iconst 2, 1) := ydb_4_0.2.2.2.2.1
theorem dL_law_2118 : decode cL_law 2118 = .ok (.iadd, 1) := ydb_4_0.2.2.2.2.2.1
theorem dL_law_2119 : decode cL_law 2119 = .ok (.iaload, 1) := ydb_4_0.2.2.2.2.2.2.1
theorem dL_law_2120 : decode cL_law 2120 = .ok (.aload_n 0, 1) := ydb_4_0.2.2.2.2.2.2.2.1
theorem dL_law_2121 : decode cL_law 2121 = .ok (.iload 5, 2) := ydb_4_0.2.2.2.2.2.2.2.2.1
theorem dL_law_2123 : decode cL_law 2123 = .ok (.iconst 3, 1) := ydb_4_0.2.2.2.2.2.2.2.2.2.1
theorem dL_law_2124 : decode cL_law 2124 = .ok (.iadd, 1) := ydb_4_0.2.2.2.2.2.2.2.2.2.2.1
theorem dL_law_2125 : decode cL_law 2125 = .ok (.iaload, 1) := ydb_4_0.2.2.2.2.2.2.2.2.2.2.2
theorem ydb_4_12 : (decode cL_law 2126 = .ok (.aload_n 0, 1)) ∧ (decode cL_law 2127 = .ok (.iload 5, 2)) ∧ (decode cL_law 2129 = .ok (.iconst 4, 1)) ∧ (decode cL_law 2130 = .ok (.iadd, 1)) ∧ (decode cL_law 2131 = .ok (.iaload, 1)) ∧ (decode cL_law 2132 = .ok (.invokevirtual 270, 3)) ∧ (decode cL_law 2135 = .ok (.istore 7, 2)) ∧ (decode cL_law 2137 = .ok (.aload_n 2, 1)) ∧ (decode cL_law 2138 = .ok (.invokevirtual 165, 3)) ∧ (decode cL_law 2141 = .ok (.iload 6, 2)) ∧ (decode cL_law 2143 = .ok (.if_icmp .eq 5, 3)) ∧ (decode cL_law 2148 = .ok (.iload 6, 2)) := by decide +kernel
theorem dL_law_2126 : decode cL_law 2126 = .ok (.aload_n 0, 1) := ydb_4_12.1
theorem dL_law_2127 : decode cL_law 2127 = .ok (.iload 5, 2) := ydb_4_12.2.1
theorem dL_law_2129 : decode cL_law 2129 = .ok (.iconst 4, 1) := ydb_4_12.2.2.1
theorem dL_law_2130 : decode cL_law 2130 = .ok (.iadd, 1) := ydb_4_12.2.2.2.1
theorem dL_law_2131 : decode cL_law 2131 = .ok (.iaload, 1) := ydb_4_12.2.2.2.2.1
theorem dL_law_2132 : decode cL_law 2132 = .ok (.invokevirtual 270, 3) := ydb_4_12.2.2.2.2.2.1
theorem dL_law_2135 : decode cL_law 2135 = .ok (.istore 7, 2) := ydb_4_12.2.2.2.2.2.2.1
theorem dL_law_2137 : decode cL_law 2137 = .ok (.aload_n 2, 1) := ydb_4_12.2.2.2.2.2.2.2.1
theorem dL_law_2138 : decode cL_law 2138 = .ok (.invokevirtual 165, 3) := ydb_4_12.2.2.2.2.2.2.2.2.1
theorem dL_law_2141 : decode cL_law 2141 = .ok (.iload 6, 2) := ydb_4_12.2.2.2.2.2.2.2.2.2.1
theorem dL_law_2143 : decode cL_law 2143 = .ok (.if_icmp .eq 5, 3) := ydb_4_12.2.2.2.2.2.2.2.2.2.2.1
theorem dL_law_2148 : decode cL_law 2148 = .ok (.iload 6, 2) := ydb_4_12.2.2.2.2.2.2.2.2.2.2.2
theorem ydb_4_24 : (decode cL_law 2150 = .ok (.ifCond .ne 15, 3)) ∧ (decode cL_law 2153 = .ok (.aload_n 3, 1)) ∧ (decode cL_law 2154 = .ok (.iconst 0, 1)) ∧ (decode cL_law 2155 = .ok (.laload, 1)) ∧ (decode cL_law 2156 = .ok (.iload 7, 2)) ∧ (decode cL_law 2158 = .ok (.i2l, 1)) ∧ (decode cL_law 2159 = .ok (.lcmp, 1)) ∧ (decode cL_law 2160 = .ok (.ifCond .eq 5, 3)) ∧ (decode cL_law 2165 = .ok (.goto 972, 3)) ∧ (decode cL_law 2168 = .ok (.aload_n 1, 1)) ∧ (decode cL_law 2169 = .ok (.aload_n 3, 1)) ∧ (decode cL_law 2170 = .ok (.invokestatic 271, 3)) := by decide +kernel
theorem dL_law_2150 : decode cL_law 2150 = .ok (.ifCond .ne 15, 3) := ydb_4_24.1
theorem dL_law_2153 : decode cL_law 2153 = .ok (.aload_n 3, 1) := ydb_4_24.2.1
theorem dL_law_2154 : decode cL_law 2154 = .ok (.iconst 0, 1) := ydb_4_24.2.2.1
theorem dL_law_2155 : decode cL_law 2155 = .ok (.laload, 1) := ydb_4_24.2.2.2.1
theorem dL_law_2156 : decode cL_law 2156 = .ok (.iload 7, 2) := ydb_4_24.2.2.2.2.1
theorem dL_law_2158 : decode cL_law 2158 = .ok (.i2l, 1) := ydb_4_24.2.2.2.2.2.1
theorem dL_law_2159 : decode cL_law 2159 = .ok (.lcmp, 1) := ydb_4_24.2.2.2.2.2.2.1
theorem dL_law_2160 : decode cL_law 2160 = .ok (.ifCond .eq 5, 3) := ydb_4_24.2.2.2.2.2.2.2.1
theorem dL_law_2165 : decode cL_law 2165 = .ok (.goto 972, 3) := ydb_4_24.2.2.2.2.2.2.2.2.1
theorem dL_law_2168 : decode cL_law 2168 = .ok (.aload_n 1, 1) := ydb_4_24.2.2.2.2.2.2.2.2.2.1
theorem dL_law_2169 : decode cL_law 2169 = .ok (.aload_n 3, 1) := ydb_4_24.2.2.2.2.2.2.2.2.2.2.1
theorem dL_law_2170 : decode cL_law 2170 = .ok (.invokestatic 271, 3) := ydb_4_24.2.2.2.2.2.2.2.2.2.2.2
theorem ydb_4_36 : (decode cL_law 2173 = .ok (.istore 6, 2)) ∧ (decode cL_law 2175 = .ok (.aload_n 2, 1)) ∧ (decode cL_law 2176 = .ok (.invokevirtual 273, 3)) ∧ (decode cL_law 2179 = .ok (.istore 7, 2)) ∧ (decode cL_law 2181 = .ok (.aload_n 2, 1)) ∧ (decode cL_law 2182 = .ok (.invokevirtual 165, 3)) ∧ (decode cL_law 2185 = .ok (.iload 6, 2)) ∧ (decode cL_law 2187 = .ok (.if_icmp .eq 5, 3)) ∧ (decode cL_law 2192 = .ok (.iload 6, 2)) ∧ (decode cL_law 2194 = .ok (.ifCond .ne 15, 3)) ∧ (decode cL_law 2209 = .ok (.goto 928, 3)) ∧ (decode cL_law 2212 = .ok (.aload_n 1, 1)) := by decide +kernel
theorem dL_law_2173 : decode cL_law 2173 = .ok (.istore 6, 2) := ydb_4_36.1
theorem dL_law_2175 : decode cL_law 2175 = .ok (.aload_n 2, 1) := ydb_4_36.2.1
theorem dL_law_2176 : decode cL_law 2176 = .ok (.invokevirtual 273, 3) := ydb_4_36.2.2.1
theorem dL_law_2179 : decode cL_law 2179 = .ok (.istore 7, 2) := ydb_4_36.2.2.2.1
theorem dL_law_2181 : decode cL_law 2181 = .ok (.aload_n 2, 1) := ydb_4_36.2.2.2.2.1
theorem dL_law_2182 : decode cL_law 2182 = .ok (.invokevirtual 165, 3) := ydb_4_36.2.2.2.2.2.1
theorem dL_law_2185 : decode cL_law 2185 = .ok (.iload 6, 2) := ydb_4_36.2.2.2.2.2.2.1
theorem dL_law_2187 : decode cL_law 2187 = .ok (.if_icmp .eq 5, 3) := ydb_4_36.2.2.2.2.2.2.2.1
theorem dL_law_2192 : decode cL_law 2192 = .ok (.iload 6, 2) := ydb_4_36.2.2.2.2.2.2.2.2.1
theorem dL_law_2194 : decode cL_law 2194 = .ok (.ifCond .ne 15, 3) := ydb_4_36.2.2.2.2.2.2.2.2.2.1
theorem dL_law_2209 : decode cL_law 2209 = .ok (.goto 928, 3) := ydb_4_36.2.2.2.2.2.2.2.2.2.2.1
theorem dL_law_2212 : decode cL_law 2212 = .ok (.aload_n 1, 1) := ydb_4_36.2.2.2.2.2.2.2.2.2.2.2
theorem ydb_4_48 : (decode cL_law 2213 = .ok (.aload_n 0, 1)) ∧ (decode cL_law 2214 = .ok (.iload 5, 2)) ∧ (decode cL_law 2216 = .ok (.iconst 1, 1)) ∧ (decode cL_law 2217 = .ok (.iadd, 1)) ∧ (decode cL_law 2218 = .ok (.iaload, 1)) ∧ (decode cL_law 2219 = .ok (.aload_n 0, 1)) ∧ (decode cL_law 2220 = .ok (.iload 5, 2)) ∧ (decode cL_law 2222 = .ok (.iconst 2, 1)) ∧ (decode cL_law 2223 = .ok (.iadd, 1)) ∧ (decode cL_law 2224 = .ok (.iaload, 1)) ∧ (decode cL_law 2225 = .ok (.aload_n 0, 1)) ∧ (decode cL_law 2226 = .ok (.iload 5, 2)) := by decide +kernel
theorem dL_law_2213 : decode cL_law 2213 = .ok (.aload_n 0, 1) := ydb_4_48.1
theorem dL_law_2214 : decode cL_law 2214 = .ok (.iload 5, 2) := ydb_4_48.2.1
theorem dL_law_2216 : decode cL_law 2216 = .ok (.iconst 1, 1) := ydb_4_48.2.2.1
theorem dL_law_2217 : decode cL_law 2217 = .ok (.iadd, 1) := ydb_4_48.2.2.2.1
theorem dL_law_2218 : decode cL_law 2218 = .ok (.iaload, 1) := ydb_4_48.2.2.2.2.1
theorem dL_law_2219 : decode cL_law 2219 = .ok (.aload_n 0, 1) := ydb_4_48.2.2.2.2.2.1
theorem dL_law_2220 : decode cL_law 2220 = .ok (.iload 5, 2) := ydb_4_48.2.2.2.2.2.2.1
theorem dL_law_2222 : decode cL_law 2222 = .ok (.iconst 2, 1) := ydb_4_48.2.2.2.2.2.2.2.1
theorem dL_law_2223 : decode cL_law 2223 = .ok (.iadd, 1) := ydb_4_48.2.2.2.2.2.2.2.2.1
theorem dL_law_2224 : decode cL_law 2224 = .ok (.iaload, 1) := ydb_4_48.2.2.2.2.2.2.2.2.2.1
theorem dL_law_2225 : decode cL_law 2225 = .ok (.aload_n 0, 1) := ydb_4_48.2.2.2.2.2.2.2.2.2.2.1
theorem dL_law_2226 : decode cL_law 2226 = .ok (.iload 5, 2) := ydb_4_48.2.2.2.2.2.2.2.2.2.2.2
theorem ydb_4_60 : (decode cL_law 2228 = .ok (.iconst 3, 1)) ∧ (decode cL_law 2229 = .ok (.iadd, 1)) ∧ (decode cL_law 2230 = .ok (.iaload, 1)) ∧ (decode cL_law 2231 = .ok (.aload_n 3, 1)) ∧ (decode cL_law 2232 = .ok (.invokestatic 274, 3)) ∧ (decode cL_law 2235 = .ok (.istore 6, 2)) ∧ (decode cL_law 2237 = .ok (.aload_n 2, 1)) ∧ (decode cL_law 2238 = .ok (.aload_n 0, 1)) ∧ (decode cL_law 2239 = .ok (.iload 5, 2)) ∧ (decode cL_law 2241 = .ok (.iconst 1, 1)) ∧ (decode cL_law 2242 = .ok (.iadd, 1)) ∧ (decode cL_law 2243 = .ok (.iaload, 1)) := by decide +kernel
theorem dL_law_2228 : decode cL_law 2228 = .ok (.iconst 3, 1) := ydb_4_60.1
theorem dL_law_2229 : decode cL_law 2229 = .ok (.iadd, 1) := ydb_4_60.2.1
theorem dL_law_2230 : decode cL_law 2230 = .ok (.iaload, 1) := ydb_4_60.2.2.1
theorem dL_law_2231 : decode cL_law 2231 = .ok (.aload_n 3, 1) := ydb_4_60.2.2.2.1
theorem dL_law_2232 : decode cL_law 2232 = .ok (.invokestatic 274, 3) := ydb_4_60.2.2.2.2.1
theorem dL_law_2235 : decode cL_law 2235 = .ok (.istore 6, 2) := ydb_4_60.2.2.2.2.2.1
theorem dL_law_2237 : decode cL_law 2237 = .ok (.aload_n 2, 1) := ydb_4_60.2.2.2.2.2.2.1
theorem dL_law_2238 : decode cL_law 2238 = .ok (.aload_n 0, 1) := ydb_4_60.2.2.2.2.2.2.2.1
theorem dL_law_2239 : decode cL_law 2239 = .ok (.iload 5, 2) := ydb_4_60.2.2.2.2.2.2.2.2.1
theorem dL_law_2241 : decode cL_law 2241 = .ok (.iconst 1, 1) := ydb_4_60.2.2.2.2.2.2.2.2.2.1
theorem dL_law_2242 : decode cL_law 2242 = .ok (.iadd, 1) := ydb_4_60.2.2.2.2.2.2.2.2.2.2.1
theorem dL_law_2243 : decode cL_law 2243 = .ok (.iaload, 1) := ydb_4_60.2.2.2.2.2.2.2.2.2.2.2
theorem ydb_4_72 : (decode cL_law 2244 = .ok (.aload_n 0, 1)) ∧ (decode cL_law 2245 = .ok (.iload 5, 2)) ∧ (decode cL_law 2247 = .ok (.iconst 2, 1)) ∧ (decode cL_law 2248 = .ok (.iadd, 1)) ∧ (decode cL_law 2249 = .ok (.iaload, 1)) ∧ (decode cL_law 2250 = .ok (.aload_n 0, 1)) ∧ (decode cL_law 2251 = .ok (.iload 5, 2)) ∧ (decode cL_law 2253 = .ok (.iconst 3, 1)) ∧ (decode cL_law 2254 = .ok (.iadd, 1)) ∧ (decode cL_law 2255 = .ok (.iaload, 1)) ∧ (decode cL_law 2256 = .ok (.invokevirtual 276, 3)) ∧ (decode cL_law 2259 = .ok (.istore 7, 2)) := by decide +kernel
theorem dL_law_2244 : decode cL_law 2244 = .ok (.aload_n 0, 1) := ydb_4_72.1
theorem dL_law_2245 : decode cL_law 2245 = .ok (.iload 5, 2) := ydb_4_72.2.1
theorem dL_law_2247 : decode cL_law 2247 = .ok (.iconst 2, 1) := ydb_4_72.2.2.1
theorem dL_law_2248 : decode cL_law 2248 = .ok (.iadd, 1) := ydb_4_72.2.2.2.1
theorem dL_law_2249 : decode cL_law 2249 = .ok (.iaload, 1) := ydb_4_72.2.2.2.2.1
theorem dL_law_2250 : decode cL_law 2250 = .ok (.aload_n 0, 1) := ydb_4_72.2.2.2.2.2.1
theorem dL_law_2251 : decode cL_law 2251 = .ok (.iload 5, 2) := ydb_4_72.2.2.2.2.2.2.1
theorem dL_law_2253 : decode cL_law 2253 = .ok (.iconst 3, 1) := ydb_4_72.2.2.2.2.2.2.2.1
theorem dL_law_2254 : decode cL_law 2254 = .ok (.iadd, 1) := ydb_4_72.2.2.2.2.2.2.2.2.1
theorem dL_law_2255 : decode cL_law 2255 = .ok (.iaload, 1) := ydb_4_72.2.2.2.2.2.2.2.2.2.1
theorem dL_law_2256 : decode cL_law 2256 = .ok (.invokevirtual 276, 3) := ydb_4_72.2.2.2.2.2.2.2.2.2.2.1
theorem dL_law_2259 : decode cL_law 2259 = .ok (.istore 7, 2) := ydb_4_72.2.2.2.2.2.2.2.2.2.2.2
theorem ydb_4_84 : (decode cL_law 2261 = .ok (.aload_n 2, 1)) ∧ (decode cL_law 2262 = .ok (.invokevirtual 165, 3)) ∧ (decode cL_law 2265 = .ok (.iload 6, 2)) ∧ (decode cL_law 2267 = .ok (.if_icmp .eq 5, 3)) ∧ (decode cL_law 2272 = .ok (.iload 6, 2)) ∧ (decode cL_law 2274 = .ok (.ifCond .ne 22, 3)) ∧ (decode cL_law 2296 = .ok (.goto 841, 3)) ∧ (decode cL_law 2299 = .ok (.aload_n 1, 1)) ∧ (decode cL_law 2300 = .ok (.aload_n 0, 1)) ∧ (decode cL_law 2301 = .ok (.iload 5, 2)) ∧ (decode cL_law 2303 = .ok (.iconst 1, 1)) ∧ (decode cL_law 2304 = .ok (.iadd, 1)) := by decide +kernel
theorem dL_law_2261 : decode cL_law 2261 = .ok (.aload_n 2, 1) := ydb_4_84.1
theorem dL_law_2262 : decode cL_law 2262 = .ok (.invokevirtual 165, 3) := ydb_4_84.2.1
theorem dL_law_2265 : decode cL_law 2265 = .ok (.iload 6, 2) := ydb_4_84.2.2.1
theorem dL_law_2267 : decode cL_law 2267 = .ok (.if_icmp .eq 5, 3) := ydb_4_84.2.2.2.1
theorem dL_law_2272 : decode cL_law 2272 = .ok (.iload 6, 2) := ydb_4_84.2.2.2.2.1
theorem dL_law_2274 : decode cL_law 2274 = .ok (.ifCond .ne 22, 3) := ydb_4_84.2.2.2.2.2.1
theorem dL_law_2296 : decode cL_law 2296 = .ok (.goto 841, 3) := ydb_4_84.2.2.2.2.2.2.1
theorem dL_law_2299 : decode cL_law 2299 = .ok (.aload_n 1, 1) := ydb_4_84.2.2.2.2.2.2.2.1
theorem dL_law_2300 : decode cL_law 2300 = .ok (.aload_n 0, 1) := ydb_4_84.2.2.2.2.2.2.2.2.1
theorem dL_law_2301 : decode cL_law 2301 = .ok (.iload 5, 2) := ydb_4_84.2.2.2.2.2.2.2.2.2.1
theorem dL_law_2303 : decode cL_law 2303 = .ok (.iconst 1, 1) := ydb_4_84.2.2.2.2.2.2.2.2.2.2.1
theorem dL_law_2304 : decode cL_law 2304 = .ok (.iadd, 1) := ydb_4_84.2.2.2.2.2.2.2.2.2.2.2
theorem ydb_4_96 : (decode cL_law 2305 = .ok (.iaload, 1)) ∧ (decode cL_law 2306 = .ok (.aload_n 3, 1)) ∧ (decode cL_law 2307 = .ok (.invokestatic 277, 3)) ∧ (decode cL_law 2310 = .ok (.istore 6, 2)) ∧ (decode cL_law 2312 = .ok (.aload_n 2, 1)) ∧ (decode cL_law 2313 = .ok (.aload_n 0, 1)) ∧ (decode cL_law 2314 = .ok (.iload 5, 2)) ∧ (decode cL_law 2316 = .ok (.iconst 1, 1)) ∧ (decode cL_law 2317 = .ok (.iadd, 1)) ∧ (decode cL_law 2318 = .ok (.iaload, 1)) ∧ (decode cL_law 2319 = .ok (.invokevirtual 279, 3)) ∧ (decode cL_law 2322 = .ok (.istore 7, 2)) := by decide +kernel
theorem dL_law_2305 : decode cL_law 2305 = .ok (.iaload, 1) := ydb_4_96.1
theorem dL_law_2306 : decode cL_law 2306 = .ok (.aload_n 3, 1) := ydb_4_96.2.1
theorem dL_law_2307 : decode cL_law 2307 = .ok (.invokestatic 277, 3) := ydb_4_96.2.2.1
theorem dL_law_2310 : decode cL_law 2310 = .ok (.istore 6, 2) := ydb_4_96.2.2.2.1
theorem dL_law_2312 : decode cL_law 2312 = .ok (.aload_n 2, 1) := ydb_4_96.2.2.2.2.1
theorem dL_law_2313 : decode cL_law 2313 = .ok (.aload_n 0, 1) := ydb_4_96.2.2.2.2.2.1
theorem dL_law_2314 : decode cL_law 2314 = .ok (.iload 5, 2) := ydb_4_96.2.2.2.2.2.2.1
theorem dL_law_2316 : decode cL_law 2316 = .ok (.iconst 1, 1) := ydb_4_96.2.2.2.2.2.2.2.1
theorem dL_law_2317 : decode cL_law 2317 = .ok (.iadd, 1) := ydb_4_96.2.2.2.2.2.2.2.2.1
theorem dL_law_2318 : decode cL_law 2318 = .ok (.iaload, 1) := ydb_4_96.2.2.2.2.2.2.2.2.2.1
theorem dL_law_2319 : decode cL_law 2319 = .ok (.invokevirtual 279, 3) := ydb_4_96.2.2.2.2.2.2.2.2.2.2.1
theorem dL_law_2322 : decode cL_law 2322 = .ok (.istore 7, 2) := ydb_4_96.2.2.2.2.2.2.2.2.2.2.2
theorem ydb_4_108 : (decode cL_law 2324 = .ok (.aload_n 2, 1)) ∧ (decode cL_law 2325 = .ok (.invokevirtual 165, 3)) ∧ (decode cL_law 2328 = .ok (.iload 6, 2)) ∧ (decode cL_law 2330 = .ok (.if_icmp .eq 5, 3)) ∧ (decode cL_law 2335 = .ok (.iload 6, 2)) ∧ (decode cL_law 2337 = .ok (.ifCond .ne 15, 3)) ∧ (decode cL_law 2352 = .ok (.goto 785, 3)) ∧ (decode cL_law 2355 = .ok (.aload_n 1, 1)) ∧ (decode cL_law 2356 = .ok (.invokevirtual 280, 3)) ∧ (decode cL_law 2359 = .ok (.aload_n 2, 1)) ∧ (decode cL_law 2360 = .ok (.invokevirtual 283, 3)) ∧ (decode cL_law 2363 = .ok (.if_icmp .eq 774, 3)) := by decide +kernel
theorem dL_law_2324 : decode cL_law 2324 = .ok (.aload_n 2, 1) := ydb_4_108.1
theorem dL_law_2325 : decode cL_law 2325 = .ok (.invokevirtual 165, 3) := ydb_4_108.2.1
theorem dL_law_2328 : decode cL_law 2328 = .ok (.iload 6, 2) := ydb_4_108.2.2.1
theorem dL_law_2330 : decode cL_law 2330 = .ok (.if_icmp .eq 5, 3) := ydb_4_108.2.2.2.1
theorem dL_law_2335 : decode cL_law 2335 = .ok (.iload 6, 2) := ydb_4_108.2.2.2.2.1
theorem dL_law_2337 : decode cL_law 2337 = .ok (.ifCond .ne 15, 3) := ydb_4_108.2.2.2.2.2.1
theorem dL_law_2352 : decode cL_law 2352 = .ok (.goto 785, 3) := ydb_4_108.2.2.2.2.2.2.1
theorem dL_law_2355 : decode cL_law 2355 = .ok (.aload_n 1, 1) := ydb_4_108.2.2.2.2.2.2.2.1
theorem dL_law_2356 : decode cL_law 2356 = .ok (.invokevirtual 280, 3) := ydb_4_108.2.2.2.2.2.2.2.2.1
theorem dL_law_2359 : decode cL_law 2359 = .ok (.aload_n 2, 1) := ydb_4_108.2.2.2.2.2.2.2.2.2.1
theorem dL_law_2360 : decode cL_law 2360 = .ok (.invokevirtual 283, 3) := ydb_4_108.2.2.2.2.2.2.2.2.2.2.1
theorem dL_law_2363 : decode cL_law 2363 = .ok (.if_icmp .eq 774, 3) := ydb_4_108.2.2.2.2.2.2.2.2.2.2.2
theorem ydb_4_120 : (decode cL_law 2368 = .ok (.aload_n 1, 1)) ∧ (decode cL_law 2369 = .ok (.aload_n 0, 1)) ∧ (decode cL_law 2370 = .ok (.iload 5, 2)) ∧ (decode cL_law 2372 = .ok (.iconst 1, 1)) ∧ (decode cL_law 2373 = .ok (.iadd, 1)) ∧ (decode cL_law 2374 = .ok (.iaload, 1)) ∧ (decode cL_law 2375 = .ok (.aload_n 0, 1)) ∧ (decode cL_law 2376 = .ok (.iload 5, 2)) ∧ (decode cL_law 2378 = .ok (.iconst 2, 1)) ∧ (decode cL_law 2379 = .ok (.iadd, 1)) ∧ (decode cL_law 2380 = .ok (.iaload, 1)) ∧ (decode cL_law 2381 = .ok (.aload_n 0, 1)) := by decide +kernel
theorem dL_law_2368 : decode cL_law 2368 = .ok (.aload_n 1, 1) := ydb_4_120.1
theorem dL_law_2369 : decode cL_law 2369 = .ok (.aload_n 0, 1) := ydb_4_120.2.1
theorem dL_law_2370 : decode cL_law 2370 = .ok (.iload 5, 2) := ydb_4_120.2.2.1
theorem dL_law_2372 : decode cL_law 2372 = .ok (.iconst 1, 1) := ydb_4_120.2.2.2.1
theorem dL_law_2373 : decode cL_law 2373 = .ok (.iadd, 1) := ydb_4_120.2.2.2.2.1
theorem dL_law_2374 : decode cL_law 2374 = .ok (.iaload, 1) := ydb_4_120.2.2.2.2.2.1
theorem dL_law_2375 : decode cL_law 2375 = .ok (.aload_n 0, 1) := ydb_4_120.2.2.2.2.2.2.1
theorem dL_law_2376 : decode cL_law 2376 = .ok (.iload 5, 2) := ydb_4_120.2.2.2.2.2.2.2.1
theorem dL_law_2378 : decode cL_law 2378 = .ok (.iconst 2, 1) := ydb_4_120.2.2.2.2.2.2.2.2.1
theorem dL_law_2379 : decode cL_law 2379 = .ok (.iadd, 1) := ydb_4_120.2.2.2.2.2.2.2.2.2.1
theorem dL_law_2380 : decode cL_law 2380 = .ok (.iaload, 1) := ydb_4_120.2.2.2.2.2.2.2.2.2.2.1
theorem dL_law_2381 : decode cL_law 2381 = .ok (.aload_n 0, 1) := ydb_4_120.2.2.2.2.2.2.2.2.2.2.2
theorem ydb_4_132 : (decode cL_law 2382 = .ok (.iload 5, 2)) ∧ (decode cL_law 2384 = .ok (.iconst 3, 1)) ∧ (decode cL_law 2385 = .ok (.iadd, 1)) ∧ (decode cL_law 2386 = .ok (.iaload, 1)) ∧ (decode cL_law 2387 = .ok (.aload_n 3, 1)) ∧ (decode cL_law 2388 = .ok (.invokestatic 284, 3)) ∧ (decode cL_law 2391 = .ok (.istore 6, 2)) ∧ (decode cL_law 2393 = .ok (.aload_n 2, 1)) ∧ (decode cL_law 2394 = .ok (.aload_n 0, 1)) ∧ (decode cL_law 2395 = .ok (.iload 5, 2)) ∧ (decode cL_law 2397 = .ok (.iconst 1, 1)) ∧ (decode cL_law 2398 = .ok (.iadd, 1)) := by decide +kernel
theorem dL_law_2382 : decode cL_law 2382 = .ok (.iload 5, 2) := ydb_4_132.1
theorem dL_law_2384 : decode cL_law 2384 = .ok (.iconst 3, 1) := ydb_4_132.2.1
theorem dL_law_2385 : decode cL_law 2385 = .ok (.iadd, 1) := ydb_4_132.2.2.1
theorem dL_law_2386 : decode cL_law 2386 = .ok (.iaload, 1) := ydb_4_132.2.2.2.1
theorem dL_law_2387 : decode cL_law 2387 = .ok (.aload_n 3, 1) := ydb_4_132.2.2.2.2.1
theorem dL_law_2388 : decode cL_law 2388 = .ok (.invokestatic 284, 3) := ydb_4_132.2.2.2.2.2.1
theorem dL_law_2391 : decode cL_law 2391 = .ok (.istore 6, 2) := ydb_4_132.2.2.2.2.2.2.1
theorem dL_law_2393 : decode cL_law 2393 = .ok (.aload_n 2, 1) := ydb_4_132.2.2.2.2.2.2.2.1
theorem dL_law_2394 : decode cL_law 2394 = .ok (.aload_n 0, 1) := ydb_4_132.2.2.2.2.2.2.2.2.1
theorem dL_law_2395 : decode cL_law 2395 = .ok (.iload 5, 2) := ydb_4_132.2.2.2.2.2.2.2.2.2.1
theorem dL_law_2397 : decode cL_law 2397 = .ok (.iconst 1, 1) := ydb_4_132.2.2.2.2.2.2.2.2.2.2.1
theorem dL_law_2398 : decode cL_law 2398 = .ok (.iadd, 1) := ydb_4_132.2.2.2.2.2.2.2.2.2.2.2
theorem ydb_4_144 : (decode cL_law 2399 = .ok (.iaload, 1)) ∧ (decode cL_law 2400 = .ok (.aload_n 0, 1)) ∧ (decode cL_law 2401 = .ok (.iload 5, 2)) ∧ (decode cL_law 2403 = .ok (.iconst 2, 1)) ∧ (decode cL_law 2404 = .ok (.iadd, 1)) ∧ (decode cL_law 2405 = .ok (.iaload, 1)) ∧ (decode cL_law 2406 = .ok (.aload_n 0, 1)) ∧ (decode cL_law 2407 = .ok (.iload 5, 2)) ∧ (decode cL_law 2409 = .ok (.iconst 3, 1)) ∧ (decode cL_law 2410 = .ok (.iadd, 1)) ∧ (decode cL_law 2411 = .ok (.iaload, 1)) ∧ (decode cL_law 2412 = .ok (.invokevirtual 286, 3)) := by decide +kernel
theorem dL_law_2399 : decode cL_law 2399 = .ok (.iaload, 1) := ydb_4_144.1
theorem dL_law_2400 : decode cL_law 2400 = .ok (.aload_n 0, 1) := ydb_4_144.2.1
theorem dL_law_2401 : decode cL_law 2401 = .ok (.iload 5, 2) := ydb_4_144.2.2.1
theorem dL_law_2403 : decode cL_law 2403 = .ok (.iconst 2, 1) := ydb_4_144.2.2.2.1
theorem dL_law_2404 : decode cL_law 2404 = .ok (.iadd, 1) := ydb_4_144.2.2.2.2.1
theorem dL_law_2405 : decode cL_law 2405 = .ok (.iaload, 1) := ydb_4_144.2.2.2.2.2.1
theorem dL_law_2406 : decode cL_law 2406 = .ok (.aload_n 0, 1) := ydb_4_144.2.2.2.2.2.2.1
theorem dL_law_2407 : decode cL_law 2407 = .ok (.iload 5, 2) := ydb_4_144.2.2.2.2.2.2.2.1
theorem dL_law_2409 : decode cL_law 2409 = .ok (.iconst 3, 1) := ydb_4_144.2.2.2.2.2.2.2.2.1
theorem dL_law_2410 : decode cL_law 2410 = .ok (.iadd, 1) := ydb_4_144.2.2.2.2.2.2.2.2.2.1
theorem dL_law_2411 : decode cL_law 2411 = .ok (.iaload, 1) := ydb_4_144.2.2.2.2.2.2.2.2.2.2.1
theorem dL_law_2412 : decode cL_law 2412 = .ok (.invokevirtual 286, 3) := ydb_4_144.2.2.2.2.2.2.2.2.2.2.2
theorem ydb_4_156 : (decode cL_law 2415 = .ok (.istore 7, 2)) ∧ (decode cL_law 2417 = .ok (.aload_n 2, 1)) ∧ (decode cL_law 2418 = .ok (.invokevirtual 165, 3)) ∧ (decode cL_law 2421 = .ok (.iload 6, 2)) ∧ (decode cL_law 2423 = .ok (.if_icmp .eq 5, 3)) ∧ (decode cL_law 2428 = .ok (.iload 6, 2)) ∧ (decode cL_law 2430 = .ok (.ifCond .ne 22, 3)) ∧ (decode cL_law 2452 = .ok (.goto 685, 3)) ∧ (decode cL_law 2455 = .ok (.aload_n 1, 1)) ∧ (decode cL_law 2456 = .ok (.aload_n 0, 1)) ∧ (decode cL_law 2457 = .ok (.iload 5, 2)) ∧ (decode cL_law 2459 = .ok (.iconst 1, 1)) := by decide +kernel
theorem dL_law_2415 : decode cL_law 2415 = .ok (.istore 7, 2) := ydb_4_156.1
theorem dL_law_2417 : decode cL_law 2417 = .ok (.aload_n 2, 1) := ydb_4_156.2.1
theorem dL_law_2418 : decode cL_law 2418 = .ok (.invokevirtual 165, 3) := ydb_4_156.2.2.1
theorem dL_law_2421 : decode cL_law 2421 = .ok (.iload 6, 2) := ydb_4_156.2.2.2.1
theorem dL_law_2423 : decode cL_law 2423 = .ok (.if_icmp .eq 5, 3) := ydb_4_156.2.2.2.2.1
theorem dL_law_2428 : decode cL_law 2428 = .ok (.iload 6, 2) := ydb_4_156.2.2.2.2.2.1
theorem dL_law_2430 : decode cL_law 2430 = .ok (.ifCond .ne 22, 3) := ydb_4_156.2.2.2.2.2.2.1
theorem dL_law_2452 : decode cL_law 2452 = .ok (.goto 685, 3) := ydb_4_156.2.2.2.2.2.2.2.1
theorem dL_law_2455 : decode cL_law 2455 = .ok (.aload_n 1, 1) := ydb_4_156.2.2.2.2.2.2.2.2.1
theorem dL_law_2456 : decode cL_law 2456 = .ok (.aload_n 0, 1) := ydb_4_156.2.2.2.2.2.2.2.2.2.1
theorem dL_law_2457 : decode cL_law 2457 = .ok (.iload 5, 2) := ydb_4_156.2.2.2.2.2.2.2.2.2.2.1
theorem dL_law_2459 : decode cL_law 2459 = .ok (.iconst 1, 1) := ydb_4_156.2.2.2.2.2.2.2.2.2.2.2
theorem ydb_4_168 : (decode cL_law 2460 = .ok (.iadd, 1)) ∧ (decode cL_law 2461 = .ok (.iaload, 1)) ∧ (decode cL_law 2462 = .ok (.aload_n 3, 1)) ∧ (decode cL_law 2463 = .ok (.invokestatic 287, 3)) ∧ (decode cL_law 2466 = .ok (.istore 6, 2)) ∧ (decode cL_law 2468 = .ok (.aload_n 2, 1)) ∧ (decode cL_law 2469 = .ok (.aload_n 0, 1)) ∧ (decode cL_law 2470 = .ok (.iload 5, 2)) ∧ (decode cL_law 2472 = .ok (.iconst 1, 1)) ∧ (decode cL_law 2473 = .ok (.iadd, 1)) ∧ (decode cL_law 2474 = .ok (.iaload, 1)) ∧ (decode cL_law 2475 = .ok (.invokevirtual 289, 3)) := by decide +kernel
theorem dL_law_2460 : decode cL_law 2460 = .ok (.iadd, 1) := ydb_4_168.1
theorem dL_law_2461 : decode cL_law 2461 = .ok (.iaload, 1) := ydb_4_168.2.1
theorem dL_law_2462 : decode cL_law 2462 = .ok (.aload_n 3, 1) := ydb_4_168.2.2.1
theorem dL_law_2463 : decode cL_law 2463 = .ok (.invokestatic 287, 3) := ydb_4_168.2.2.2.1
theorem dL_law_2466 : decode cL_law 2466 = .ok (.istore 6, 2) := ydb_4_168.2.2.2.2.1
theorem dL_law_2468 : decode cL_law 2468 = .ok (.aload_n 2, 1) := ydb_4_168.2.2.2.2.2.1
theorem dL_law_2469 : decode cL_law 2469 = .ok (.aload_n 0, 1) := ydb_4_168.2.2.2.2.2.2.1
theorem dL_law_2470 : decode cL_law 2470 = .ok (.iload 5, 2) := ydb_4_168.2.2.2.2.2.2.2.1
theorem dL_law_2472 : decode cL_law 2472 = .ok (.iconst 1, 1) := ydb_4_168.2.2.2.2.2.2.2.2.1
theorem dL_law_2473 : decode cL_law 2473 = .ok (.iadd, 1) := ydb_4_168.2.2.2.2.2.2.2.2.2.1
theorem dL_law_2474 : decode cL_law 2474 = .ok (.iaload, 1) := ydb_4_168.2.2.2.2.2.2.2.2.2.2.1
theorem dL_law_2475 : decode cL_law 2475 = .ok (.invokevirtual 289, 3) := ydb_4_168.2.2.2.2.2.2.2.2.2.2.2
theorem ydb_4_180 : (decode cL_law 2478 = .ok (.istore 7, 2)) ∧ (decode cL_law 2480 = .ok (.aload_n 2, 1)) ∧ (decode cL_law 2481 = .ok (.invokevirtual 165, 3)) ∧ (decode cL_law 2484 = .ok (.iload 6, 2)) ∧ (decode cL_law 2486 = .ok (.if_icmp .eq 5, 3)) ∧ (decode cL_law 2491 = .ok (.iload 6, 2)) ∧ (decode cL_law 2493 = .ok (.ifCond .ne 15, 3)) ∧ (decode cL_law 2496 = .ok (.aload_n 3, 1)) ∧ (decode cL_law 2497 = .ok (.iconst 0, 1)) ∧ (decode cL_law 2498 = .ok (.laload, 1)) ∧ (decode cL_law 2499 = .ok (.iload 7, 2)) ∧ (decode cL_law 2501 = .ok (.i2l, 1)) := by decide +kernel
theorem dL_law_2478 : decode cL_law 2478 = .ok (.istore 7, 2) := ydb_4_180.1
theorem dL_law_2480 : decode cL_law 2480 = .ok (.aload_n 2, 1) := ydb_4_180.2.1
theorem dL_law_2481 : decode cL_law 2481 = .ok (.invokevirtual 165, 3) := ydb_4_180.2.2.1
theorem dL_law_2484 : decode cL_law 2484 = .ok (.iload 6, 2) := ydb_4_180.2.2.2.1
theorem dL_law_2486 : decode cL_law 2486 = .ok (.if_icmp .eq 5, 3) := ydb_4_180.2.2.2.2.1
theorem dL_law_2491 : decode cL_law 2491 = .ok (.iload 6, 2) := ydb_4_180.2.2.2.2.2.1
theorem dL_law_2493 : decode cL_law 2493 = .ok (.ifCond .ne 15, 3) := ydb_4_180.2.2.2.2.2.2.1
theorem dL_law_2496 : decode cL_law 2496 = .ok (.aload_n 3, 1) := ydb_4_180.2.2.2.2.2.2.2.1
theorem dL_law_2497 : decode cL_law 2497 = .ok (.iconst 0, 1) := ydb_4_180.2.2.2.2.2.2.2.2.1
theorem dL_law_2498 : decode cL_law 2498 = .ok (.laload, 1) := ydb_4_180.2.2.2.2.2.2.2.2.2.1
theorem dL_law_2499 : decode cL_law 2499 = .ok (.iload 7, 2) := ydb_4_180.2.2.2.2.2.2.2.2.2.2.1
theorem dL_law_2501 : decode cL_law 2501 = .ok (.i2l, 1) := ydb_4_180.2.2.2.2.2.2.2.2.2.2.2
theorem ydb_4_192 : (decode cL_law 2502 = .ok (.lcmp, 1)) ∧ (decode cL_law 2503 = .ok (.ifCond .eq 5, 3)) ∧ (decode cL_law 2508 = .ok (.goto 629, 3)) ∧ (decode cL_law 2511 = .ok (.aload_n 1, 1)) ∧ (decode cL_law 2512 = .ok (.aload_n 0, 1)) ∧ (decode cL_law 2513 = .ok (.iload 5, 2)) ∧ (decode cL_law 2515 = .ok (.iconst 1, 1)) ∧ (decode cL_law 2516 = .ok (.iadd, 1)) ∧ (decode cL_law 2517 = .ok (.iaload, 1)) ∧ (decode cL_law 2518 = .ok (.aload_n 0, 1)) ∧ (decode cL_law 2519 = .ok (.iload 5, 2)) ∧ (decode cL_law 2521 = .ok (.iconst 2, 1)) := by decide +kernel
theorem dL_law_2502 : decode cL_law 2502 = .ok (.lcmp, 1) := ydb_4_192.1
theorem dL_law_2503 : decode cL_law 2503 = .ok (.ifCond .eq 5, 3) := ydb_4_192.2.1
theorem dL_law_2508 : decode cL_law 2508 = .ok (.goto 629, 3) := ydb_4_192.2.2.1
theorem dL_law_2511 : decode cL_law 2511 = .ok (.aload_n 1, 1) := ydb_4_192.2.2.2.1
theorem dL_law_2512 : decode cL_law 2512 = .ok (.aload_n 0, 1) := ydb_4_192.2.2.2.2.1
theorem dL_law_2513 : decode cL_law 2513 = .ok (.iload 5, 2) := ydb_4_192.2.2.2.2.2.1
theorem dL_law_2515 : decode cL_law 2515 = .ok (.iconst 1, 1) := ydb_4_192.2.2.2.2.2.2.1
theorem dL_law_2516 : decode cL_law 2516 = .ok (.iadd, 1) := ydb_4_192.2.2.2.2.2.2.2.1
theorem dL_law_2517 : decode cL_law 2517 = .ok (.iaload, 1) := ydb_4_192.2.2.2.2.2.2.2.2.1
theorem dL_law_2518 : decode cL_law 2518 = .ok (.aload_n 0, 1) := ydb_4_192.2.2.2.2.2.2.2.2.2.1
theorem dL_law_2519 : decode cL_law 2519 = .ok (.iload 5, 2) := ydb_4_192.2.2.2.2.2.2.2.2.2.2.1
theorem dL_law_2521 : decode cL_law 2521 = .ok (.iconst 2, 1) := ydb_4_192.2.2.2.2.2.2.2.2.2.2.2
theorem ydb_4_204 : (decode cL_law 2522 = .ok (.iadd, 1)) ∧ (decode cL_law 2523 = .ok (.iaload, 1)) ∧ (decode cL_law 2524 = .ok (.aload_n 3, 1)) ∧ (decode cL_law 2525 = .ok (.invokestatic 290, 3)) ∧ (decode cL_law 2528 = .ok (.istore 6, 2)) ∧ (decode cL_law 2530 = .ok (.aload_n 2, 1)) ∧ (decode cL_law 2531 = .ok (.aload_n 0, 1)) ∧ (decode cL_law 2532 = .ok (.iload 5, 2)) ∧ (decode cL_law 2534 = .ok (.iconst 1, 1)) ∧ (decode cL_law 2535 = .ok (.iadd, 1)) ∧ (decode cL_law 2536 = .ok (.iaload, 1)) ∧ (decode cL_law 2537 = .ok (.aload_n 0, 1)) := by decide +kernel
theorem dL_law_2522 : decode cL_law 2522 = .ok (.iadd, 1) := ydb_4_204.1
theorem dL_law_2523 : decode cL_law 2523 = .ok (.iaload, 1) := ydb_4_204.2.1
theorem dL_law_2524 : decode cL_law 2524 = .ok (.aload_n 3, 1) := ydb_4_204.2.2.1
theorem dL_law_2525 : decode cL_law 2525 = .ok (.invokestatic 290, 3) := ydb_4_204.2.2.2.1
theorem dL_law_2528 : decode cL_law 2528 = .ok (.istore 6, 2) := ydb_4_204.2.2.2.2.1
theorem dL_law_2530 : decode cL_law 2530 = .ok (.aload_n 2, 1) := ydb_4_204.2.2.2.2.2.1
theorem dL_law_2531 : decode cL_law 2531 = .ok (.aload_n 0, 1) := ydb_4_204.2.2.2.2.2.2.1
theorem dL_law_2532 : decode cL_law 2532 = .ok (.iload 5, 2) := ydb_4_204.2.2.2.2.2.2.2.1
theorem dL_law_2534 : decode cL_law 2534 = .ok (.iconst 1, 1) := ydb_4_204.2.2.2.2.2.2.2.2.1
theorem dL_law_2535 : decode cL_law 2535 = .ok (.iadd, 1) := ydb_4_204.2.2.2.2.2.2.2.2.2.1
theorem dL_law_2536 : decode cL_law 2536 = .ok (.iaload, 1) := ydb_4_204.2.2.2.2.2.2.2.2.2.2.1
theorem dL_law_2537 : decode cL_law 2537 = .ok (.aload_n 0, 1) := ydb_4_204.2.2.2.2.2.2.2.2.2.2.2
theorem ydb_4_216 : (decode cL_law 2538 = .ok (.iload 5, 2)) ∧ (decode cL_law 2540 = .ok (.iconst 2, 1)) ∧ (decode cL_law 2541 = .ok (.iadd, 1)) ∧ (decode cL_law 2542 = .ok (.iaload, 1)) ∧ (decode cL_law 2543 = .ok (.invokevirtual 292, 3)) ∧ (decode cL_law 2546 = .ok (.istore 7, 2)) ∧ (decode cL_law 2548 = .ok (.aload_n 2, 1)) ∧ (decode cL_law 2549 = .ok (.invokevirtual 165, 3)) ∧ (decode cL_law 2552 = .ok (.iload 6, 2)) ∧ (decode cL_law 2554 = .ok (.if_icmp .eq 5, 3)) ∧ (decode cL_law 2559 = .ok (.iload 6, 2)) ∧ (decode cL_law 2561 = .ok (.ifCond .ne 15, 3)) := by decide +kernel
theorem dL_law_2538 : decode cL_law 2538 = .ok (.iload 5, 2) := ydb_4_216.1
theorem dL_law_2540 : decode cL_law 2540 = .ok (.iconst 2, 1) := ydb_4_216.2.1
theorem dL_law_2541 : decode cL_law 2541 = .ok (.iadd, 1) := ydb_4_216.2.2.1
theorem dL_law_2542 : decode cL_law 2542 = .ok (.iaload, 1) := ydb_4_216.2.2.2.1
theorem dL_law_2543 : decode cL_law 2543 = .ok (.invokevirtual 292, 3) := ydb_4_216.2.2.2.2.1
theorem dL_law_2546 : decode cL_law 2546 = .ok (.istore 7, 2) := ydb_4_216.2.2.2.2.2.1
theorem dL_law_2548 : decode cL_law 2548 = .ok (.aload_n 2, 1) := ydb_4_216.2.2.2.2.2.2.1
theorem dL_law_2549 : decode cL_law 2549 = .ok (.invokevirtual 165, 3) := ydb_4_216.2.2.2.2.2.2.2.1
theorem dL_law_2552 : decode cL_law 2552 = .ok (.iload 6, 2) := ydb_4_216.2.2.2.2.2.2.2.2.1
theorem dL_law_2554 : decode cL_law 2554 = .ok (.if_icmp .eq 5, 3) := ydb_4_216.2.2.2.2.2.2.2.2.2.1
theorem dL_law_2559 : decode cL_law 2559 = .ok (.iload 6, 2) := ydb_4_216.2.2.2.2.2.2.2.2.2.2.1
theorem dL_law_2561 : decode cL_law 2561 = .ok (.ifCond .ne 15, 3) := ydb_4_216.2.2.2.2.2.2.2.2.2.2.2
theorem ydb_4_228 : (decode cL_law 2576 = .ok (.goto 561, 3)) ∧ (decode cL_law 2579 = .ok (.aload_n 1, 1)) ∧ (decode cL_law 2580 = .ok (.aload_n 0, 1)) ∧ (decode cL_law 2581 = .ok (.iload 5, 2)) ∧ (decode cL_law 2583 = .ok (.iconst 1, 1)) ∧ (decode cL_law 2584 = .ok (.iadd, 1)) ∧ (decode cL_law 2585 = .ok (.iaload, 1)) ∧ (decode cL_law 2586 = .ok (.aload_n 0, 1)) ∧ (decode cL_law 2587 = .ok (.iload 5, 2)) ∧ (decode cL_law 2589 = .ok (.iconst 2, 1)) ∧ (decode cL_law 2590 = .ok (.iadd, 1)) ∧ (decode cL_law 2591 = .ok (.iaload, 1)) := by decide +kernel
theorem dL_law_2576 : decode cL_law 2576 = .ok (.goto 561, 3) := ydb_4_228.1
theorem dL_law_2579 : decode cL_law 2579 = .ok (.aload_n 1, 1) := ydb_4_228.2.1
theorem dL_law_2580 : decode cL_law 2580 = .ok (.aload_n 0, 1) := ydb_4_228.2.2.1
theorem dL_law_2581 : decode cL_law 2581 = .ok (.iload 5, 2) := ydb_4_228.2.2.2.1
theorem dL_law_2583 : decode cL_law 2583 = .ok (.iconst 1, 1) := ydb_4_228.2.2.2.2.1
theorem dL_law_2584 : decode cL_law 2584 = .ok (.iadd, 1) := ydb_4_228.2.2.2.2.2.1
theorem dL_law_2585 : decode cL_law 2585 = .ok (.iaload, 1) := ydb_4_228.2.2.2.2.2.2.1
theorem dL_law_2586 : decode cL_law 2586 = .ok (.aload_n 0, 1) := ydb_4_228.2.2.2.2.2.2.2.1
theorem dL_law_2587 : decode cL_law 2587 = .ok (.iload 5, 2) := ydb_4_228.2.2.2.2.2.2.2.2.1
theorem dL_law_2589 : decode cL_law 2589 = .ok (.iconst 2, 1) := ydb_4_228.2.2.2.2.2.2.2.2.2.1
theorem dL_law_2590 : decode cL_law 2590 = .ok (.iadd, 1) := ydb_4_228.2.2.2.2.2.2.2.2.2.2.1
theorem dL_law_2591 : decode cL_law 2591 = .ok (.iaload, 1) := ydb_4_228.2.2.2.2.2.2.2.2.2.2.2
theorem ydb_4_240 : (decode cL_law 2592 = .ok (.aload_n 3, 1)) ∧ (decode cL_law 2593 = .ok (.invokestatic 293, 3)) ∧ (decode cL_law 2596 = .ok (.istore 6, 2)) ∧ (decode cL_law 2598 = .ok (.aload_n 2, 1)) ∧ (decode cL_law 2599 = .ok (.aload_n 0, 1)) ∧ (decode cL_law 2600 = .ok (.iload 5, 2)) ∧ (decode cL_law 2602 = .ok (.iconst 1, 1)) ∧ (decode cL_law 2603 = .ok (.iadd, 1)) ∧ (decode cL_law 2604 = .ok (.iaload, 1)) ∧ (decode cL_law 2605 = .ok (.aload_n 0, 1)) := by decide +kernel
theorem dL_law_2592 : decode cL_law 2592 = .ok (.aload_n 3, 1) := ydb_4_240.1
theorem dL_law_2593 : decode cL_law 2593 = .ok (.invokestatic 293, 3) := ydb_4_240.2.1
theorem dL_law_2596 : decode cL_law 2596 = .ok (.istore 6, 2) := ydb_4_240.2.2.1
theorem dL_law_2598 : decode cL_law 2598 = .ok (.aload_n 2, 1) := ydb_4_240.2.2.2.1
theorem dL_law_2599 : decode cL_law 2599 = .ok (.aload_n 0, 1) := ydb_4_240.2.2.2.2.1
theorem dL_law_2600 : decode cL_law 2600 = .ok (.iload 5, 2) := ydb_4_240.2.2.2.2.2.1
theorem dL_law_2602 : decode cL_law 2602 = .ok (.iconst 1, 1) := ydb_4_240.2.2.2.2.2.2.1
theorem dL_law_2603 : decode cL_law 2603 = .ok (.iadd, 1) := ydb_4_240.2.2.2.2.2.2.2.1
theorem dL_law_2604 : decode cL_law 2604 = .ok (.iaload, 1) := ydb_4_240.2.2.2.2.2.2.2.2.1
theorem dL_law_2605 : decode cL_law 2605 = .ok (.aload_n 0, 1) := ydb_4_240.2.2.2.2.2.2.2.2.2
