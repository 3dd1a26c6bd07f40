/-! the law's instructions, part 5 -/
theorem d_L_law_2051 : decode y_L_law.2.1 2051 = .ok (.iadd, 1) := by decide +kernel
theorem d_L_law_2052 : decode y_L_law.2.1 2052 = .ok (.iaload, 1) := by decide +kernel
theorem d_L_law_2053 : decode y_L_law.2.1 2053 = .ok (.aload_n 0, 1) := by decide +kernel
theorem d_L_law_2054 : decode y_L_law.2.1 2054 = .ok (.iload 4, 2) := by decide +kernel
theorem d_L_law_2056 : decode y_L_law.2.1 2056 = .ok (.iconst 3, 1) := by decide +kernel
theorem d_L_law_2057 : decode y_L_law.2.1 2057 = .ok (.iadd, 1) := by decide +kernel
theorem d_L_law_2058 : decode y_L_law.2.1 2058 = .ok (.iaload, 1) := by decide +kernel
theorem d_L_law_2059 : decode y_L_law.2.1 2059 = .ok (.aload_n 0, 1) := by decide +kernel
theorem d_L_law_2060 : decode y_L_law.2.1 2060 = .ok (.iload 4, 2) := by decide +kernel
theorem d_L_law_2062 : decode y_L_law.2.1 2062 = .ok (.iconst 4, 1) := by decide +kernel
theorem d_L_law_2063 : decode y_L_law.2.1 2063 = .ok (.iadd, 1) := by decide +kernel
theorem d_L_law_2064 : decode y_L_law.2.1 2064 = .ok (.iaload, 1) := by decide +kernel
theorem d_L_law_2065 : decode y_L_law.2.1 2065 = .ok (.aload_n 0, 1) := by decide +kernel
theorem d_L_law_2066 : decode y_L_law.2.1 2066 = .ok (.iload 4, 2) := by decide +kernel
theorem d_L_law_2068 : decode y_L_law.2.1 2068 = .ok (.iconst 5, 1) := by decide +kernel
theorem d_L_law_2069 : decode y_L_law.2.1 2069 = .ok (.iadd, 1) := by decide +kernel
theorem d_L_law_2070 : decode y_L_law.2.1 2070 = .ok (.iaload, 1) := by decide +kernel
theorem d_L_law_2071 : decode y_L_law.2.1 2071 = .ok (.aload_n 0, 1) := by decide +kernel
theorem d_L_law_2072 : decode y_L_law.2.1 2072 = .ok (.iload 4, 2) := by decide +kernel
theorem d_L_law_2074 : decode y_L_law.2.1 2074 = .ok (.bipush 6, 2) := by decide +kernel
theorem d_L_law_2076 : decode y_L_law.2.1 2076 = .ok (.iadd, 1) := by decide +kernel
theorem d_L_law_2077 : decode y_L_law.2.1 2077 = .ok (.iaload, 1) := by decide +kernel
theorem d_L_law_2078 : decode y_L_law.2.1 2078 = .ok (.invokevirtual 224, 3) := by decide +kernel
theorem d_L_law_2081 : decode y_L_law.2.1 2081 = .ok (.istore 6, 2) := by decide +kernel
theorem d_L_law_2083 : decode y_L_law.2.1 2083 = .ok (.aload_n 2, 1) := by decide +kernel
theorem d_L_law_2084 : decode y_L_law.2.1 2084 = .ok (.invokevirtual 156, 3) := by decide +kernel
theorem d_L_law_2087 : decode y_L_law.2.1 2087 = .ok (.iload 5, 2) := by decide +kernel
theorem d_L_law_2089 : decode y_L_law.2.1 2089 = .ok (.if_icmp .eq 5, 3) := by decide +kernel
theorem d_L_law_2092 : decode y_L_law.2.1 2092 = .ok (.iconst 0, 1) := by decide +kernel
theorem d_L_law_2093 : decode y_L_law.2.1 2093 = .ok (.ireturn, 1) := by decide +kernel
theorem d_L_law_2094 : decode y_L_law.2.1 2094 = .ok (.iload 5, 2) := by decide +kernel
theorem d_L_law_2096 : decode y_L_law.2.1 2096 = .ok (.ifCond .ne 15, 3) := by decide +kernel
theorem d_L_law_2099 : decode y_L_law.2.1 2099 = .ok (.aload_n 3, 1) := by decide +kernel
theorem d_L_law_2100 : decode y_L_law.2.1 2100 = .ok (.iconst 0, 1) := by decide +kernel
theorem d_L_law_2101 : decode y_L_law.2.1 2101 = .ok (.laload, 1) := by decide +kernel
theorem d_L_law_2102 : decode y_L_law.2.1 2102 = .ok (.iload 6, 2) := by decide +kernel
theorem d_L_law_2104 : decode y_L_law.2.1 2104 = .ok (.i2l, 1) := by decide +kernel
theorem d_L_law_2105 : decode y_L_law.2.1 2105 = .ok (.lcmp, 1) := by decide +kernel
theorem d_L_law_2106 : decode y_L_law.2.1 2106 = .ok (.ifCond .eq 5, 3) := by decide +kernel
theorem d_L_law_2109 : decode y_L_law.2.1 2109 = .ok (.iconst 0, 1) := by decide +kernel
theorem d_L_law_2110 : decode y_L_law.2.1 2110 = .ok (.ireturn, 1) := by decide +kernel
theorem d_L_law_2111 : decode y_L_law.2.1 2111 = .ok (.goto 1758, 3) := by decide +kernel
theorem d_L_law_2114 : decode y_L_law.2.1 2114 = .ok (.aload_n 1, 1) := by decide +kernel
theorem d_L_law_2115 : decode y_L_law.2.1 2115 = .ok (.aload_n 0, 1) := by decide +kernel
theorem d_L_law_2116 : decode y_L_law.2.1 2116 = .ok (.iload 4, 2) := by decide +kernel
theorem d_L_law_2118 : decode y_L_law.2.1 2118 = .ok (.iconst 1, 1) := by decide +kernel
theorem d_L_law_2119 : decode y_L_law.2.1 2119 = .ok (.iadd, 1) := by decide +kernel
theorem d_L_law_2120 : decode y_L_law.2.1 2120 = .ok (.iaload, 1) := by decide +kernel
theorem d_L_law_2121 : decode y_L_law.2.1 2121 = .ok (.aload_n 0, 1) := by decide +kernel
theorem d_L_law_2122 : decode y_L_law.2.1 2122 = .ok (.iload 4, 2) := by decide +kernel
theorem d_L_law_2124 : decode y_L_law.2.1 2124 = .ok (.iconst 2, 1) := by decide +kernel
theorem d_L_law_2125 : decode y_L_law.2.1 2125 = .ok (.iadd, 1) := by decide +kernel
theorem d_L_law_2126 : decode y_L_law.2.1 2126 = .ok (.iaload, 1) := by decide +kernel
theorem d_L_law_2127 : decode y_L_law.2.1 2127 = .ok (.aload_n 0, 1) := by decide +kernel
theorem d_L_law_2128 : decode y_L_law.2.1 2128 = .ok (.iload 4, 2) := by decide +kernel
theorem d_L_law_2130 : decode y_L_law.2.1 2130 = .ok (.iconst 3, 1) := by decide +kernel
theorem d_L_law_2131 : decode y_L_law.2.1 2131 = .ok (.iadd, 1) := by decide +kernel
theorem d_L_law_2132 : decode y_L_law.2.1 2132 = .ok (.iaload, 1) := by decide +kernel
theorem d_L_law_2133 : decode y_L_law.2.1 2133 = .ok (.aload_n 0, 1) := by decide +kernel
theorem d_L_law_2134 : decode y_L_law.2.1 2134 = .ok (.iload 4, 2) := by decide +kernel
theorem d_L_law_2136 : decode y_L_law.2.1 2136 = .ok (.iconst 4, 1) := by decide +kernel
theorem d_L_law_2137 : decode y_L_law.2.1 2137 = .ok (.iadd, 1) := by decide +kernel
theorem d_L_law_2138 : decode y_L_law.2.1 2138 = .ok (.iaload, 1) := by decide +kernel
theorem d_L_law_2139 : decode y_L_law.2.1 2139 = .ok (.aload_n 0, 1) := by decide +kernel
theorem d_L_law_2140 : decode y_L_law.2.1 2140 = .ok (.iload 4, 2) := by decide +kernel
theorem d_L_law_2142 : decode y_L_law.2.1 2142 = .ok (.iconst 5, 1) := by decide +kernel
theorem d_L_law_2143 : decode y_L_law.2.1 2143 = .ok (.iadd, 1) := by decide +kernel
theorem d_L_law_2144 : decode y_L_law.2.1 2144 = .ok (.iaload, 1) := by decide +kernel
theorem d_L_law_2145 : decode y_L_law.2.1 2145 = .ok (.aload_n 0, 1) := by decide +kernel
theorem d_L_law_2146 : decode y_L_law.2.1 2146 = .ok (.iload 4, 2) := by decide +kernel
theorem d_L_law_2148 : decode y_L_law.2.1 2148 = .ok (.bipush 6, 2) := by decide +kernel
theorem d_L_law_2150 : decode y_L_law.2.1 2150 = .ok (.iadd, 1) := by decide +kernel
theorem d_L_law_2151 : decode y_L_law.2.1 2151 = .ok (.iaload, 1) := by decide +kernel
theorem d_L_law_2152 : decode y_L_law.2.1 2152 = .ok (.aload_n 3, 1) := by decide +kernel
theorem d_L_law_2153 : decode y_L_law.2.1 2153 = .ok (.invokestatic 225, 3) := by decide +kernel
theorem d_L_law_2156 : decode y_L_law.2.1 2156 = .ok (.istore 5, 2) := by decide +kernel
theorem d_L_law_2158 : decode y_L_law.2.1 2158 = .ok (.aload_n 2, 1) := by decide +kernel
theorem d_L_law_2159 : decode y_L_law.2.1 2159 = .ok (.aload_n 0, 1) := by decide +kernel
theorem d_L_law_2160 : decode y_L_law.2.1 2160 = .ok (.iload 4, 2) := by decide +kernel
theorem d_L_law_2162 : decode y_L_law.2.1 2162 = .ok (.iconst 1, 1) := by decide +kernel
theorem d_L_law_2163 : decode y_L_law.2.1 2163 = .ok (.iadd, 1) := by decide +kernel
theorem d_L_law_2164 : decode y_L_law.2.1 2164 = .ok (.iaload, 1) := by decide +kernel
theorem d_L_law_2165 : decode y_L_law.2.1 2165 = .ok (.aload_n 0, 1) := by decide +kernel
theorem d_L_law_2166 : decode y_L_law.2.1 2166 = .ok (.iload 4, 2) := by decide +kernel
theorem d_L_law_2168 : decode y_L_law.2.1 2168 = .ok (.iconst 2, 1) := by decide +kernel
theorem d_L_law_2169 : decode y_L_law.2.1 2169 = .ok (.iadd, 1) := by decide +kernel
theorem d_L_law_2170 : decode y_L_law.2.1 2170 = .ok (.iaload, 1) := by decide +kernel
theorem d_L_law_2171 : decode y_L_law.2.1 2171 = .ok (.aload_n 0, 1) := by decide +kernel
theorem d_L_law_2172 : decode y_L_law.2.1 2172 = .ok (.iload 4, 2) := by decide +kernel
theorem d_L_law_2174 : decode y_L_law.2.1 2174 = .ok (.iconst 3, 1) := by decide +kernel
theorem d_L_law_2175 : decode y_L_law.2.1 2175 = .ok (.iadd, 1) := by decide +kernel
theorem d_L_law_2176 : decode y_L_law.2.1 2176 = .ok (.iaload, 1) := by decide +kernel
theorem d_L_law_2177 : decode y_L_law.2.1 2177 = .ok (.aload_n 0, 1) := by decide +kernel
theorem d_L_law_2178 : decode y_L_law.2.1 2178 = .ok (.iload 4, 2) := by decide +kernel
theorem d_L_law_2180 : decode y_L_law.2.1 2180 = .ok (.iconst 4, 1) := by decide +kernel
theorem d_L_law_2181 : decode y_L_law.2.1 2181 = .ok (.iadd, 1) := by decide +kernel
theorem d_L_law_2182 : decode y_L_law.2.1 2182 = .ok (.iaload, 1) := by decide +kernel
theorem d_L_law_2183 : decode y_L_law.2.1 2183 = .ok (.aload_n 0, 1) := by decide +kernel
theorem d_L_law_2184 : decode y_L_law.2.1 2184 = .ok (.iload 4, 2) := by decide +kernel
theorem d_L_law_2186 : decode y_L_law.2.1 2186 = .ok (.iconst 5, 1) := by decide +kernel
theorem d_L_law_2187 : decode y_L_law.2.1 2187 = .ok (.iadd, 1) := by decide +kernel
theorem d_L_law_2188 : decode y_L_law.2.1 2188 = .ok (.iaload, 1) := by decide +kernel
theorem d_L_law_2189 : decode y_L_law.2.1 2189 = .ok (.aload_n 0, 1) := by decide +kernel
theorem d_L_law_2190 : decode y_L_law.2.1 2190 = .ok (.iload 4, 2) := by decide +kernel
theorem d_L_law_2192 : decode y_L_law.2.1 2192 = .ok (.bipush 6, 2) := by decide +kernel
theorem d_L_law_2194 : decode y_L_law.2.1 2194 = .ok (.iadd, 1) := by decide +kernel
theorem d_L_law_2195 : decode y_L_law.2.1 2195 = .ok (.iaload, 1) := by decide +kernel
theorem d_L_law_2196 : decode y_L_law.2.1 2196 = .ok (.invokevirtual 227, 3) := by decide +kernel
theorem d_L_law_2199 : decode y_L_law.2.1 2199 = .ok (.istore 6, 2) := by decide +kernel
theorem d_L_law_2201 : decode y_L_law.2.1 2201 = .ok (.aload_n 2, 1) := by decide +kernel
theorem d_L_law_2202 : decode y_L_law.2.1 2202 = .ok (.invokevirtual 156, 3) := by decide +kernel
theorem d_L_law_2205 : decode y_L_law.2.1 2205 = .ok (.iload 5, 2) := by decide +kernel
theorem d_L_law_2207 : decode y_L_law.2.1 2207 = .ok (.if_icmp .eq 5, 3) := by decide +kernel
theorem d_L_law_2210 : decode y_L_law.2.1 2210 = .ok (.iconst 0, 1) := by decide +kernel
theorem d_L_law_2211 : decode y_L_law.2.1 2211 = .ok (.ireturn, 1) := by decide +kernel
theorem d_L_law_2212 : decode y_L_law.2.1 2212 = .ok (.iload 5, 2) := by decide +kernel
theorem d_L_law_2214 : decode y_L_law.2.1 2214 = .ok (.ifCond .ne 15, 3) := by decide +kernel
theorem d_L_law_2217 : decode y_L_law.2.1 2217 = .ok (.aload_n 3, 1) := by decide +kernel
theorem d_L_law_2218 : decode y_L_law.2.1 2218 = .ok (.iconst 0, 1) := by decide +kernel
theorem d_L_law_2219 : decode y_L_law.2.1 2219 = .ok (.laload, 1) := by decide +kernel
theorem d_L_law_2220 : decode y_L_law.2.1 2220 = .ok (.iload 6, 2) := by decide +kernel
theorem d_L_law_2222 : decode y_L_law.2.1 2222 = .ok (.i2l, 1) := by decide +kernel
theorem d_L_law_2223 : decode y_L_law.2.1 2223 = .ok (.lcmp, 1) := by decide +kernel
theorem d_L_law_2224 : decode y_L_law.2.1 2224 = .ok (.ifCond .eq 5, 3) := by decide +kernel
theorem d_L_law_2227 : decode y_L_law.2.1 2227 = .ok (.iconst 0, 1) := by decide +kernel
theorem d_L_law_2228 : decode y_L_law.2.1 2228 = .ok (.ireturn, 1) := by decide +kernel
theorem d_L_law_2229 : decode y_L_law.2.1 2229 = .ok (.goto 1640, 3) := by decide +kernel
theorem d_L_law_2232 : decode y_L_law.2.1 2232 = .ok (.aload_n 1, 1) := by decide +kernel
theorem d_L_law_2233 : decode y_L_law.2.1 2233 = .ok (.aload_n 0, 1) := by decide +kernel
theorem d_L_law_2234 : decode y_L_law.2.1 2234 = .ok (.iload 4, 2) := by decide +kernel
theorem d_L_law_2236 : decode y_L_law.2.1 2236 = .ok (.iconst 1, 1) := by decide +kernel
theorem d_L_law_2237 : decode y_L_law.2.1 2237 = .ok (.iadd, 1) := by decide +kernel
theorem d_L_law_2238 : decode y_L_law.2.1 2238 = .ok (.iaload, 1) := by decide +kernel
theorem d_L_law_2239 : decode y_L_law.2.1 2239 = .ok (.aload_n 0, 1) := by decide +kernel
theorem d_L_law_2240 : decode y_L_law.2.1 2240 = .ok (.iload 4, 2) := by decide +kernel
theorem d_L_law_2242 : decode y_L_law.2.1 2242 = .ok (.iconst 2, 1) := by decide +kernel
theorem d_L_law_2243 : decode y_L_law.2.1 2243 = .ok (.iadd, 1) := by decide +kernel
theorem d_L_law_2244 : decode y_L_law.2.1 2244 = .ok (.iaload, 1) := by decide +kernel
theorem d_L_law_2245 : decode y_L_law.2.1 2245 = .ok (.aload_n 0, 1) := by decide +kernel
theorem d_L_law_2246 : decode y_L_law.2.1 2246 = .ok (.iload 4, 2) := by decide +kernel
theorem d_L_law_2248 : decode y_L_law.2.1 2248 = .ok (.iconst 3, 1) := by decide +kernel
theorem d_L_law_2249 : decode y_L_law.2.1 2249 = .ok (.iadd, 1) := by decide +kernel
theorem d_L_law_2250 : decode y_L_law.2.1 2250 = .ok (.iaload, 1) := by decide +kernel
theorem d_L_law_2251 : decode y_L_law.2.1 2251 = .ok (.aload_n 3, 1) := by decide +kernel
theorem d_L_law_2252 : decode y_L_law.2.1 2252 = .ok (.invokestatic 228, 3) := by decide +kernel
theorem d_L_law_2255 : decode y_L_law.2.1 2255 = .ok (.istore 5, 2) := by decide +kernel
theorem d_L_law_2257 : decode y_L_law.2.1 2257 = .ok (.aload_n 2, 1) := by decide +kernel
theorem d_L_law_2258 : decode y_L_law.2.1 2258 = .ok (.aload_n 0, 1) := by decide +kernel
theorem d_L_law_2259 : decode y_L_law.2.1 2259 = .ok (.iload 4, 2) := by decide +kernel
theorem d_L_law_2261 : decode y_L_law.2.1 2261 = .ok (.iconst 1, 1) := by decide +kernel
theorem d_L_law_2262 : decode y_L_law.2.1 2262 = .ok (.iadd, 1) := by decide +kernel
theorem d_L_law_2263 : decode y_L_law.2.1 2263 = .ok (.iaload, 1) := by decide +kernel
theorem d_L_law_2264 : decode y_L_law.2.1 2264 = .ok (.aload_n 0, 1) := by decide +kernel
theorem d_L_law_2265 : decode y_L_law.2.1 2265 = .ok (.iload 4, 2) := by decide +kernel
theorem d_L_law_2267 : decode y_L_law.2.1 2267 = .ok (.iconst 2, 1) := by decide +kernel
theorem d_L_law_2268 : decode y_L_law.2.1 2268 = .ok (.iadd, 1) := by decide +kernel
theorem d_L_law_2269 : decode y_L_law.2.1 2269 = .ok (.iaload, 1) := by decide +kernel
theorem d_L_law_2270 : decode y_L_law.2.1 2270 = .ok (.aload_n 0, 1) := by decide +kernel
theorem d_L_law_2271 : decode y_L_law.2.1 2271 = .ok (.iload 4, 2) := by decide +kernel
theorem d_L_law_2273 : decode y_L_law.2.1 2273 = .ok (.iconst 3, 1) := by decide +kernel
theorem d_L_law_2274 : decode y_L_law.2.1 2274 = .ok (.iadd, 1) := by decide +kernel
theorem d_L_law_2275 : decode y_L_law.2.1 2275 = .ok (.iaload, 1) := by decide +kernel
theorem d_L_law_2276 : decode y_L_law.2.1 2276 = .ok (.invokevirtual 230, 3) := by decide +kernel
theorem d_L_law_2279 : decode y_L_law.2.1 2279 = .ok (.istore 6, 2) := by decide +kernel
theorem d_L_law_2281 : decode y_L_law.2.1 2281 = .ok (.aload_n 2, 1) := by decide +kernel
theorem d_L_law_2282 : decode y_L_law.2.1 2282 = .ok (.invokevirtual 156, 3) := by decide +kernel
theorem d_L_law_2285 : decode y_L_law.2.1 2285 = .ok (.iload 5, 2) := by decide +kernel
theorem d_L_law_2287 : decode y_L_law.2.1 2287 = .ok (.if_icmp .eq 5, 3) := by decide +kernel
theorem d_L_law_2290 : decode y_L_law.2.1 2290 = .ok (.iconst 0, 1) := by decide +kernel
theorem d_L_law_2291 : decode y_L_law.2.1 2291 = .ok (.ireturn, 1) := by decide +kernel
theorem d_L_law_2292 : decode y_L_law.2.1 2292 = .ok (.iload 5, 2) := by decide +kernel
theorem d_L_law_2294 : decode y_L_law.2.1 2294 = .ok (.ifCond .ne 15, 3) := by decide +kernel
theorem d_L_law_2297 : decode y_L_law.2.1 2297 = .ok (.aload_n 3, 1) := by decide +kernel
theorem d_L_law_2298 : decode y_L_law.2.1 2298 = .ok (.iconst 0, 1) := by decide +kernel
theorem d_L_law_2299 : decode y_L_law.2.1 2299 = .ok (.laload, 1) := by decide +kernel
theorem d_L_law_2300 : decode y_L_law.2.1 2300 = .ok (.iload 6, 2) := by decide +kernel
theorem d_L_law_2302 : decode y_L_law.2.1 2302 = .ok (.i2l, 1) := by decide +kernel
theorem d_L_law_2303 : decode y_L_law.2.1 2303 = .ok (.lcmp, 1) := by decide +kernel
theorem d_L_law_2304 : decode y_L_law.2.1 2304 = .ok (.ifCond .eq 5, 3) := by decide +kernel
theorem d_L_law_2307 : decode y_L_law.2.1 2307 = .ok (.iconst 0, 1) := by decide +kernel
theorem d_L_law_2308 : decode y_L_law.2.1 2308 = .ok (.ireturn, 1) := by decide +kernel
theorem d_L_law_2309 : decode y_L_law.2.1 2309 = .ok (.goto 1560, 3) := by decide +kernel
theorem d_L_law_2312 : decode y_L_law.2.1 2312 = .ok (.aload_n 1, 1) := by decide +kernel
theorem d_L_law_2313 : decode y_L_law.2.1 2313 = .ok (.aload_n 0, 1) := by decide +kernel
theorem d_L_law_2314 : decode y_L_law.2.1 2314 = .ok (.iload 4, 2) := by decide +kernel
theorem d_L_law_2316 : decode y_L_law.2.1 2316 = .ok (.iconst 1, 1) := by decide +kernel
theorem d_L_law_2317 : decode y_L_law.2.1 2317 = .ok (.iadd, 1) := by decide +kernel
theorem d_L_law_2318 : decode y_L_law.2.1 2318 = .ok (.iaload, 1) := by decide +kernel
theorem d_L_law_2319 : decode y_L_law.2.1 2319 = .ok (.aload_n 0, 1) := by decide +kernel
theorem d_L_law_2320 : decode y_L_law.2.1 2320 = .ok (.iload 4, 2) := by decide +kernel
theorem d_L_law_2322 : decode y_L_law.2.1 2322 = .ok (.iconst 2, 1) := by decide +kernel
theorem d_L_law_2323 : decode y_L_law.2.1 2323 = .ok (.iadd, 1) := by decide +kernel
theorem d_L_law_2324 : decode y_L_law.2.1 2324 = .ok (.iaload, 1) := by decide +kernel
theorem d_L_law_2325 : decode y_L_law.2.1 2325 = .ok (.aload_n 0, 1) := by decide +kernel
theorem d_L_law_2326 : decode y_L_law.2.1 2326 = .ok (.iload 4, 2) := by decide +kernel
theorem d_L_law_2328 : decode y_L_law.2.1 2328 = .ok (.iconst 3, 1) := by decide +kernel
theorem d_L_law_2329 : decode y_L_law.2.1 2329 = .ok (.iadd, 1) := by decide +kernel
theorem d_L_law_2330 : decode y_L_law.2.1 2330 = .ok (.iaload, 1) := by decide +kernel
theorem d_L_law_2331 : decode y_L_law.2.1 2331 = .ok (.aload_n 0, 1) := by decide +kernel
theorem d_L_law_2332 : decode y_L_law.2.1 2332 = .ok (.iload 4, 2) := by decide +kernel
theorem d_L_law_2334 : decode y_L_law.2.1 2334 = .ok (.iconst 4, 1) := by decide +kernel
theorem d_L_law_2335 : decode y_L_law.2.1 2335 = .ok (.iadd, 1) := by decide +kernel
theorem d_L_law_2336 : decode y_L_law.2.1 2336 = .ok (.iaload, 1) := by decide +kernel
theorem d_L_law_2337 : decode y_L_law.2.1 2337 = .ok (.aload_n 3, 1) := by decide +kernel
theorem d_L_law_2338 : decode y_L_law.2.1 2338 = .ok (.invokestatic 231, 3) := by decide +kernel
theorem d_L_law_2341 : decode y_L_law.2.1 2341 = .ok (.istore 5, 2) := by decide +kernel
theorem d_L_law_2343 : decode y_L_law.2.1 2343 = .ok (.aload_n 2, 1) := by decide +kernel
theorem d_L_law_2344 : decode y_L_law.2.1 2344 = .ok (.aload_n 0, 1) := by decide +kernel
theorem d_L_law_2345 : decode y_L_law.2.1 2345 = .ok (.iload 4, 2) := by decide +kernel
theorem d_L_law_2347 : decode y_L_law.2.1 2347 = .ok (.iconst 1, 1) := by decide +kernel
theorem d_L_law_2348 : decode y_L_law.2.1 2348 = .ok (.iadd, 1) := by decide +kernel
theorem d_L_law_2349 : decode y_L_law.2.1 2349 = .ok (.iaload, 1) := by decide +kernel
theorem d_L_law_2350 : decode y_L_law.2.1 2350 = .ok (.aload_n 0, 1) := by decide +kernel
theorem d_L_law_2351 : decode y_L_law.2.1 2351 = .ok (.iload 4, 2) := by decide +kernel
theorem d_L_law_2353 : decode y_L_law.2.1 2353 = .ok (.iconst 2, 1) := by decide +kernel
theorem d_L_law_2354 : decode y_L_law.2.1 2354 = .ok (.iadd, 1) := by decide +kernel
theorem d_L_law_2355 : decode y_L_law.2.1 2355 = .ok (.iaload, 1) := by decide +kernel
theorem d_L_law_2356 : decode y_L_law.2.1 2356 = .ok (.aload_n 0, 1) := by decide +kernel
theorem d_L_law_2357 : decode y_L_law.2.1 2357 = .ok (.iload 4, 2) := by decide +kernel
theorem d_L_law_2359 : decode y_L_law.2.1 2359 = .ok (.iconst 3, 1) := by decide +kernel
theorem d_L_law_2360 : decode y_L_law.2.1 2360 = .ok (.iadd, 1) := by decide +kernel
theorem d_L_law_2361 : decode y_L_law.2.1 2361 = .ok (.iaload, 1) := by decide +kernel
theorem d_L_law_2362 : decode y_L_law.2.1 2362 = .ok (.aload_n 0, 1) := by decide +kernel
theorem d_L_law_2363 : decode y_L_law.2.1 2363 = .ok (.iload 4, 2) := by decide +kernel
theorem d_L_law_2365 : decode y_L_law.2.1 2365 = .ok (.iconst 4, 1) := by decide +kernel
theorem d_L_law_2366 : decode y_L_law.2.1 2366 = .ok (.iadd, 1) := by decide +kernel
theorem d_L_law_2367 : decode y_L_law.2.1 2367 = .ok (.iaload, 1) := by decide +kernel
theorem d_L_law_2368 : decode y_L_law.2.1 2368 = .ok (.invokevirtual 233, 3) := by decide +kernel
theorem d_L_law_2371 : decode y_L_law.2.1 2371 = .ok (.istore 6, 2) := by decide +kernel
theorem d_L_law_2373 : decode y_L_law.2.1 2373 = .ok (.aload_n 2, 1) := by decide +kernel
theorem d_L_law_2374 : decode y_L_law.2.1 2374 = .ok (.invokevirtual 156, 3) := by decide +kernel
theorem d_L_law_2377 : decode y_L_law.2.1 2377 = .ok (.iload 5, 2) := by decide +kernel
theorem d_L_law_2379 : decode y_L_law.2.1 2379 = .ok (.if_icmp .eq 5, 3) := by decide +kernel
theorem d_L_law_2382 : decode y_L_law.2.1 2382 = .ok (.iconst 0, 1) := by decide +kernel
theorem d_L_law_2383 : decode y_L_law.2.1 2383 = .ok (.ireturn, 1) := by decide +kernel
theorem d_L_law_2384 : decode y_L_law.2.1 2384 = .ok (.iload 5, 2) := by decide +kernel
theorem d_L_law_2386 : decode y_L_law.2.1 2386 = .ok (.ifCond .ne 22, 3) := by decide +kernel
theorem d_L_law_2389 : decode y_L_law.2.1 2389 = .ok (.aload_n 3, 1) := by decide +kernel
theorem d_L_law_2390 : decode y_L_law.2.1 2390 = .ok (.iconst 0, 1) := by decide +kernel
theorem d_L_law_2391 : decode y_L_law.2.1 2391 = .ok (.laload, 1) := by decide +kernel
theorem d_L_law_2392 : decode y_L_law.2.1 2392 = .ok (.iload 6, 2) := by decide +kernel
theorem d_L_law_2394 : decode y_L_law.2.1 2394 = .ok (.ifCond .eq 7, 3) := by decide +kernel
theorem d_L_law_2397 : decode y_L_law.2.1 2397 = .ok (.lconst 1, 1) := by decide +kernel
theorem d_L_law_2398 : decode y_L_law.2.1 2398 = .ok (.goto 4, 3) := by decide +kernel
theorem d_L_law_2401 : decode y_L_law.2.1 2401 = .ok (.lconst 0, 1) := by decide +kernel
theorem d_L_law_2402 : decode y_L_law.2.1 2402 = .ok (.lcmp, 1) := by decide +kernel
theorem d_L_law_2403 : decode y_L_law.2.1 2403 = .ok (.ifCond .eq 5, 3) := by decide +kernel
theorem d_L_law_2406 : decode y_L_law.2.1 2406 = .ok (.iconst 0, 1) := by decide +kernel
theorem d_L_law_2407 : decode y_L_law.2.1 2407 = .ok (.ireturn, 1) := by decide +kernel
theorem d_L_law_2408 : decode y_L_law.2.1 2408 = .ok (.goto 1461, 3) := by decide +kernel
theorem d_L_law_2411 : decode y_L_law.2.1 2411 = .ok (.aload_n 1, 1) := by decide +kernel
theorem d_L_law_2412 : decode y_L_law.2.1 2412 = .ok (.aload_n 0, 1) := by decide +kernel
theorem d_L_law_2413 : decode y_L_law.2.1 2413 = .ok (.iload 4, 2) := by decide +kernel
theorem d_L_law_2415 : decode y_L_law.2.1 2415 = .ok (.iconst 1, 1) := by decide +kernel
theorem d_L_law_2416 : decode y_L_law.2.1 2416 = .ok (.iadd, 1) := by decide +kernel
theorem d_L_law_2417 : decode y_L_law.2.1 2417 = .ok (.iaload, 1) := by decide +kernel
theorem d_L_law_2418 : decode y_L_law.2.1 2418 = .ok (.aload_n 0, 1) := by decide +kernel
theorem d_L_law_2419 : decode y_L_law.2.1 2419 = .ok (.iload 4, 2) := by decide +kernel
theorem d_L_law_2421 : decode y_L_law.2.1 2421 = .ok (.iconst 2, 1) := by decide +kernel
theorem d_L_law_2422 : decode y_L_law.2.1 2422 = .ok (.iadd, 1) := by decide +kernel
