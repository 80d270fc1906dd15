theorem dL_law_2049 : decode code 2049 = .ok (.iaload, 1) := by decide +kernel
theorem dL_law_2050 : decode code 2050 = .ok (.aload_n 0, 1) := by decide +kernel
theorem dL_law_2051 : decode code 2051 = .ok (.iload 4, 2) := by decide +kernel
theorem dL_law_2053 : decode code 2053 = .ok (.iconst 2, 1) := by decide +kernel
theorem dL_law_2054 : decode code 2054 = .ok (.iadd, 1) := by decide +kernel
theorem dL_law_2055 : decode code 2055 = .ok (.iaload, 1) := by decide +kernel
theorem dL_law_2056 : decode code 2056 = .ok (.invokevirtual 244, 3) := by decide +kernel
theorem dL_law_2059 : decode code 2059 = .ok (.istore 6, 2) := by decide +kernel
theorem dL_law_2061 : decode code 2061 = .ok (.aload_n 2, 1) := by decide +kernel
theorem dL_law_2062 : decode code 2062 = .ok (.invokevirtual 133, 3) := by decide +kernel
theorem dL_law_2065 : decode code 2065 = .ok (.iload 5, 2) := by decide +kernel
theorem dL_law_2067 : decode code 2067 = .ok (.if_icmp .eq 5, 3) := by decide +kernel
theorem dL_law_2070 : decode code 2070 = .ok (.iconst 0, 1) := by decide +kernel
theorem dL_law_2071 : decode code 2071 = .ok (.ireturn, 1) := by decide +kernel
theorem dL_law_2072 : decode code 2072 = .ok (.iload 5, 2) := by decide +kernel
theorem dL_law_2074 : decode code 2074 = .ok (.ifCond .ne 15, 3) := by decide +kernel
theorem dL_law_2077 : decode code 2077 = .ok (.aload_n 3, 1) := by decide +kernel
theorem dL_law_2078 : decode code 2078 = .ok (.iconst 0, 1) := by decide +kernel
theorem dL_law_2079 : decode code 2079 = .ok (.laload, 1) := by decide +kernel
theorem dL_law_2080 : decode code 2080 = .ok (.iload 6, 2) := by decide +kernel
theorem dL_law_2082 : decode code 2082 = .ok (.i2l, 1) := by decide +kernel
theorem dL_law_2083 : decode code 2083 = .ok (.lcmp, 1) := by decide +kernel
theorem dL_law_2084 : decode code 2084 = .ok (.ifCond .eq 5, 3) := by decide +kernel
theorem dL_law_2087 : decode code 2087 = .ok (.iconst 0, 1) := by decide +kernel
theorem dL_law_2088 : decode code 2088 = .ok (.ireturn, 1) := by decide +kernel
theorem dL_law_2089 : decode code 2089 = .ok (.goto 502, 3) := by decide +kernel
theorem dL_law_2092 : decode code 2092 = .ok (.aload_n 1, 1) := by decide +kernel
theorem dL_law_2093 : decode code 2093 = .ok (.aload_n 0, 1) := by decide +kernel
theorem dL_law_2094 : decode code 2094 = .ok (.iload 4, 2) := by decide +kernel
theorem dL_law_2096 : decode code 2096 = .ok (.iconst 1, 1) := by decide +kernel
theorem dL_law_2097 : decode code 2097 = .ok (.iadd, 1) := by decide +kernel
theorem dL_law_2098 : decode code 2098 = .ok (.iaload, 1) := by decide +kernel
theorem dL_law_2099 : decode code 2099 = .ok (.aload_n 3, 1) := by decide +kernel
theorem dL_law_2100 : decode code 2100 = .ok (.invokestatic 245, 3) := by decide +kernel
theorem dL_law_2103 : decode code 2103 = .ok (.istore 5, 2) := by decide +kernel
theorem dL_law_2105 : decode code 2105 = .ok (.aload_n 2, 1) := by decide +kernel
theorem dL_law_2106 : decode code 2106 = .ok (.aload_n 0, 1) := by decide +kernel
theorem dL_law_2107 : decode code 2107 = .ok (.iload 4, 2) := by decide +kernel
theorem dL_law_2109 : decode code 2109 = .ok (.iconst 1, 1) := by decide +kernel
theorem dL_law_2110 : decode code 2110 = .ok (.iadd, 1) := by decide +kernel
theorem dL_law_2111 : decode code 2111 = .ok (.iaload, 1) := by decide +kernel
theorem dL_law_2112 : decode code 2112 = .ok (.invokevirtual 247, 3) := by decide +kernel
theorem dL_law_2115 : decode code 2115 = .ok (.istore 6, 2) := by decide +kernel
theorem dL_law_2117 : decode code 2117 = .ok (.aload_n 2, 1) := by decide +kernel
theorem dL_law_2118 : decode code 2118 = .ok (.invokevirtual 133, 3) := by decide +kernel
theorem dL_law_2121 : decode code 2121 = .ok (.iload 5, 2) := by decide +kernel
theorem dL_law_2123 : decode code 2123 = .ok (.if_icmp .eq 5, 3) := by decide +kernel
theorem dL_law_2126 : decode code 2126 = .ok (.iconst 0, 1) := by decide +kernel
theorem dL_law_2127 : decode code 2127 = .ok (.ireturn, 1) := by decide +kernel
theorem dL_law_2128 : decode code 2128 = .ok (.iload 5, 2) := by decide +kernel
theorem dL_law_2130 : decode code 2130 = .ok (.ifCond .ne 15, 3) := by decide +kernel
theorem dL_law_2133 : decode code 2133 = .ok (.aload_n 3, 1) := by decide +kernel
theorem dL_law_2134 : decode code 2134 = .ok (.iconst 0, 1) := by decide +kernel
theorem dL_law_2135 : decode code 2135 = .ok (.laload, 1) := by decide +kernel
theorem dL_law_2136 : decode code 2136 = .ok (.iload 6, 2) := by decide +kernel
theorem dL_law_2138 : decode code 2138 = .ok (.i2l, 1) := by decide +kernel
theorem dL_law_2139 : decode code 2139 = .ok (.lcmp, 1) := by decide +kernel
theorem dL_law_2140 : decode code 2140 = .ok (.ifCond .eq 5, 3) := by decide +kernel
theorem dL_law_2143 : decode code 2143 = .ok (.iconst 0, 1) := by decide +kernel
theorem dL_law_2144 : decode code 2144 = .ok (.ireturn, 1) := by decide +kernel
theorem dL_law_2145 : decode code 2145 = .ok (.goto 446, 3) := by decide +kernel
theorem dL_law_2148 : decode code 2148 = .ok (.aload_n 1, 1) := by decide +kernel
theorem dL_law_2149 : decode code 2149 = .ok (.aload_n 0, 1) := by decide +kernel
theorem dL_law_2150 : decode code 2150 = .ok (.iload 4, 2) := by decide +kernel
theorem dL_law_2152 : decode code 2152 = .ok (.iconst 1, 1) := by decide +kernel
theorem dL_law_2153 : decode code 2153 = .ok (.iadd, 1) := by decide +kernel
theorem dL_law_2154 : decode code 2154 = .ok (.iaload, 1) := by decide +kernel
theorem dL_law_2155 : decode code 2155 = .ok (.aload_n 3, 1) := by decide +kernel
theorem dL_law_2156 : decode code 2156 = .ok (.invokestatic 248, 3) := by decide +kernel
theorem dL_law_2159 : decode code 2159 = .ok (.istore 5, 2) := by decide +kernel
theorem dL_law_2161 : decode code 2161 = .ok (.aload_n 2, 1) := by decide +kernel
theorem dL_law_2162 : decode code 2162 = .ok (.aload_n 0, 1) := by decide +kernel
theorem dL_law_2163 : decode code 2163 = .ok (.iload 4, 2) := by decide +kernel
theorem dL_law_2165 : decode code 2165 = .ok (.iconst 1, 1) := by decide +kernel
theorem dL_law_2166 : decode code 2166 = .ok (.iadd, 1) := by decide +kernel
theorem dL_law_2167 : decode code 2167 = .ok (.iaload, 1) := by decide +kernel
theorem dL_law_2168 : decode code 2168 = .ok (.invokevirtual 250, 3) := by decide +kernel
theorem dL_law_2171 : decode code 2171 = .ok (.istore 6, 2) := by decide +kernel
theorem dL_law_2173 : decode code 2173 = .ok (.aload_n 2, 1) := by decide +kernel
theorem dL_law_2174 : decode code 2174 = .ok (.invokevirtual 133, 3) := by decide +kernel
theorem dL_law_2177 : decode code 2177 = .ok (.iload 5, 2) := by decide +kernel
theorem dL_law_2179 : decode code 2179 = .ok (.if_icmp .eq 5, 3) := by decide +kernel
theorem dL_law_2182 : decode code 2182 = .ok (.iconst 0, 1) := by decide +kernel
theorem dL_law_2183 : decode code 2183 = .ok (.ireturn, 1) := by decide +kernel
theorem dL_law_2184 : decode code 2184 = .ok (.iload 5, 2) := by decide +kernel
theorem dL_law_2186 : decode code 2186 = .ok (.ifCond .ne 15, 3) := by decide +kernel
theorem dL_law_2189 : decode code 2189 = .ok (.aload_n 3, 1) := by decide +kernel
theorem dL_law_2190 : decode code 2190 = .ok (.iconst 0, 1) := by decide +kernel
theorem dL_law_2191 : decode code 2191 = .ok (.laload, 1) := by decide +kernel
theorem dL_law_2192 : decode code 2192 = .ok (.iload 6, 2) := by decide +kernel
theorem dL_law_2194 : decode code 2194 = .ok (.i2l, 1) := by decide +kernel
theorem dL_law_2195 : decode code 2195 = .ok (.lcmp, 1) := by decide +kernel
theorem dL_law_2196 : decode code 2196 = .ok (.ifCond .eq 5, 3) := by decide +kernel
theorem dL_law_2199 : decode code 2199 = .ok (.iconst 0, 1) := by decide +kernel
theorem dL_law_2200 : decode code 2200 = .ok (.ireturn, 1) := by decide +kernel
theorem dL_law_2201 : decode code 2201 = .ok (.goto 390, 3) := by decide +kernel
theorem dL_law_2204 : decode code 2204 = .ok (.aload_n 1, 1) := by decide +kernel
theorem dL_law_2205 : decode code 2205 = .ok (.aload_n 0, 1) := by decide +kernel
theorem dL_law_2206 : decode code 2206 = .ok (.iload 4, 2) := by decide +kernel
theorem dL_law_2208 : decode code 2208 = .ok (.iconst 1, 1) := by decide +kernel
theorem dL_law_2209 : decode code 2209 = .ok (.iadd, 1) := by decide +kernel
theorem dL_law_2210 : decode code 2210 = .ok (.iaload, 1) := by decide +kernel
theorem dL_law_2211 : decode code 2211 = .ok (.aload_n 0, 1) := by decide +kernel
theorem dL_law_2212 : decode code 2212 = .ok (.iload 4, 2) := by decide +kernel
theorem dL_law_2214 : decode code 2214 = .ok (.iconst 2, 1) := by decide +kernel
theorem dL_law_2215 : decode code 2215 = .ok (.iadd, 1) := by decide +kernel
theorem dL_law_2216 : decode code 2216 = .ok (.iaload, 1) := by decide +kernel
theorem dL_law_2217 : decode code 2217 = .ok (.aload_n 0, 1) := by decide +kernel
theorem dL_law_2218 : decode code 2218 = .ok (.iload 4, 2) := by decide +kernel
theorem dL_law_2220 : decode code 2220 = .ok (.iconst 3, 1) := by decide +kernel
theorem dL_law_2221 : decode code 2221 = .ok (.iadd, 1) := by decide +kernel
theorem dL_law_2222 : decode code 2222 = .ok (.iaload, 1) := by decide +kernel
theorem dL_law_2223 : decode code 2223 = .ok (.aload_n 3, 1) := by decide +kernel
theorem dL_law_2224 : decode code 2224 = .ok (.invokestatic 251, 3) := by decide +kernel
theorem dL_law_2227 : decode code 2227 = .ok (.istore 5, 2) := by decide +kernel
theorem dL_law_2229 : decode code 2229 = .ok (.aload_n 2, 1) := by decide +kernel
theorem dL_law_2230 : decode code 2230 = .ok (.aload_n 0, 1) := by decide +kernel
theorem dL_law_2231 : decode code 2231 = .ok (.iload 4, 2) := by decide +kernel
theorem dL_law_2233 : decode code 2233 = .ok (.iconst 1, 1) := by decide +kernel
theorem dL_law_2234 : decode code 2234 = .ok (.iadd, 1) := by decide +kernel
theorem dL_law_2235 : decode code 2235 = .ok (.iaload, 1) := by decide +kernel
theorem dL_law_2236 : decode code 2236 = .ok (.aload_n 0, 1) := by decide +kernel
theorem dL_law_2237 : decode code 2237 = .ok (.iload 4, 2) := by decide +kernel
theorem dL_law_2239 : decode code 2239 = .ok (.iconst 2, 1) := by decide +kernel
theorem dL_law_2240 : decode code 2240 = .ok (.iadd, 1) := by decide +kernel
theorem dL_law_2241 : decode code 2241 = .ok (.iaload, 1) := by decide +kernel
theorem dL_law_2242 : decode code 2242 = .ok (.aload_n 0, 1) := by decide +kernel
theorem dL_law_2243 : decode code 2243 = .ok (.iload 4, 2) := by decide +kernel
theorem dL_law_2245 : decode code 2245 = .ok (.iconst 3, 1) := by decide +kernel
theorem dL_law_2246 : decode code 2246 = .ok (.iadd, 1) := by decide +kernel
theorem dL_law_2247 : decode code 2247 = .ok (.iaload, 1) := by decide +kernel
theorem dL_law_2248 : decode code 2248 = .ok (.invokevirtual 253, 3) := by decide +kernel
theorem dL_law_2251 : decode code 2251 = .ok (.istore 6, 2) := by decide +kernel
theorem dL_law_2253 : decode code 2253 = .ok (.aload_n 2, 1) := by decide +kernel
theorem dL_law_2254 : decode code 2254 = .ok (.invokevirtual 133, 3) := by decide +kernel
theorem dL_law_2257 : decode code 2257 = .ok (.iload 5, 2) := by decide +kernel
theorem dL_law_2259 : decode code 2259 = .ok (.if_icmp .eq 5, 3) := by decide +kernel
theorem dL_law_2262 : decode code 2262 = .ok (.iconst 0, 1) := by decide +kernel
theorem dL_law_2263 : decode code 2263 = .ok (.ireturn, 1) := by decide +kernel
theorem dL_law_2264 : decode code 2264 = .ok (.iload 5, 2) := by decide +kernel
theorem dL_law_2266 : decode code 2266 = .ok (.ifCond .ne 15, 3) := by decide +kernel
theorem dL_law_2269 : decode code 2269 = .ok (.aload_n 3, 1) := by decide +kernel
theorem dL_law_2270 : decode code 2270 = .ok (.iconst 0, 1) := by decide +kernel
theorem dL_law_2271 : decode code 2271 = .ok (.laload, 1) := by decide +kernel
theorem dL_law_2272 : decode code 2272 = .ok (.iload 6, 2) := by decide +kernel
theorem dL_law_2274 : decode code 2274 = .ok (.i2l, 1) := by decide +kernel
theorem dL_law_2275 : decode code 2275 = .ok (.lcmp, 1) := by decide +kernel
theorem dL_law_2276 : decode code 2276 = .ok (.ifCond .eq 5, 3) := by decide +kernel
theorem dL_law_2279 : decode code 2279 = .ok (.iconst 0, 1) := by decide +kernel
theorem dL_law_2280 : decode code 2280 = .ok (.ireturn, 1) := by decide +kernel
theorem dL_law_2281 : decode code 2281 = .ok (.goto 310, 3) := by decide +kernel
theorem dL_law_2284 : decode code 2284 = .ok (.aload_n 1, 1) := by decide +kernel
theorem dL_law_2285 : decode code 2285 = .ok (.aload_n 0, 1) := by decide +kernel
theorem dL_law_2286 : decode code 2286 = .ok (.iload 4, 2) := by decide +kernel
theorem dL_law_2288 : decode code 2288 = .ok (.iconst 1, 1) := by decide +kernel
theorem dL_law_2289 : decode code 2289 = .ok (.iadd, 1) := by decide +kernel
theorem dL_law_2290 : decode code 2290 = .ok (.iaload, 1) := by decide +kernel
theorem dL_law_2291 : decode code 2291 = .ok (.aload_n 3, 1) := by decide +kernel
theorem dL_law_2292 : decode code 2292 = .ok (.invokestatic 254, 3) := by decide +kernel
theorem dL_law_2295 : decode code 2295 = .ok (.istore 5, 2) := by decide +kernel
theorem dL_law_2297 : decode code 2297 = .ok (.aload_n 2, 1) := by decide +kernel
theorem dL_law_2298 : decode code 2298 = .ok (.aload_n 0, 1) := by decide +kernel
theorem dL_law_2299 : decode code 2299 = .ok (.iload 4, 2) := by decide +kernel
theorem dL_law_2301 : decode code 2301 = .ok (.iconst 1, 1) := by decide +kernel
theorem dL_law_2302 : decode code 2302 = .ok (.iadd, 1) := by decide +kernel
theorem dL_law_2303 : decode code 2303 = .ok (.iaload, 1) := by decide +kernel
theorem dL_law_2304 : decode code 2304 = .ok (.invokevirtual 256, 3) := by decide +kernel
theorem dL_law_2307 : decode code 2307 = .ok (.istore 6, 2) := by decide +kernel
theorem dL_law_2309 : decode code 2309 = .ok (.aload_n 2, 1) := by decide +kernel
theorem dL_law_2310 : decode code 2310 = .ok (.invokevirtual 133, 3) := by decide +kernel
theorem dL_law_2313 : decode code 2313 = .ok (.iload 5, 2) := by decide +kernel
theorem dL_law_2315 : decode code 2315 = .ok (.if_icmp .eq 5, 3) := by decide +kernel
theorem dL_law_2318 : decode code 2318 = .ok (.iconst 0, 1) := by decide +kernel
theorem dL_law_2319 : decode code 2319 = .ok (.ireturn, 1) := by decide +kernel
theorem dL_law_2320 : decode code 2320 = .ok (.iload 5, 2) := by decide +kernel
theorem dL_law_2322 : decode code 2322 = .ok (.ifCond .ne 15, 3) := by decide +kernel
theorem dL_law_2325 : decode code 2325 = .ok (.aload_n 3, 1) := by decide +kernel
theorem dL_law_2326 : decode code 2326 = .ok (.iconst 0, 1) := by decide +kernel
theorem dL_law_2327 : decode code 2327 = .ok (.laload, 1) := by decide +kernel
theorem dL_law_2328 : decode code 2328 = .ok (.iload 6, 2) := by decide +kernel
theorem dL_law_2330 : decode code 2330 = .ok (.i2l, 1) := by decide +kernel
theorem dL_law_2331 : decode code 2331 = .ok (.lcmp, 1) := by decide +kernel
theorem dL_law_2332 : decode code 2332 = .ok (.ifCond .eq 5, 3) := by decide +kernel
theorem dL_law_2335 : decode code 2335 = .ok (.iconst 0, 1) := by decide +kernel
theorem dL_law_2336 : decode code 2336 = .ok (.ireturn, 1) := by decide +kernel
theorem dL_law_2337 : decode code 2337 = .ok (.goto 254, 3) := by decide +kernel
theorem dL_law_2340 : decode code 2340 = .ok (.aload_n 1, 1) := by decide +kernel
theorem dL_law_2341 : decode code 2341 = .ok (.aload_n 0, 1) := by decide +kernel
theorem dL_law_2342 : decode code 2342 = .ok (.iload 4, 2) := by decide +kernel
theorem dL_law_2344 : decode code 2344 = .ok (.iconst 1, 1) := by decide +kernel
theorem dL_law_2345 : decode code 2345 = .ok (.iadd, 1) := by decide +kernel
theorem dL_law_2346 : decode code 2346 = .ok (.iaload, 1) := by decide +kernel
theorem dL_law_2347 : decode code 2347 = .ok (.aload_n 3, 1) := by decide +kernel
theorem dL_law_2348 : decode code 2348 = .ok (.invokestatic 257, 3) := by decide +kernel
theorem dL_law_2351 : decode code 2351 = .ok (.istore 5, 2) := by decide +kernel
theorem dL_law_2353 : decode code 2353 = .ok (.aload_n 2, 1) := by decide +kernel
theorem dL_law_2354 : decode code 2354 = .ok (.aload_n 0, 1) := by decide +kernel
theorem dL_law_2355 : decode code 2355 = .ok (.iload 4, 2) := by decide +kernel
theorem dL_law_2357 : decode code 2357 = .ok (.iconst 1, 1) := by decide +kernel
theorem dL_law_2358 : decode code 2358 = .ok (.iadd, 1) := by decide +kernel
theorem dL_law_2359 : decode code 2359 = .ok (.iaload, 1) := by decide +kernel
theorem dL_law_2360 : decode code 2360 = .ok (.invokevirtual 259, 3) := by decide +kernel
theorem dL_law_2363 : decode code 2363 = .ok (.istore 6, 2) := by decide +kernel
theorem dL_law_2365 : decode code 2365 = .ok (.aload_n 2, 1) := by decide +kernel
theorem dL_law_2366 : decode code 2366 = .ok (.invokevirtual 133, 3) := by decide +kernel
theorem dL_law_2369 : decode code 2369 = .ok (.iload 5, 2) := by decide +kernel
theorem dL_law_2371 : decode code 2371 = .ok (.if_icmp .eq 5, 3) := by decide +kernel
theorem dL_law_2374 : decode code 2374 = .ok (.iconst 0, 1) := by decide +kernel
theorem dL_law_2375 : decode code 2375 = .ok (.ireturn, 1) := by decide +kernel
theorem dL_law_2376 : decode code 2376 = .ok (.iload 5, 2) := by decide +kernel
theorem dL_law_2378 : decode code 2378 = .ok (.ifCond .ne 15, 3) := by decide +kernel
theorem dL_law_2381 : decode code 2381 = .ok (.aload_n 3, 1) := by decide +kernel
theorem dL_law_2382 : decode code 2382 = .ok (.iconst 0, 1) := by decide +kernel
theorem dL_law_2383 : decode code 2383 = .ok (.laload, 1) := by decide +kernel
theorem dL_law_2384 : decode code 2384 = .ok (.iload 6, 2) := by decide +kernel
theorem dL_law_2386 : decode code 2386 = .ok (.i2l, 1) := by decide +kernel
theorem dL_law_2387 : decode code 2387 = .ok (.lcmp, 1) := by decide +kernel
theorem dL_law_2388 : decode code 2388 = .ok (.ifCond .eq 5, 3) := by decide +kernel
theorem dL_law_2391 : decode code 2391 = .ok (.iconst 0, 1) := by decide +kernel
theorem dL_law_2392 : decode code 2392 = .ok (.ireturn, 1) := by decide +kernel
theorem dL_law_2393 : decode code 2393 = .ok (.goto 198, 3) := by decide +kernel
theorem dL_law_2396 : decode code 2396 = .ok (.aload_n 1, 1) := by decide +kernel
theorem dL_law_2397 : decode code 2397 = .ok (.invokevirtual 260, 3) := by decide +kernel
theorem dL_law_2400 : decode code 2400 = .ok (.aload_n 2, 1) := by decide +kernel
theorem dL_law_2401 : decode code 2401 = .ok (.invokevirtual 263, 3) := by decide +kernel
theorem dL_law_2404 : decode code 2404 = .ok (.goto 187, 3) := by decide +kernel
theorem dL_law_2407 : decode code 2407 = .ok (.aload_n 1, 1) := by decide +kernel
theorem dL_law_2408 : decode code 2408 = .ok (.aload_n 0, 1) := by decide +kernel
theorem dL_law_2409 : decode code 2409 = .ok (.iload 4, 2) := by decide +kernel
theorem dL_law_2411 : decode code 2411 = .ok (.iconst 1, 1) := by decide +kernel
theorem dL_law_2412 : decode code 2412 = .ok (.iadd, 1) := by decide +kernel
theorem dL_law_2413 : decode code 2413 = .ok (.iaload, 1) := by decide +kernel
theorem dL_law_2414 : decode code 2414 = .ok (.aload_n 0, 1) := by decide +kernel
theorem dL_law_2415 : decode code 2415 = .ok (.iload 4, 2) := by decide +kernel
theorem dL_law_2417 : decode code 2417 = .ok (.iconst 2, 1) := by decide +kernel
theorem dL_law_2418 : decode code 2418 = .ok (.iadd, 1) := by decide +kernel
theorem dL_law_2419 : decode code 2419 = .ok (.iaload, 1) := by decide +kernel
theorem dL_law_2420 : decode code 2420 = .ok (.aload_n 0, 1) := by decide +kernel
theorem dL_law_2421 : decode code 2421 = .ok (.iload 4, 2) := by decide +kernel
theorem dL_law_2423 : decode code 2423 = .ok (.iconst 3, 1) := by decide +kernel
theorem dL_law_2424 : decode code 2424 = .ok (.iadd, 1) := by decide +kernel
theorem dL_law_2425 : decode code 2425 = .ok (.iaload, 1) := by decide +kernel
theorem dL_law_2426 : decode code 2426 = .ok (.aload_n 3, 1) := by decide +kernel
theorem dL_law_2427 : decode code 2427 = .ok (.invokestatic 264, 3) := by decide +kernel
theorem dL_law_2430 : decode code 2430 = .ok (.istore 5, 2) := by decide +kernel
theorem dL_law_2432 : decode code 2432 = .ok (.aload_n 2, 1) := by decide +kernel
theorem dL_law_2433 : decode code 2433 = .ok (.aload_n 0, 1) := by decide +kernel
theorem dL_law_2434 : decode code 2434 = .ok (.iload 4, 2) := by decide +kernel
theorem dL_law_2436 : decode code 2436 = .ok (.iconst 1, 1) := by decide +kernel
theorem dL_law_2437 : decode code 2437 = .ok (.iadd, 1) := by decide +kernel
theorem dL_law_2438 : decode code 2438 = .ok (.iaload, 1) := by decide +kernel
theorem dL_law_2439 : decode code 2439 = .ok (.aload_n 0, 1) := by decide +kernel
theorem dL_law_2440 : decode code 2440 = .ok (.iload 4, 2) := by decide +kernel
theorem dL_law_2442 : decode code 2442 = .ok (.iconst 2, 1) := by decide +kernel
theorem dL_law_2443 : decode code 2443 = .ok (.iadd, 1) := by decide +kernel
theorem dL_law_2444 : decode code 2444 = .ok (.iaload, 1) := by decide +kernel
theorem dL_law_2445 : decode code 2445 = .ok (.aload_n 0, 1) := by decide +kernel
theorem dL_law_2446 : decode code 2446 = .ok (.iload 4, 2) := by decide +kernel
theorem dL_law_2448 : decode code 2448 = .ok (.iconst 3, 1) := by decide +kernel
theorem dL_law_2449 : decode code 2449 = .ok (.iadd, 1) := by decide +kernel
theorem dL_law_2450 : decode code 2450 = .ok (.iaload, 1) := by decide +kernel
theorem dL_law_2451 : decode code 2451 = .ok (.invokevirtual 266, 3) := by decide +kernel
theorem dL_law_2454 : decode code 2454 = .ok (.istore 6, 2) := by decide +kernel
theorem dL_law_2456 : decode code 2456 = .ok (.aload_n 2, 1) := by decide +kernel
theorem dL_law_2457 : decode code 2457 = .ok (.invokevirtual 133, 3) := by decide +kernel
theorem dL_law_2460 : decode code 2460 = .ok (.iload 5, 2) := by decide +kernel
theorem dL_law_2462 : decode code 2462 = .ok (.if_icmp .eq 5, 3) := by decide +kernel
theorem dL_law_2465 : decode code 2465 = .ok (.iconst 0, 1) := by decide +kernel
theorem dL_law_2466 : decode code 2466 = .ok (.ireturn, 1) := by decide +kernel
theorem dL_law_2467 : decode code 2467 = .ok (.iload 5, 2) := by decide +kernel
theorem dL_law_2469 : decode code 2469 = .ok (.ifCond .ne 15, 3) := by decide +kernel
theorem dL_law_2472 : decode code 2472 = .ok (.aload_n 3, 1) := by decide +kernel
theorem dL_law_2473 : decode code 2473 = .ok (.iconst 0, 1) := by decide +kernel
theorem dL_law_2474 : decode code 2474 = .ok (.laload, 1) := by decide +kernel
theorem dL_law_2475 : decode code 2475 = .ok (.iload 6, 2) := by decide +kernel
theorem dL_law_2477 : decode code 2477 = .ok (.i2l, 1) := by decide +kernel
theorem dL_law_2478 : decode code 2478 = .ok (.lcmp, 1) := by decide +kernel
theorem dL_law_2479 : decode code 2479 = .ok (.ifCond .eq 5, 3) := by decide +kernel
theorem dL_law_2482 : decode code 2482 = .ok (.iconst 0, 1) := by decide +kernel
theorem dL_law_2483 : decode code 2483 = .ok (.ireturn, 1) := by decide +kernel
theorem dL_law_2484 : decode code 2484 = .ok (.goto 107, 3) := by decide +kernel
theorem dL_law_2487 : decode code 2487 = .ok (.aload_n 1, 1) := by decide +kernel
theorem dL_law_2488 : decode code 2488 = .ok (.aload_n 0, 1) := by decide +kernel
theorem dL_law_2489 : decode code 2489 = .ok (.iload 4, 2) := by decide +kernel
theorem dL_law_2491 : decode code 2491 = .ok (.iconst 1, 1) := by decide +kernel
theorem dL_law_2492 : decode code 2492 = .ok (.iadd, 1) := by decide +kernel
theorem dL_law_2493 : decode code 2493 = .ok (.iaload, 1) := by decide +kernel
theorem dL_law_2494 : decode code 2494 = .ok (.aload_n 0, 1) := by decide +kernel
theorem dL_law_2495 : decode code 2495 = .ok (.iload 4, 2) := by decide +kernel
theorem dL_law_2497 : decode code 2497 = .ok (.iconst 2, 1) := by decide +kernel
theorem dL_law_2498 : decode code 2498 = .ok (.iadd, 1) := by decide +kernel
theorem dL_law_2499 : decode code 2499 = .ok (.iaload, 1) := by decide +kernel
theorem dL_law_2500 : decode code 2500 = .ok (.aload_n 0, 1) := by decide +kernel
theorem dL_law_2501 : decode code 2501 = .ok (.iload 4, 2) := by decide +kernel
theorem dL_law_2503 : decode code 2503 = .ok (.iconst 3, 1) := by decide +kernel
theorem dL_law_2504 : decode code 2504 = .ok (.iadd, 1) := by decide +kernel
theorem dL_law_2505 : decode code 2505 = .ok (.iaload, 1) := by decide +kernel
theorem dL_law_2506 : decode code 2506 = .ok (.aload_n 3, 1) := by decide +kernel
theorem dL_law_2507 : decode code 2507 = .ok (.invokestatic 267, 3) := by decide +kernel
theorem dL_law_2510 : decode code 2510 = .ok (.istore 5, 2) := by decide +kernel
theorem dL_law_2512 : decode code 2512 = .ok (.aload_n 2, 1) := by decide +kernel
theorem dL_law_2513 : decode code 2513 = .ok (.aload_n 0, 1) := by decide +kernel
theorem dL_law_2514 : decode code 2514 = .ok (.iload 4, 2) := by decide +kernel
theorem dL_law_2516 : decode code 2516 = .ok (.iconst 1, 1) := by decide +kernel
theorem dL_law_2517 : decode code 2517 = .ok (.iadd, 1) := by decide +kernel
theorem dL_law_2518 : decode code 2518 = .ok (.iaload, 1) := by decide +kernel
theorem dL_law_2519 : decode code 2519 = .ok (.aload_n 0, 1) := by decide +kernel
theorem dL_law_2520 : decode code 2520 = .ok (.iload 4, 2) := by decide +kernel
theorem dL_law_2522 : decode code 2522 = .ok (.iconst 2, 1) := by decide +kernel
theorem dL_law_2523 : decode code 2523 = .ok (.iadd, 1) := by decide +kernel
theorem dL_law_2524 : decode code 2524 = .ok (.iaload, 1) := by decide +kernel
theorem dL_law_2525 : decode code 2525 = .ok (.aload_n 0, 1) := by decide +kernel
theorem dL_law_2526 : decode code 2526 = .ok (.iload 4, 2) := by decide +kernel
theorem dL_law_2528 : decode code 2528 = .ok (.iconst 3, 1) := by decide +kernel
theorem dL_law_2529 : decode code 2529 = .ok (.iadd, 1) := by decide +kernel
theorem dL_law_2530 : decode code 2530 = .ok (.iaload, 1) := by decide +kernel
theorem dL_law_2531 : decode code 2531 = .ok (.invokevirtual 269, 3) := by decide +kernel
theorem dL_law_2534 : decode code 2534 = .ok (.istore 6, 2) := by decide +kernel
theorem dL_law_2536 : decode code 2536 = .ok (.aload_n 2, 1) := by decide +kernel
theorem dL_law_2537 : decode code 2537 = .ok (.invokevirtual 133, 3) := by decide +kernel
theorem dL_law_2540 : decode code 2540 = .ok (.iload 5, 2) := by decide +kernel
theorem dL_law_2542 : decode code 2542 = .ok (.if_icmp .eq 5, 3) := by decide +kernel
theorem dL_law_2545 : decode code 2545 = .ok (.iconst 0, 1) := by decide +kernel
theorem dL_law_2546 : decode code 2546 = .ok (.ireturn, 1) := by decide +kernel
theorem dL_law_2547 : decode code 2547 = .ok (.iload 5, 2) := by decide +kernel
theorem dL_law_2549 : decode code 2549 = .ok (.ifCond .ne 15, 3) := by decide +kernel
theorem dL_law_2552 : decode code 2552 = .ok (.aload_n 3, 1) := by decide +kernel
theorem dL_law_2553 : decode code 2553 = .ok (.iconst 0, 1) := by decide +kernel
theorem dL_law_2554 : decode code 2554 = .ok (.laload, 1) := by decide +kernel
theorem dL_law_2555 : decode code 2555 = .ok (.iload 6, 2) := by decide +kernel
theorem dL_law_2557 : decode code 2557 = .ok (.i2l, 1) := by decide +kernel
theorem dL_law_2558 : decode code 2558 = .ok (.lcmp, 1) := by decide +kernel
theorem dL_law_2559 : decode code 2559 = .ok (.ifCond .eq 5, 3) := by decide +kernel
theorem dL_law_2562 : decode code 2562 = .ok (.iconst 0, 1) := by decide +kernel
theorem dL_law_2563 : decode code 2563 = .ok (.ireturn, 1) := by decide +kernel
theorem dL_law_2564 : decode code 2564 = .ok (.goto 27, 3) := by decide +kernel
theorem dL_law_2567 : decode code 2567 = .ok (.aload_n 1, 1) := by decide +kernel
theorem dL_law_2568 : decode code 2568 = .ok (.invokevirtual 270, 3) := by decide +kernel
theorem dL_law_2571 : decode code 2571 = .ok (.aload_n 2, 1) := by decide +kernel
theorem dL_law_2572 : decode code 2572 = .ok (.invokevirtual 273, 3) := by decide +kernel
theorem dL_law_2575 : decode code 2575 = .ok (.goto 16, 3) := by decide +kernel
theorem dL_law_2578 : decode code 2578 = .ok (.aload_n 1, 1) := by decide +kernel
theorem dL_law_2579 : decode code 2579 = .ok (.invokevirtual 274, 3) := by decide +kernel
theorem dL_law_2582 : decode code 2582 = .ok (.aload_n 2, 1) := by decide +kernel
theorem dL_law_2583 : decode code 2583 = .ok (.invokevirtual 278, 3) := by decide +kernel
theorem dL_law_2586 : decode code 2586 = .ok (.if_icmp .eq 5, 3) := by decide +kernel
theorem dL_law_2589 : decode code 2589 = .ok (.iconst 0, 1) := by decide +kernel
theorem dL_law_2590 : decode code 2590 = .ok (.ireturn, 1) := by decide +kernel
theorem dL_law_2591 : decode code 2591 = .ok (.iinc 4 6, 3) := by decide +kernel
theorem dL_law_2594 : decode code 2594 = .ok (.goto (-2571), 3) := by decide +kernel
theorem dL_law_2597 : decode code 2597 = .ok (.iconst 1, 1) := by decide +kernel
theorem dL_law_2598 : decode code 2598 = .ok (.ireturn, 1) := by decide +kernel
