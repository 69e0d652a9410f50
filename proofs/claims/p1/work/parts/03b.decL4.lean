theorem dL_law_2053 : decode cL_law 2053 = .ok (.aload_n 0, 1) := by decide +kernel
theorem dL_law_2054 : decode cL_law 2054 = .ok (.iload 5, 2) := by decide +kernel
theorem dL_law_2056 : decode cL_law 2056 = .ok (.iconst 2, 1) := by decide +kernel
theorem dL_law_2057 : decode cL_law 2057 = .ok (.iadd, 1) := by decide +kernel
theorem dL_law_2058 : decode cL_law 2058 = .ok (.iaload, 1) := by decide +kernel
theorem dL_law_2059 : decode cL_law 2059 = .ok (.invokevirtual 261, 3) := by decide +kernel
theorem dL_law_2062 : decode cL_law 2062 = .ok (.istore 7, 2) := by decide +kernel
theorem dL_law_2064 : decode cL_law 2064 = .ok (.aload_n 2, 1) := by decide +kernel
theorem dL_law_2065 : decode cL_law 2065 = .ok (.invokevirtual 157, 3) := by decide +kernel
theorem dL_law_2068 : decode cL_law 2068 = .ok (.iload 6, 2) := by decide +kernel
theorem dL_law_2070 : decode cL_law 2070 = .ok (.if_icmp .eq 5, 3) := by decide +kernel
theorem dL_law_2075 : decode cL_law 2075 = .ok (.iload 6, 2) := by decide +kernel
theorem dL_law_2077 : decode cL_law 2077 = .ok (.ifCond .ne 15, 3) := by decide +kernel
theorem dL_law_2092 : decode cL_law 2092 = .ok (.goto 646, 3) := by decide +kernel
theorem dL_law_2095 : decode cL_law 2095 = .ok (.aload_n 1, 1) := by decide +kernel
theorem dL_law_2096 : decode cL_law 2096 = .ok (.aload_n 3, 1) := by decide +kernel
theorem dL_law_2097 : decode cL_law 2097 = .ok (.invokestatic 262, 3) := by decide +kernel
theorem dL_law_2100 : decode cL_law 2100 = .ok (.istore 6, 2) := by decide +kernel
theorem dL_law_2102 : decode cL_law 2102 = .ok (.aload_n 2, 1) := by decide +kernel
theorem dL_law_2103 : decode cL_law 2103 = .ok (.invokevirtual 264, 3) := by decide +kernel
theorem dL_law_2106 : decode cL_law 2106 = .ok (.istore 7, 2) := by decide +kernel
theorem dL_law_2108 : decode cL_law 2108 = .ok (.aload_n 2, 1) := by decide +kernel
theorem dL_law_2109 : decode cL_law 2109 = .ok (.invokevirtual 157, 3) := by decide +kernel
theorem dL_law_2112 : decode cL_law 2112 = .ok (.iload 6, 2) := by decide +kernel
theorem dL_law_2114 : decode cL_law 2114 = .ok (.if_icmp .eq 5, 3) := by decide +kernel
theorem dL_law_2119 : decode cL_law 2119 = .ok (.iload 6, 2) := by decide +kernel
theorem dL_law_2121 : decode cL_law 2121 = .ok (.ifCond .ne 15, 3) := by decide +kernel
theorem dL_law_2136 : decode cL_law 2136 = .ok (.goto 602, 3) := by decide +kernel
theorem dL_law_2139 : decode cL_law 2139 = .ok (.aload_n 1, 1) := by decide +kernel
theorem dL_law_2140 : decode cL_law 2140 = .ok (.aload_n 3, 1) := by decide +kernel
theorem dL_law_2141 : decode cL_law 2141 = .ok (.invokestatic 265, 3) := by decide +kernel
theorem dL_law_2144 : decode cL_law 2144 = .ok (.istore 6, 2) := by decide +kernel
theorem dL_law_2146 : decode cL_law 2146 = .ok (.aload_n 2, 1) := by decide +kernel
theorem dL_law_2147 : decode cL_law 2147 = .ok (.invokevirtual 267, 3) := by decide +kernel
theorem dL_law_2150 : decode cL_law 2150 = .ok (.istore 7, 2) := by decide +kernel
theorem dL_law_2152 : decode cL_law 2152 = .ok (.aload_n 2, 1) := by decide +kernel
theorem dL_law_2153 : decode cL_law 2153 = .ok (.invokevirtual 157, 3) := by decide +kernel
theorem dL_law_2156 : decode cL_law 2156 = .ok (.iload 6, 2) := by decide +kernel
theorem dL_law_2158 : decode cL_law 2158 = .ok (.if_icmp .eq 5, 3) := by decide +kernel
theorem dL_law_2163 : decode cL_law 2163 = .ok (.iload 6, 2) := by decide +kernel
theorem dL_law_2165 : decode cL_law 2165 = .ok (.ifCond .ne 15, 3) := by decide +kernel
theorem dL_law_2180 : decode cL_law 2180 = .ok (.goto 558, 3) := by decide +kernel
theorem dL_law_2183 : decode cL_law 2183 = .ok (.aload_n 1, 1) := by decide +kernel
theorem dL_law_2184 : decode cL_law 2184 = .ok (.aload_n 0, 1) := by decide +kernel
theorem dL_law_2185 : decode cL_law 2185 = .ok (.iload 5, 2) := by decide +kernel
theorem dL_law_2187 : decode cL_law 2187 = .ok (.iconst 1, 1) := by decide +kernel
theorem dL_law_2188 : decode cL_law 2188 = .ok (.iadd, 1) := by decide +kernel
theorem dL_law_2189 : decode cL_law 2189 = .ok (.iaload, 1) := by decide +kernel
theorem dL_law_2190 : decode cL_law 2190 = .ok (.aload_n 0, 1) := by decide +kernel
theorem dL_law_2191 : decode cL_law 2191 = .ok (.iload 5, 2) := by decide +kernel
theorem dL_law_2193 : decode cL_law 2193 = .ok (.iconst 2, 1) := by decide +kernel
theorem dL_law_2194 : decode cL_law 2194 = .ok (.iadd, 1) := by decide +kernel
theorem dL_law_2195 : decode cL_law 2195 = .ok (.iaload, 1) := by decide +kernel
theorem dL_law_2196 : decode cL_law 2196 = .ok (.aload_n 3, 1) := by decide +kernel
theorem dL_law_2197 : decode cL_law 2197 = .ok (.invokestatic 268, 3) := by decide +kernel
theorem dL_law_2200 : decode cL_law 2200 = .ok (.istore 6, 2) := by decide +kernel
theorem dL_law_2202 : decode cL_law 2202 = .ok (.aload_n 2, 1) := by decide +kernel
theorem dL_law_2203 : decode cL_law 2203 = .ok (.aload_n 0, 1) := by decide +kernel
theorem dL_law_2204 : decode cL_law 2204 = .ok (.iload 5, 2) := by decide +kernel
theorem dL_law_2206 : decode cL_law 2206 = .ok (.iconst 1, 1) := by decide +kernel
theorem dL_law_2207 : decode cL_law 2207 = .ok (.iadd, 1) := by decide +kernel
theorem dL_law_2208 : decode cL_law 2208 = .ok (.iaload, 1) := by decide +kernel
theorem dL_law_2209 : decode cL_law 2209 = .ok (.aload_n 0, 1) := by decide +kernel
theorem dL_law_2210 : decode cL_law 2210 = .ok (.iload 5, 2) := by decide +kernel
theorem dL_law_2212 : decode cL_law 2212 = .ok (.iconst 2, 1) := by decide +kernel
theorem dL_law_2213 : decode cL_law 2213 = .ok (.iadd, 1) := by decide +kernel
theorem dL_law_2214 : decode cL_law 2214 = .ok (.iaload, 1) := by decide +kernel
theorem dL_law_2215 : decode cL_law 2215 = .ok (.invokevirtual 270, 3) := by decide +kernel
theorem dL_law_2218 : decode cL_law 2218 = .ok (.istore 7, 2) := by decide +kernel
theorem dL_law_2220 : decode cL_law 2220 = .ok (.aload_n 2, 1) := by decide +kernel
theorem dL_law_2221 : decode cL_law 2221 = .ok (.invokevirtual 157, 3) := by decide +kernel
theorem dL_law_2224 : decode cL_law 2224 = .ok (.iload 6, 2) := by decide +kernel
theorem dL_law_2226 : decode cL_law 2226 = .ok (.if_icmp .eq 5, 3) := by decide +kernel
theorem dL_law_2231 : decode cL_law 2231 = .ok (.iload 6, 2) := by decide +kernel
theorem dL_law_2233 : decode cL_law 2233 = .ok (.ifCond .ne 15, 3) := by decide +kernel
theorem dL_law_2248 : decode cL_law 2248 = .ok (.goto 490, 3) := by decide +kernel
theorem dL_law_2251 : decode cL_law 2251 = .ok (.aload_n 1, 1) := by decide +kernel
theorem dL_law_2252 : decode cL_law 2252 = .ok (.aload_n 0, 1) := by decide +kernel
theorem dL_law_2253 : decode cL_law 2253 = .ok (.iload 5, 2) := by decide +kernel
theorem dL_law_2255 : decode cL_law 2255 = .ok (.iconst 1, 1) := by decide +kernel
theorem dL_law_2256 : decode cL_law 2256 = .ok (.iadd, 1) := by decide +kernel
theorem dL_law_2257 : decode cL_law 2257 = .ok (.iaload, 1) := by decide +kernel
theorem dL_law_2258 : decode cL_law 2258 = .ok (.aload_n 0, 1) := by decide +kernel
theorem dL_law_2259 : decode cL_law 2259 = .ok (.iload 5, 2) := by decide +kernel
theorem dL_law_2261 : decode cL_law 2261 = .ok (.iconst 2, 1) := by decide +kernel
theorem dL_law_2262 : decode cL_law 2262 = .ok (.iadd, 1) := by decide +kernel
theorem dL_law_2263 : decode cL_law 2263 = .ok (.iaload, 1) := by decide +kernel
theorem dL_law_2264 : decode cL_law 2264 = .ok (.aload 4, 2) := by decide +kernel
theorem dL_law_2266 : decode cL_law 2266 = .ok (.invokestatic 271, 3) := by decide +kernel
theorem dL_law_2269 : decode cL_law 2269 = .ok (.istore 6, 2) := by decide +kernel
theorem dL_law_2271 : decode cL_law 2271 = .ok (.aload_n 2, 1) := by decide +kernel
theorem dL_law_2272 : decode cL_law 2272 = .ok (.aload_n 0, 1) := by decide +kernel
theorem dL_law_2273 : decode cL_law 2273 = .ok (.iload 5, 2) := by decide +kernel
theorem dL_law_2275 : decode cL_law 2275 = .ok (.iconst 1, 1) := by decide +kernel
theorem dL_law_2276 : decode cL_law 2276 = .ok (.iadd, 1) := by decide +kernel
theorem dL_law_2277 : decode cL_law 2277 = .ok (.iaload, 1) := by decide +kernel
theorem dL_law_2278 : decode cL_law 2278 = .ok (.aload_n 0, 1) := by decide +kernel
theorem dL_law_2279 : decode cL_law 2279 = .ok (.iload 5, 2) := by decide +kernel
theorem dL_law_2281 : decode cL_law 2281 = .ok (.iconst 2, 1) := by decide +kernel
theorem dL_law_2282 : decode cL_law 2282 = .ok (.iadd, 1) := by decide +kernel
theorem dL_law_2283 : decode cL_law 2283 = .ok (.iaload, 1) := by decide +kernel
theorem dL_law_2284 : decode cL_law 2284 = .ok (.invokevirtual 274, 3) := by decide +kernel
theorem dL_law_2287 : decode cL_law 2287 = .ok (.fstore 7, 2) := by decide +kernel
theorem dL_law_2289 : decode cL_law 2289 = .ok (.aload_n 2, 1) := by decide +kernel
theorem dL_law_2290 : decode cL_law 2290 = .ok (.invokevirtual 157, 3) := by decide +kernel
theorem dL_law_2293 : decode cL_law 2293 = .ok (.iload 6, 2) := by decide +kernel
theorem dL_law_2295 : decode cL_law 2295 = .ok (.if_icmp .eq 5, 3) := by decide +kernel
theorem dL_law_2300 : decode cL_law 2300 = .ok (.iload 6, 2) := by decide +kernel
theorem dL_law_2302 : decode cL_law 2302 = .ok (.ifCond .ne 36, 3) := by decide +kernel
theorem dL_law_2338 : decode cL_law 2338 = .ok (.goto 400, 3) := by decide +kernel
theorem dL_law_2341 : decode cL_law 2341 = .ok (.aload_n 1, 1) := by decide +kernel
theorem dL_law_2342 : decode cL_law 2342 = .ok (.aload_n 0, 1) := by decide +kernel
theorem dL_law_2343 : decode cL_law 2343 = .ok (.iload 5, 2) := by decide +kernel
theorem dL_law_2345 : decode cL_law 2345 = .ok (.iconst 1, 1) := by decide +kernel
theorem dL_law_2346 : decode cL_law 2346 = .ok (.iadd, 1) := by decide +kernel
theorem dL_law_2347 : decode cL_law 2347 = .ok (.iaload, 1) := by decide +kernel
theorem dL_law_2348 : decode cL_law 2348 = .ok (.aload_n 0, 1) := by decide +kernel
theorem dL_law_2349 : decode cL_law 2349 = .ok (.iload 5, 2) := by decide +kernel
theorem dL_law_2351 : decode cL_law 2351 = .ok (.iconst 2, 1) := by decide +kernel
theorem dL_law_2352 : decode cL_law 2352 = .ok (.iadd, 1) := by decide +kernel
theorem dL_law_2353 : decode cL_law 2353 = .ok (.iaload, 1) := by decide +kernel
theorem dL_law_2354 : decode cL_law 2354 = .ok (.aload_n 3, 1) := by decide +kernel
theorem dL_law_2355 : decode cL_law 2355 = .ok (.invokestatic 275, 3) := by decide +kernel
theorem dL_law_2358 : decode cL_law 2358 = .ok (.istore 6, 2) := by decide +kernel
theorem dL_law_2360 : decode cL_law 2360 = .ok (.aload_n 2, 1) := by decide +kernel
theorem dL_law_2361 : decode cL_law 2361 = .ok (.aload_n 0, 1) := by decide +kernel
theorem dL_law_2362 : decode cL_law 2362 = .ok (.iload 5, 2) := by decide +kernel
theorem dL_law_2364 : decode cL_law 2364 = .ok (.iconst 1, 1) := by decide +kernel
theorem dL_law_2365 : decode cL_law 2365 = .ok (.iadd, 1) := by decide +kernel
theorem dL_law_2366 : decode cL_law 2366 = .ok (.iaload, 1) := by decide +kernel
theorem dL_law_2367 : decode cL_law 2367 = .ok (.aload_n 0, 1) := by decide +kernel
theorem dL_law_2368 : decode cL_law 2368 = .ok (.iload 5, 2) := by decide +kernel
theorem dL_law_2370 : decode cL_law 2370 = .ok (.iconst 2, 1) := by decide +kernel
theorem dL_law_2371 : decode cL_law 2371 = .ok (.iadd, 1) := by decide +kernel
theorem dL_law_2372 : decode cL_law 2372 = .ok (.iaload, 1) := by decide +kernel
theorem dL_law_2373 : decode cL_law 2373 = .ok (.invokevirtual 277, 3) := by decide +kernel
theorem dL_law_2376 : decode cL_law 2376 = .ok (.istore 7, 2) := by decide +kernel
theorem dL_law_2378 : decode cL_law 2378 = .ok (.aload_n 2, 1) := by decide +kernel
theorem dL_law_2379 : decode cL_law 2379 = .ok (.invokevirtual 157, 3) := by decide +kernel
theorem dL_law_2382 : decode cL_law 2382 = .ok (.iload 6, 2) := by decide +kernel
theorem dL_law_2384 : decode cL_law 2384 = .ok (.if_icmp .eq 5, 3) := by decide +kernel
theorem dL_law_2389 : decode cL_law 2389 = .ok (.iload 6, 2) := by decide +kernel
theorem dL_law_2391 : decode cL_law 2391 = .ok (.ifCond .ne 15, 3) := by decide +kernel
theorem dL_law_2406 : decode cL_law 2406 = .ok (.goto 332, 3) := by decide +kernel
theorem dL_law_2409 : decode cL_law 2409 = .ok (.aload_n 1, 1) := by decide +kernel
theorem dL_law_2410 : decode cL_law 2410 = .ok (.aload_n 0, 1) := by decide +kernel
theorem dL_law_2411 : decode cL_law 2411 = .ok (.iload 5, 2) := by decide +kernel
theorem dL_law_2413 : decode cL_law 2413 = .ok (.iconst 1, 1) := by decide +kernel
theorem dL_law_2414 : decode cL_law 2414 = .ok (.iadd, 1) := by decide +kernel
theorem dL_law_2415 : decode cL_law 2415 = .ok (.iaload, 1) := by decide +kernel
theorem dL_law_2416 : decode cL_law 2416 = .ok (.aload_n 0, 1) := by decide +kernel
theorem dL_law_2417 : decode cL_law 2417 = .ok (.iload 5, 2) := by decide +kernel
theorem dL_law_2419 : decode cL_law 2419 = .ok (.iconst 2, 1) := by decide +kernel
theorem dL_law_2420 : decode cL_law 2420 = .ok (.iadd, 1) := by decide +kernel
theorem dL_law_2421 : decode cL_law 2421 = .ok (.iaload, 1) := by decide +kernel
theorem dL_law_2422 : decode cL_law 2422 = .ok (.aload_n 3, 1) := by decide +kernel
theorem dL_law_2423 : decode cL_law 2423 = .ok (.invokestatic 278, 3) := by decide +kernel
theorem dL_law_2426 : decode cL_law 2426 = .ok (.istore 6, 2) := by decide +kernel
theorem dL_law_2428 : decode cL_law 2428 = .ok (.aload_n 2, 1) := by decide +kernel
theorem dL_law_2429 : decode cL_law 2429 = .ok (.aload_n 0, 1) := by decide +kernel
theorem dL_law_2430 : decode cL_law 2430 = .ok (.iload 5, 2) := by decide +kernel
theorem dL_law_2432 : decode cL_law 2432 = .ok (.iconst 1, 1) := by decide +kernel
theorem dL_law_2433 : decode cL_law 2433 = .ok (.iadd, 1) := by decide +kernel
theorem dL_law_2434 : decode cL_law 2434 = .ok (.iaload, 1) := by decide +kernel
theorem dL_law_2435 : decode cL_law 2435 = .ok (.aload_n 0, 1) := by decide +kernel
theorem dL_law_2436 : decode cL_law 2436 = .ok (.iload 5, 2) := by decide +kernel
theorem dL_law_2438 : decode cL_law 2438 = .ok (.iconst 2, 1) := by decide +kernel
theorem dL_law_2439 : decode cL_law 2439 = .ok (.iadd, 1) := by decide +kernel
theorem dL_law_2440 : decode cL_law 2440 = .ok (.iaload, 1) := by decide +kernel
theorem dL_law_2441 : decode cL_law 2441 = .ok (.invokevirtual 280, 3) := by decide +kernel
theorem dL_law_2444 : decode cL_law 2444 = .ok (.istore 7, 2) := by decide +kernel
theorem dL_law_2446 : decode cL_law 2446 = .ok (.aload_n 2, 1) := by decide +kernel
theorem dL_law_2447 : decode cL_law 2447 = .ok (.invokevirtual 157, 3) := by decide +kernel
theorem dL_law_2450 : decode cL_law 2450 = .ok (.iload 6, 2) := by decide +kernel
theorem dL_law_2452 : decode cL_law 2452 = .ok (.if_icmp .eq 5, 3) := by decide +kernel
theorem dL_law_2457 : decode cL_law 2457 = .ok (.iload 6, 2) := by decide +kernel
theorem dL_law_2459 : decode cL_law 2459 = .ok (.ifCond .ne 15, 3) := by decide +kernel
theorem dL_law_2474 : decode cL_law 2474 = .ok (.goto 264, 3) := by decide +kernel
theorem dL_law_2477 : decode cL_law 2477 = .ok (.aload_n 1, 1) := by decide +kernel
theorem dL_law_2478 : decode cL_law 2478 = .ok (.aload_n 0, 1) := by decide +kernel
theorem dL_law_2479 : decode cL_law 2479 = .ok (.iload 5, 2) := by decide +kernel
theorem dL_law_2481 : decode cL_law 2481 = .ok (.iconst 1, 1) := by decide +kernel
theorem dL_law_2482 : decode cL_law 2482 = .ok (.iadd, 1) := by decide +kernel
theorem dL_law_2483 : decode cL_law 2483 = .ok (.iaload, 1) := by decide +kernel
theorem dL_law_2484 : decode cL_law 2484 = .ok (.aload_n 3, 1) := by decide +kernel
theorem dL_law_2485 : decode cL_law 2485 = .ok (.invokestatic 281, 3) := by decide +kernel
theorem dL_law_2488 : decode cL_law 2488 = .ok (.istore 6, 2) := by decide +kernel
theorem dL_law_2490 : decode cL_law 2490 = .ok (.aload_n 2, 1) := by decide +kernel
theorem dL_law_2491 : decode cL_law 2491 = .ok (.aload_n 0, 1) := by decide +kernel
theorem dL_law_2492 : decode cL_law 2492 = .ok (.iload 5, 2) := by decide +kernel
theorem dL_law_2494 : decode cL_law 2494 = .ok (.iconst 1, 1) := by decide +kernel
theorem dL_law_2495 : decode cL_law 2495 = .ok (.iadd, 1) := by decide +kernel
theorem dL_law_2496 : decode cL_law 2496 = .ok (.iaload, 1) := by decide +kernel
theorem dL_law_2497 : decode cL_law 2497 = .ok (.invokevirtual 283, 3) := by decide +kernel
theorem dL_law_2500 : decode cL_law 2500 = .ok (.istore 7, 2) := by decide +kernel
theorem dL_law_2502 : decode cL_law 2502 = .ok (.aload_n 2, 1) := by decide +kernel
theorem dL_law_2503 : decode cL_law 2503 = .ok (.invokevirtual 157, 3) := by decide +kernel
theorem dL_law_2506 : decode cL_law 2506 = .ok (.iload 6, 2) := by decide +kernel
theorem dL_law_2508 : decode cL_law 2508 = .ok (.if_icmp .eq 5, 3) := by decide +kernel
theorem dL_law_2513 : decode cL_law 2513 = .ok (.iload 6, 2) := by decide +kernel
theorem dL_law_2515 : decode cL_law 2515 = .ok (.ifCond .ne 15, 3) := by decide +kernel
theorem dL_law_2530 : decode cL_law 2530 = .ok (.goto 208, 3) := by decide +kernel
theorem dL_law_2533 : decode cL_law 2533 = .ok (.aload_n 1, 1) := by decide +kernel
theorem dL_law_2534 : decode cL_law 2534 = .ok (.aload_n 0, 1) := by decide +kernel
theorem dL_law_2535 : decode cL_law 2535 = .ok (.iload 5, 2) := by decide +kernel
theorem dL_law_2537 : decode cL_law 2537 = .ok (.iconst 1, 1) := by decide +kernel
theorem dL_law_2538 : decode cL_law 2538 = .ok (.iadd, 1) := by decide +kernel
theorem dL_law_2539 : decode cL_law 2539 = .ok (.iaload, 1) := by decide +kernel
theorem dL_law_2540 : decode cL_law 2540 = .ok (.aload_n 0, 1) := by decide +kernel
theorem dL_law_2541 : decode cL_law 2541 = .ok (.iload 5, 2) := by decide +kernel
theorem dL_law_2543 : decode cL_law 2543 = .ok (.iconst 2, 1) := by decide +kernel
theorem dL_law_2544 : decode cL_law 2544 = .ok (.iadd, 1) := by decide +kernel
theorem dL_law_2545 : decode cL_law 2545 = .ok (.iaload, 1) := by decide +kernel
theorem dL_law_2546 : decode cL_law 2546 = .ok (.aload_n 3, 1) := by decide +kernel
theorem dL_law_2547 : decode cL_law 2547 = .ok (.invokestatic 284, 3) := by decide +kernel
theorem dL_law_2550 : decode cL_law 2550 = .ok (.istore 6, 2) := by decide +kernel
theorem dL_law_2552 : decode cL_law 2552 = .ok (.aload_n 2, 1) := by decide +kernel
theorem dL_law_2553 : decode cL_law 2553 = .ok (.aload_n 0, 1) := by decide +kernel
theorem dL_law_2554 : decode cL_law 2554 = .ok (.iload 5, 2) := by decide +kernel
theorem dL_law_2556 : decode cL_law 2556 = .ok (.iconst 1, 1) := by decide +kernel
theorem dL_law_2557 : decode cL_law 2557 = .ok (.iadd, 1) := by decide +kernel
theorem dL_law_2558 : decode cL_law 2558 = .ok (.iaload, 1) := by decide +kernel
theorem dL_law_2559 : decode cL_law 2559 = .ok (.aload_n 0, 1) := by decide +kernel
theorem dL_law_2560 : decode cL_law 2560 = .ok (.iload 5, 2) := by decide +kernel
theorem dL_law_2562 : decode cL_law 2562 = .ok (.iconst 2, 1) := by decide +kernel
theorem dL_law_2563 : decode cL_law 2563 = .ok (.iadd, 1) := by decide +kernel
theorem dL_law_2564 : decode cL_law 2564 = .ok (.iaload, 1) := by decide +kernel
theorem dL_law_2565 : decode cL_law 2565 = .ok (.invokevirtual 286, 3) := by decide +kernel
theorem dL_law_2568 : decode cL_law 2568 = .ok (.istore 7, 2) := by decide +kernel
theorem dL_law_2570 : decode cL_law 2570 = .ok (.aload_n 2, 1) := by decide +kernel
theorem dL_law_2571 : decode cL_law 2571 = .ok (.invokevirtual 157, 3) := by decide +kernel
theorem dL_law_2574 : decode cL_law 2574 = .ok (.iload 6, 2) := by decide +kernel
theorem dL_law_2576 : decode cL_law 2576 = .ok (.if_icmp .eq 5, 3) := by decide +kernel
theorem dL_law_2581 : decode cL_law 2581 = .ok (.iload 6, 2) := by decide +kernel
theorem dL_law_2583 : decode cL_law 2583 = .ok (.ifCond .ne 15, 3) := by decide +kernel
theorem dL_law_2598 : decode cL_law 2598 = .ok (.goto 140, 3) := by decide +kernel
theorem dL_law_2601 : decode cL_law 2601 = .ok (.aload_n 1, 1) := by decide +kernel
theorem dL_law_2602 : decode cL_law 2602 = .ok (.aload_n 0, 1) := by decide +kernel
theorem dL_law_2603 : decode cL_law 2603 = .ok (.iload 5, 2) := by decide +kernel
theorem dL_law_2605 : decode cL_law 2605 = .ok (.iconst 1, 1) := by decide +kernel
theorem dL_law_2606 : decode cL_law 2606 = .ok (.iadd, 1) := by decide +kernel
theorem dL_law_2607 : decode cL_law 2607 = .ok (.iaload, 1) := by decide +kernel
theorem dL_law_2608 : decode cL_law 2608 = .ok (.i2c, 1) := by decide +kernel
theorem dL_law_2609 : decode cL_law 2609 = .ok (.aload_n 3, 1) := by decide +kernel
theorem dL_law_2610 : decode cL_law 2610 = .ok (.invokestatic 287, 3) := by decide +kernel
theorem dL_law_2613 : decode cL_law 2613 = .ok (.istore 6, 2) := by decide +kernel
theorem dL_law_2615 : decode cL_law 2615 = .ok (.aload_n 2, 1) := by decide +kernel
theorem dL_law_2616 : decode cL_law 2616 = .ok (.aload_n 0, 1) := by decide +kernel
theorem dL_law_2617 : decode cL_law 2617 = .ok (.iload 5, 2) := by decide +kernel
theorem dL_law_2619 : decode cL_law 2619 = .ok (.iconst 1, 1) := by decide +kernel
theorem dL_law_2620 : decode cL_law 2620 = .ok (.iadd, 1) := by decide +kernel
theorem dL_law_2621 : decode cL_law 2621 = .ok (.iaload, 1) := by decide +kernel
theorem dL_law_2622 : decode cL_law 2622 = .ok (.i2c, 1) := by decide +kernel
theorem dL_law_2623 : decode cL_law 2623 = .ok (.invokevirtual 290, 3) := by decide +kernel
theorem dL_law_2626 : decode cL_law 2626 = .ok (.istore 7, 2) := by decide +kernel
theorem dL_law_2628 : decode cL_law 2628 = .ok (.aload_n 2, 1) := by decide +kernel
theorem dL_law_2629 : decode cL_law 2629 = .ok (.invokevirtual 157, 3) := by decide +kernel
theorem dL_law_2632 : decode cL_law 2632 = .ok (.iload 6, 2) := by decide +kernel
theorem dL_law_2634 : decode cL_law 2634 = .ok (.if_icmp .eq 5, 3) := by decide +kernel
theorem dL_law_2639 : decode cL_law 2639 = .ok (.iload 6, 2) := by decide +kernel
theorem dL_law_2641 : decode cL_law 2641 = .ok (.ifCond .ne 15, 3) := by decide +kernel
theorem dL_law_2644 : decode cL_law 2644 = .ok (.aload_n 3, 1) := by decide +kernel
theorem dL_law_2645 : decode cL_law 2645 = .ok (.iconst 0, 1) := by decide +kernel
theorem dL_law_2646 : decode cL_law 2646 = .ok (.laload, 1) := by decide +kernel
theorem dL_law_2647 : decode cL_law 2647 = .ok (.iload 7, 2) := by decide +kernel
theorem dL_law_2649 : decode cL_law 2649 = .ok (.i2l, 1) := by decide +kernel
theorem dL_law_2650 : decode cL_law 2650 = .ok (.lcmp, 1) := by decide +kernel
theorem dL_law_2651 : decode cL_law 2651 = .ok (.ifCond .eq 5, 3) := by decide +kernel
theorem dL_law_2656 : decode cL_law 2656 = .ok (.goto 82, 3) := by decide +kernel
theorem dL_law_2659 : decode cL_law 2659 = .ok (.aload_n 1, 1) := by decide +kernel
theorem dL_law_2660 : decode cL_law 2660 = .ok (.invokevirtual 291, 3) := by decide +kernel
theorem dL_law_2663 : decode cL_law 2663 = .ok (.aload_n 2, 1) := by decide +kernel
theorem dL_law_2664 : decode cL_law 2664 = .ok (.invokevirtual 295, 3) := by decide +kernel
theorem dL_law_2667 : decode cL_law 2667 = .ok (.lcmp, 1) := by decide +kernel
theorem dL_law_2668 : decode cL_law 2668 = .ok (.ifCond .eq 70, 3) := by decide +kernel
theorem dL_law_2673 : decode cL_law 2673 = .ok (.aload_n 1, 1) := by decide +kernel
theorem dL_law_2674 : decode cL_law 2674 = .ok (.aload 4, 2) := by decide +kernel
theorem dL_law_2676 : decode cL_law 2676 = .ok (.invokestatic 296, 3) := by decide +kernel
theorem dL_law_2679 : decode cL_law 2679 = .ok (.istore 6, 2) := by decide +kernel
theorem dL_law_2681 : decode cL_law 2681 = .ok (.aload_n 2, 1) := by decide +kernel
theorem dL_law_2682 : decode cL_law 2682 = .ok (.invokevirtual 299, 3) := by decide +kernel
theorem dL_law_2685 : decode cL_law 2685 = .ok (.dstore 7, 2) := by decide +kernel
theorem dL_law_2687 : decode cL_law 2687 = .ok (.aload_n 2, 1) := by decide +kernel
theorem dL_law_2688 : decode cL_law 2688 = .ok (.invokevirtual 157, 3) := by decide +kernel
theorem dL_law_2691 : decode cL_law 2691 = .ok (.iload 6, 2) := by decide +kernel
theorem dL_law_2693 : decode cL_law 2693 = .ok (.if_icmp .eq 5, 3) := by decide +kernel
theorem dL_law_2698 : decode cL_law 2698 = .ok (.iload 6, 2) := by decide +kernel
theorem dL_law_2700 : decode cL_law 2700 = .ok (.ifCond .ne 35, 3) := by decide +kernel
theorem dL_law_2735 : decode cL_law 2735 = .ok (.goto 3, 3) := by decide +kernel
theorem dL_law_2738 : decode cL_law 2738 = .ok (.iinc 5 6, 3) := by decide +kernel
theorem dL_law_2741 : decode cL_law 2741 = .ok (.goto (-2713), 3) := by decide +kernel
theorem dL_law_2744 : decode cL_law 2744 = .ok (.iconst 1, 1) := by decide +kernel
theorem dL_law_2745 : decode cL_law 2745 = .ok (.ireturn, 1) := by decide +kernel
