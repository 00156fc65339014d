theorem dL_law_2273 : decode cL_law 2273 = .ok (.aload_n 0, 1) := by decide +kernel
theorem dL_law_2274 : decode cL_law 2274 = .ok (.iload 4, 2) := by decide +kernel
theorem dL_law_2276 : decode cL_law 2276 = .ok (.iconst 3, 1) := by decide +kernel
theorem dL_law_2277 : decode cL_law 2277 = .ok (.iadd, 1) := by decide +kernel
theorem dL_law_2278 : decode cL_law 2278 = .ok (.iaload, 1) := by decide +kernel
theorem dL_law_2279 : decode cL_law 2279 = .ok (.aload_n 3, 1) := by decide +kernel
theorem dL_law_2280 : decode cL_law 2280 = .ok (.invokestatic 221, 3) := by decide +kernel
theorem dL_law_2283 : decode cL_law 2283 = .ok (.istore 5, 2) := by decide +kernel
theorem dL_law_2285 : decode cL_law 2285 = .ok (.aload_n 2, 1) := by decide +kernel
theorem dL_law_2286 : decode cL_law 2286 = .ok (.aload_n 0, 1) := by decide +kernel
theorem dL_law_2287 : decode cL_law 2287 = .ok (.iload 4, 2) := by decide +kernel
theorem dL_law_2289 : decode cL_law 2289 = .ok (.iconst 1, 1) := by decide +kernel
theorem dL_law_2290 : decode cL_law 2290 = .ok (.iadd, 1) := by decide +kernel
theorem dL_law_2291 : decode cL_law 2291 = .ok (.iaload, 1) := by decide +kernel
theorem dL_law_2292 : decode cL_law 2292 = .ok (.aload_n 0, 1) := by decide +kernel
theorem dL_law_2293 : decode cL_law 2293 = .ok (.iload 4, 2) := by decide +kernel
theorem dL_law_2295 : decode cL_law 2295 = .ok (.iconst 2, 1) := by decide +kernel
theorem dL_law_2296 : decode cL_law 2296 = .ok (.iadd, 1) := by decide +kernel
theorem dL_law_2297 : decode cL_law 2297 = .ok (.iaload, 1) := by decide +kernel
theorem dL_law_2298 : decode cL_law 2298 = .ok (.aload_n 0, 1) := by decide +kernel
theorem dL_law_2299 : decode cL_law 2299 = .ok (.iload 4, 2) := by decide +kernel
theorem dL_law_2301 : decode cL_law 2301 = .ok (.iconst 3, 1) := by decide +kernel
theorem dL_law_2302 : decode cL_law 2302 = .ok (.iadd, 1) := by decide +kernel
theorem dL_law_2303 : decode cL_law 2303 = .ok (.iaload, 1) := by decide +kernel
theorem dL_law_2304 : decode cL_law 2304 = .ok (.invokevirtual 223, 3) := by decide +kernel
theorem dL_law_2307 : decode cL_law 2307 = .ok (.istore 6, 2) := by decide +kernel
theorem dL_law_2309 : decode cL_law 2309 = .ok (.aload_n 2, 1) := by decide +kernel
theorem dL_law_2310 : decode cL_law 2310 = .ok (.invokevirtual 130, 3) := by decide +kernel
theorem dL_law_2313 : decode cL_law 2313 = .ok (.iload 5, 2) := by decide +kernel
theorem dL_law_2315 : decode cL_law 2315 = .ok (.if_icmp .eq 5, 3) := by decide +kernel
theorem dL_law_2318 : decode cL_law 2318 = .ok (.iconst 0, 1) := by decide +kernel
theorem dL_law_2319 : decode cL_law 2319 = .ok (.ireturn, 1) := by decide +kernel
theorem dL_law_2320 : decode cL_law 2320 = .ok (.iload 5, 2) := by decide +kernel
theorem dL_law_2322 : decode cL_law 2322 = .ok (.ifCond .ne 15, 3) := by decide +kernel
theorem dL_law_2325 : decode cL_law 2325 = .ok (.aload_n 3, 1) := by decide +kernel
theorem dL_law_2326 : decode cL_law 2326 = .ok (.iconst 0, 1) := by decide +kernel
theorem dL_law_2327 : decode cL_law 2327 = .ok (.laload, 1) := by decide +kernel
theorem dL_law_2328 : decode cL_law 2328 = .ok (.iload 6, 2) := by decide +kernel
theorem dL_law_2330 : decode cL_law 2330 = .ok (.i2l, 1) := by decide +kernel
theorem dL_law_2331 : decode cL_law 2331 = .ok (.lcmp, 1) := by decide +kernel
theorem dL_law_2332 : decode cL_law 2332 = .ok (.ifCond .eq 5, 3) := by decide +kernel
theorem dL_law_2335 : decode cL_law 2335 = .ok (.iconst 0, 1) := by decide +kernel
theorem dL_law_2336 : decode cL_law 2336 = .ok (.ireturn, 1) := by decide +kernel
theorem dL_law_2337 : decode cL_law 2337 = .ok (.goto 207, 3) := by decide +kernel
theorem dL_law_2340 : decode cL_law 2340 = .ok (.aload_n 1, 1) := by decide +kernel
theorem dL_law_2341 : decode cL_law 2341 = .ok (.aload_n 0, 1) := by decide +kernel
theorem dL_law_2342 : decode cL_law 2342 = .ok (.iload 4, 2) := by decide +kernel
theorem dL_law_2344 : decode cL_law 2344 = .ok (.iconst 1, 1) := by decide +kernel
theorem dL_law_2345 : decode cL_law 2345 = .ok (.iadd, 1) := by decide +kernel
theorem dL_law_2346 : decode cL_law 2346 = .ok (.iaload, 1) := by decide +kernel
theorem dL_law_2347 : decode cL_law 2347 = .ok (.aload_n 0, 1) := by decide +kernel
theorem dL_law_2348 : decode cL_law 2348 = .ok (.iload 4, 2) := by decide +kernel
theorem dL_law_2350 : decode cL_law 2350 = .ok (.iconst 2, 1) := by decide +kernel
theorem dL_law_2351 : decode cL_law 2351 = .ok (.iadd, 1) := by decide +kernel
theorem dL_law_2352 : decode cL_law 2352 = .ok (.iaload, 1) := by decide +kernel
theorem dL_law_2353 : decode cL_law 2353 = .ok (.aload_n 3, 1) := by decide +kernel
theorem dL_law_2354 : decode cL_law 2354 = .ok (.invokestatic 224, 3) := by decide +kernel
theorem dL_law_2357 : decode cL_law 2357 = .ok (.istore 5, 2) := by decide +kernel
theorem dL_law_2359 : decode cL_law 2359 = .ok (.aload_n 2, 1) := by decide +kernel
theorem dL_law_2360 : decode cL_law 2360 = .ok (.aload_n 0, 1) := by decide +kernel
theorem dL_law_2361 : decode cL_law 2361 = .ok (.iload 4, 2) := by decide +kernel
theorem dL_law_2363 : decode cL_law 2363 = .ok (.iconst 1, 1) := by decide +kernel
theorem dL_law_2364 : decode cL_law 2364 = .ok (.iadd, 1) := by decide +kernel
theorem dL_law_2365 : decode cL_law 2365 = .ok (.iaload, 1) := by decide +kernel
theorem dL_law_2366 : decode cL_law 2366 = .ok (.aload_n 0, 1) := by decide +kernel
theorem dL_law_2367 : decode cL_law 2367 = .ok (.iload 4, 2) := by decide +kernel
theorem dL_law_2369 : decode cL_law 2369 = .ok (.iconst 2, 1) := by decide +kernel
theorem dL_law_2370 : decode cL_law 2370 = .ok (.iadd, 1) := by decide +kernel
theorem dL_law_2371 : decode cL_law 2371 = .ok (.iaload, 1) := by decide +kernel
theorem dL_law_2372 : decode cL_law 2372 = .ok (.invokevirtual 226, 3) := by decide +kernel
theorem dL_law_2375 : decode cL_law 2375 = .ok (.istore 6, 2) := by decide +kernel
theorem dL_law_2377 : decode cL_law 2377 = .ok (.aload_n 2, 1) := by decide +kernel
theorem dL_law_2378 : decode cL_law 2378 = .ok (.invokevirtual 130, 3) := by decide +kernel
theorem dL_law_2381 : decode cL_law 2381 = .ok (.iload 5, 2) := by decide +kernel
theorem dL_law_2383 : decode cL_law 2383 = .ok (.if_icmp .eq 5, 3) := by decide +kernel
theorem dL_law_2386 : decode cL_law 2386 = .ok (.iconst 0, 1) := by decide +kernel
theorem dL_law_2387 : decode cL_law 2387 = .ok (.ireturn, 1) := by decide +kernel
theorem dL_law_2388 : decode cL_law 2388 = .ok (.iload 5, 2) := by decide +kernel
theorem dL_law_2390 : decode cL_law 2390 = .ok (.ifCond .ne 15, 3) := by decide +kernel
theorem dL_law_2393 : decode cL_law 2393 = .ok (.aload_n 3, 1) := by decide +kernel
theorem dL_law_2394 : decode cL_law 2394 = .ok (.iconst 0, 1) := by decide +kernel
theorem dL_law_2395 : decode cL_law 2395 = .ok (.laload, 1) := by decide +kernel
theorem dL_law_2396 : decode cL_law 2396 = .ok (.iload 6, 2) := by decide +kernel
theorem dL_law_2398 : decode cL_law 2398 = .ok (.i2l, 1) := by decide +kernel
theorem dL_law_2399 : decode cL_law 2399 = .ok (.lcmp, 1) := by decide +kernel
theorem dL_law_2400 : decode cL_law 2400 = .ok (.ifCond .eq 5, 3) := by decide +kernel
theorem dL_law_2403 : decode cL_law 2403 = .ok (.iconst 0, 1) := by decide +kernel
theorem dL_law_2404 : decode cL_law 2404 = .ok (.ireturn, 1) := by decide +kernel
theorem dL_law_2405 : decode cL_law 2405 = .ok (.goto 139, 3) := by decide +kernel
theorem dL_law_2408 : decode cL_law 2408 = .ok (.aload_n 1, 1) := by decide +kernel
theorem dL_law_2409 : decode cL_law 2409 = .ok (.aload_n 0, 1) := by decide +kernel
theorem dL_law_2410 : decode cL_law 2410 = .ok (.iload 4, 2) := by decide +kernel
theorem dL_law_2412 : decode cL_law 2412 = .ok (.iconst 1, 1) := by decide +kernel
theorem dL_law_2413 : decode cL_law 2413 = .ok (.iadd, 1) := by decide +kernel
theorem dL_law_2414 : decode cL_law 2414 = .ok (.iaload, 1) := by decide +kernel
theorem dL_law_2415 : decode cL_law 2415 = .ok (.aload_n 0, 1) := by decide +kernel
theorem dL_law_2416 : decode cL_law 2416 = .ok (.iload 4, 2) := by decide +kernel
theorem dL_law_2418 : decode cL_law 2418 = .ok (.iconst 2, 1) := by decide +kernel
theorem dL_law_2419 : decode cL_law 2419 = .ok (.iadd, 1) := by decide +kernel
theorem dL_law_2420 : decode cL_law 2420 = .ok (.iaload, 1) := by decide +kernel
