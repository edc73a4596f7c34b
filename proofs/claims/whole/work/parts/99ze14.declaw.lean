/-! decode rows of the law's entry -/
theorem dL_law_2267 : decode cL_law 2267 = .ok (.iaload, 1) := by decide +kernel
theorem dL_law_2268 : decode cL_law 2268 = .ok (.aload_n 0, 1) := by decide +kernel
theorem dL_law_2269 : decode cL_law 2269 = .ok (.iload 4, 2) := by decide +kernel
theorem dL_law_2271 : decode cL_law 2271 = .ok (.iconst 2, 1) := by decide +kernel
theorem dL_law_2272 : decode cL_law 2272 = .ok (.iadd, 1) := by decide +kernel
theorem dL_law_2273 : decode cL_law 2273 = .ok (.iaload, 1) := by decide +kernel
theorem dL_law_2274 : decode cL_law 2274 = .ok (.aload_n 0, 1) := by decide +kernel
theorem dL_law_2275 : decode cL_law 2275 = .ok (.iload 4, 2) := by decide +kernel
theorem dL_law_2277 : decode cL_law 2277 = .ok (.iconst 3, 1) := by decide +kernel
theorem dL_law_2278 : decode cL_law 2278 = .ok (.iadd, 1) := by decide +kernel
theorem dL_law_2279 : decode cL_law 2279 = .ok (.iaload, 1) := by decide +kernel
theorem dL_law_2280 : decode cL_law 2280 = .ok (.aload_n 0, 1) := by decide +kernel
theorem dL_law_2281 : decode cL_law 2281 = .ok (.iload 4, 2) := by decide +kernel
theorem dL_law_2283 : decode cL_law 2283 = .ok (.iconst 4, 1) := by decide +kernel
theorem dL_law_2284 : decode cL_law 2284 = .ok (.iadd, 1) := by decide +kernel
theorem dL_law_2285 : decode cL_law 2285 = .ok (.iaload, 1) := by decide +kernel
theorem dL_law_2286 : decode cL_law 2286 = .ok (.aload_n 0, 1) := by decide +kernel
theorem dL_law_2287 : decode cL_law 2287 = .ok (.iload 4, 2) := by decide +kernel
theorem dL_law_2289 : decode cL_law 2289 = .ok (.iconst 5, 1) := by decide +kernel
theorem dL_law_2290 : decode cL_law 2290 = .ok (.iadd, 1) := by decide +kernel
theorem dL_law_2291 : decode cL_law 2291 = .ok (.iaload, 1) := by decide +kernel
theorem dL_law_2292 : decode cL_law 2292 = .ok (.aload_n 0, 1) := by decide +kernel
theorem dL_law_2293 : decode cL_law 2293 = .ok (.iload 4, 2) := by decide +kernel
theorem dL_law_2295 : decode cL_law 2295 = .ok (.bipush 6, 2) := by decide +kernel
theorem dL_law_2297 : decode cL_law 2297 = .ok (.iadd, 1) := by decide +kernel
theorem dL_law_2298 : decode cL_law 2298 = .ok (.iaload, 1) := by decide +kernel
theorem dL_law_2299 : decode cL_law 2299 = .ok (.ifCond .eq 7, 3) := by decide +kernel
theorem dL_law_2302 : decode cL_law 2302 = .ok (.iconst 1, 1) := by decide +kernel
theorem dL_law_2303 : decode cL_law 2303 = .ok (.goto 4, 3) := by decide +kernel
theorem dL_law_2306 : decode cL_law 2306 = .ok (.iconst 0, 1) := by decide +kernel
theorem dL_law_2307 : decode cL_law 2307 = .ok (.invokevirtual 257, 3) := by decide +kernel
theorem dL_law_2310 : decode cL_law 2310 = .ok (.lstore 6, 2) := by decide +kernel
theorem dL_law_2312 : decode cL_law 2312 = .ok (.aload_n 2, 1) := by decide +kernel
theorem dL_law_2313 : decode cL_law 2313 = .ok (.invokevirtual 159, 3) := by decide +kernel
theorem dL_law_2316 : decode cL_law 2316 = .ok (.iload 5, 2) := by decide +kernel
theorem dL_law_2318 : decode cL_law 2318 = .ok (.if_icmp .eq 5, 3) := by decide +kernel
theorem dL_law_2321 : decode cL_law 2321 = .ok (.iconst 0, 1) := by decide +kernel
theorem dL_law_2322 : decode cL_law 2322 = .ok (.ireturn, 1) := by decide +kernel
theorem dL_law_2323 : decode cL_law 2323 = .ok (.iload 5, 2) := by decide +kernel
theorem dL_law_2325 : decode cL_law 2325 = .ok (.ifCond .ne 14, 3) := by decide +kernel
theorem dL_law_2328 : decode cL_law 2328 = .ok (.aload_n 3, 1) := by decide +kernel
theorem dL_law_2329 : decode cL_law 2329 = .ok (.iconst 0, 1) := by decide +kernel
theorem dL_law_2330 : decode cL_law 2330 = .ok (.laload, 1) := by decide +kernel
theorem dL_law_2331 : decode cL_law 2331 = .ok (.lload 6, 2) := by decide +kernel
theorem dL_law_2333 : decode cL_law 2333 = .ok (.lcmp, 1) := by decide +kernel
theorem dL_law_2334 : decode cL_law 2334 = .ok (.ifCond .eq 5, 3) := by decide +kernel
theorem dL_law_2337 : decode cL_law 2337 = .ok (.iconst 0, 1) := by decide +kernel
theorem dL_law_2338 : decode cL_law 2338 = .ok (.ireturn, 1) := by decide +kernel
theorem dL_law_2339 : decode cL_law 2339 = .ok (.goto 829, 3) := by decide +kernel
theorem dL_law_2342 : decode cL_law 2342 = .ok (.aload_n 1, 1) := by decide +kernel
theorem dL_law_2343 : decode cL_law 2343 = .ok (.aload_n 0, 1) := by decide +kernel
theorem dL_law_2344 : decode cL_law 2344 = .ok (.iload 4, 2) := by decide +kernel
theorem dL_law_2346 : decode cL_law 2346 = .ok (.iconst 1, 1) := by decide +kernel
theorem dL_law_2347 : decode cL_law 2347 = .ok (.iadd, 1) := by decide +kernel
theorem dL_law_2348 : decode cL_law 2348 = .ok (.iaload, 1) := by decide +kernel
theorem dL_law_2349 : decode cL_law 2349 = .ok (.aload_n 0, 1) := by decide +kernel
theorem dL_law_2350 : decode cL_law 2350 = .ok (.iload 4, 2) := by decide +kernel
theorem dL_law_2352 : decode cL_law 2352 = .ok (.iconst 2, 1) := by decide +kernel
theorem dL_law_2353 : decode cL_law 2353 = .ok (.iadd, 1) := by decide +kernel
theorem dL_law_2354 : decode cL_law 2354 = .ok (.iaload, 1) := by decide +kernel
theorem dL_law_2355 : decode cL_law 2355 = .ok (.aload_n 0, 1) := by decide +kernel
theorem dL_law_2356 : decode cL_law 2356 = .ok (.iload 4, 2) := by decide +kernel
theorem dL_law_2358 : decode cL_law 2358 = .ok (.iconst 3, 1) := by decide +kernel
theorem dL_law_2359 : decode cL_law 2359 = .ok (.iadd, 1) := by decide +kernel
theorem dL_law_2360 : decode cL_law 2360 = .ok (.iaload, 1) := by decide +kernel
theorem dL_law_2361 : decode cL_law 2361 = .ok (.aload_n 0, 1) := by decide +kernel
theorem dL_law_2362 : decode cL_law 2362 = .ok (.iload 4, 2) := by decide +kernel
theorem dL_law_2364 : decode cL_law 2364 = .ok (.iconst 4, 1) := by decide +kernel
theorem dL_law_2365 : decode cL_law 2365 = .ok (.iadd, 1) := by decide +kernel
theorem dL_law_2366 : decode cL_law 2366 = .ok (.iaload, 1) := by decide +kernel
theorem dL_law_2367 : decode cL_law 2367 = .ok (.aload_n 0, 1) := by decide +kernel
theorem dL_law_2368 : decode cL_law 2368 = .ok (.iload 4, 2) := by decide +kernel
theorem dL_law_2370 : decode cL_law 2370 = .ok (.iconst 5, 1) := by decide +kernel
theorem dL_law_2371 : decode cL_law 2371 = .ok (.iadd, 1) := by decide +kernel
theorem dL_law_2372 : decode cL_law 2372 = .ok (.iaload, 1) := by decide +kernel
theorem dL_law_2373 : decode cL_law 2373 = .ok (.ifCond .eq 7, 3) := by decide +kernel
theorem dL_law_2376 : decode cL_law 2376 = .ok (.iconst 1, 1) := by decide +kernel
theorem dL_law_2377 : decode cL_law 2377 = .ok (.goto 4, 3) := by decide +kernel
theorem dL_law_2380 : decode cL_law 2380 = .ok (.iconst 0, 1) := by decide +kernel
theorem dL_law_2381 : decode cL_law 2381 = .ok (.aload_n 3, 1) := by decide +kernel
theorem dL_law_2382 : decode cL_law 2382 = .ok (.invokestatic 258, 3) := by decide +kernel
theorem dL_law_2385 : decode cL_law 2385 = .ok (.istore 5, 2) := by decide +kernel
theorem dL_law_2387 : decode cL_law 2387 = .ok (.aload_n 2, 1) := by decide +kernel
theorem dL_law_2388 : decode cL_law 2388 = .ok (.aload_n 0, 1) := by decide +kernel
theorem dL_law_2389 : decode cL_law 2389 = .ok (.iload 4, 2) := by decide +kernel
theorem dL_law_2391 : decode cL_law 2391 = .ok (.iconst 1, 1) := by decide +kernel
theorem dL_law_2392 : decode cL_law 2392 = .ok (.iadd, 1) := by decide +kernel
theorem dL_law_2393 : decode cL_law 2393 = .ok (.iaload, 1) := by decide +kernel
theorem dL_law_2394 : decode cL_law 2394 = .ok (.aload_n 0, 1) := by decide +kernel
theorem dL_law_2395 : decode cL_law 2395 = .ok (.iload 4, 2) := by decide +kernel
theorem dL_law_2397 : decode cL_law 2397 = .ok (.iconst 2, 1) := by decide +kernel
theorem dL_law_2398 : decode cL_law 2398 = .ok (.iadd, 1) := by decide +kernel
theorem dL_law_2399 : decode cL_law 2399 = .ok (.iaload, 1) := by decide +kernel
theorem dL_law_2400 : decode cL_law 2400 = .ok (.aload_n 0, 1) := by decide +kernel
theorem dL_law_2401 : decode cL_law 2401 = .ok (.iload 4, 2) := by decide +kernel
theorem dL_law_2403 : decode cL_law 2403 = .ok (.iconst 3, 1) := by decide +kernel
theorem dL_law_2404 : decode cL_law 2404 = .ok (.iadd, 1) := by decide +kernel
theorem dL_law_2405 : decode cL_law 2405 = .ok (.iaload, 1) := by decide +kernel
theorem dL_law_2406 : decode cL_law 2406 = .ok (.aload_n 0, 1) := by decide +kernel
theorem dL_law_2407 : decode cL_law 2407 = .ok (.iload 4, 2) := by decide +kernel
