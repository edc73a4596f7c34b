/-! decode rows of the law's entry -/
theorem dL_law_2409 : decode cL_law 2409 = .ok (.iconst 4, 1) := by decide +kernel
theorem dL_law_2410 : decode cL_law 2410 = .ok (.iadd, 1) := by decide +kernel
theorem dL_law_2411 : decode cL_law 2411 = .ok (.iaload, 1) := by decide +kernel
theorem dL_law_2412 : decode cL_law 2412 = .ok (.aload_n 0, 1) := by decide +kernel
theorem dL_law_2413 : decode cL_law 2413 = .ok (.iload 4, 2) := by decide +kernel
theorem dL_law_2415 : decode cL_law 2415 = .ok (.iconst 5, 1) := by decide +kernel
theorem dL_law_2416 : decode cL_law 2416 = .ok (.iadd, 1) := by decide +kernel
theorem dL_law_2417 : decode cL_law 2417 = .ok (.iaload, 1) := by decide +kernel
theorem dL_law_2418 : decode cL_law 2418 = .ok (.ifCond .eq 7, 3) := by decide +kernel
theorem dL_law_2421 : decode cL_law 2421 = .ok (.iconst 1, 1) := by decide +kernel
theorem dL_law_2422 : decode cL_law 2422 = .ok (.goto 4, 3) := by decide +kernel
theorem dL_law_2425 : decode cL_law 2425 = .ok (.iconst 0, 1) := by decide +kernel
theorem dL_law_2426 : decode cL_law 2426 = .ok (.invokevirtual 261, 3) := by decide +kernel
theorem dL_law_2429 : decode cL_law 2429 = .ok (.lstore 6, 2) := by decide +kernel
theorem dL_law_2431 : decode cL_law 2431 = .ok (.aload_n 2, 1) := by decide +kernel
theorem dL_law_2432 : decode cL_law 2432 = .ok (.invokevirtual 159, 3) := by decide +kernel
theorem dL_law_2435 : decode cL_law 2435 = .ok (.iload 5, 2) := by decide +kernel
theorem dL_law_2437 : decode cL_law 2437 = .ok (.if_icmp .eq 5, 3) := by decide +kernel
theorem dL_law_2440 : decode cL_law 2440 = .ok (.iconst 0, 1) := by decide +kernel
theorem dL_law_2441 : decode cL_law 2441 = .ok (.ireturn, 1) := by decide +kernel
theorem dL_law_2442 : decode cL_law 2442 = .ok (.iload 5, 2) := by decide +kernel
theorem dL_law_2444 : decode cL_law 2444 = .ok (.ifCond .ne 14, 3) := by decide +kernel
theorem dL_law_2447 : decode cL_law 2447 = .ok (.aload_n 3, 1) := by decide +kernel
theorem dL_law_2448 : decode cL_law 2448 = .ok (.iconst 0, 1) := by decide +kernel
theorem dL_law_2449 : decode cL_law 2449 = .ok (.laload, 1) := by decide +kernel
theorem dL_law_2450 : decode cL_law 2450 = .ok (.lload 6, 2) := by decide +kernel
theorem dL_law_2452 : decode cL_law 2452 = .ok (.lcmp, 1) := by decide +kernel
theorem dL_law_2453 : decode cL_law 2453 = .ok (.ifCond .eq 5, 3) := by decide +kernel
theorem dL_law_2456 : decode cL_law 2456 = .ok (.iconst 0, 1) := by decide +kernel
theorem dL_law_2457 : decode cL_law 2457 = .ok (.ireturn, 1) := by decide +kernel
theorem dL_law_2458 : decode cL_law 2458 = .ok (.goto 710, 3) := by decide +kernel
theorem dL_law_2461 : decode cL_law 2461 = .ok (.aload_n 1, 1) := by decide +kernel
theorem dL_law_2462 : decode cL_law 2462 = .ok (.aload_n 0, 1) := by decide +kernel
theorem dL_law_2463 : decode cL_law 2463 = .ok (.iload 4, 2) := by decide +kernel
theorem dL_law_2465 : decode cL_law 2465 = .ok (.iconst 1, 1) := by decide +kernel
theorem dL_law_2466 : decode cL_law 2466 = .ok (.iadd, 1) := by decide +kernel
theorem dL_law_2467 : decode cL_law 2467 = .ok (.iaload, 1) := by decide +kernel
theorem dL_law_2468 : decode cL_law 2468 = .ok (.aload_n 0, 1) := by decide +kernel
theorem dL_law_2469 : decode cL_law 2469 = .ok (.iload 4, 2) := by decide +kernel
theorem dL_law_2471 : decode cL_law 2471 = .ok (.iconst 2, 1) := by decide +kernel
theorem dL_law_2472 : decode cL_law 2472 = .ok (.iadd, 1) := by decide +kernel
theorem dL_law_2473 : decode cL_law 2473 = .ok (.iaload, 1) := by decide +kernel
theorem dL_law_2474 : decode cL_law 2474 = .ok (.aload_n 0, 1) := by decide +kernel
theorem dL_law_2475 : decode cL_law 2475 = .ok (.iload 4, 2) := by decide +kernel
theorem dL_law_2477 : decode cL_law 2477 = .ok (.iconst 3, 1) := by decide +kernel
theorem dL_law_2478 : decode cL_law 2478 = .ok (.iadd, 1) := by decide +kernel
theorem dL_law_2479 : decode cL_law 2479 = .ok (.iaload, 1) := by decide +kernel
theorem dL_law_2480 : decode cL_law 2480 = .ok (.aload_n 0, 1) := by decide +kernel
theorem dL_law_2481 : decode cL_law 2481 = .ok (.iload 4, 2) := by decide +kernel
theorem dL_law_2483 : decode cL_law 2483 = .ok (.iconst 4, 1) := by decide +kernel
theorem dL_law_2484 : decode cL_law 2484 = .ok (.iadd, 1) := by decide +kernel
theorem dL_law_2485 : decode cL_law 2485 = .ok (.iaload, 1) := by decide +kernel
theorem dL_law_2486 : decode cL_law 2486 = .ok (.aload_n 0, 1) := by decide +kernel
theorem dL_law_2487 : decode cL_law 2487 = .ok (.iload 4, 2) := by decide +kernel
theorem dL_law_2489 : decode cL_law 2489 = .ok (.iconst 5, 1) := by decide +kernel
theorem dL_law_2490 : decode cL_law 2490 = .ok (.iadd, 1) := by decide +kernel
theorem dL_law_2491 : decode cL_law 2491 = .ok (.iaload, 1) := by decide +kernel
theorem dL_law_2492 : decode cL_law 2492 = .ok (.aload_n 0, 1) := by decide +kernel
theorem dL_law_2493 : decode cL_law 2493 = .ok (.iload 4, 2) := by decide +kernel
theorem dL_law_2495 : decode cL_law 2495 = .ok (.bipush 6, 2) := by decide +kernel
theorem dL_law_2497 : decode cL_law 2497 = .ok (.iadd, 1) := by decide +kernel
theorem dL_law_2498 : decode cL_law 2498 = .ok (.iaload, 1) := by decide +kernel
theorem dL_law_2499 : decode cL_law 2499 = .ok (.aload_n 3, 1) := by decide +kernel
theorem dL_law_2500 : decode cL_law 2500 = .ok (.invokestatic 262, 3) := by decide +kernel
theorem dL_law_2503 : decode cL_law 2503 = .ok (.istore 5, 2) := by decide +kernel
theorem dL_law_2505 : decode cL_law 2505 = .ok (.aload_n 2, 1) := by decide +kernel
theorem dL_law_2506 : decode cL_law 2506 = .ok (.aload_n 0, 1) := by decide +kernel
theorem dL_law_2507 : decode cL_law 2507 = .ok (.iload 4, 2) := by decide +kernel
theorem dL_law_2509 : decode cL_law 2509 = .ok (.iconst 1, 1) := by decide +kernel
theorem dL_law_2510 : decode cL_law 2510 = .ok (.iadd, 1) := by decide +kernel
theorem dL_law_2511 : decode cL_law 2511 = .ok (.iaload, 1) := by decide +kernel
theorem dL_law_2512 : decode cL_law 2512 = .ok (.aload_n 0, 1) := by decide +kernel
theorem dL_law_2513 : decode cL_law 2513 = .ok (.iload 4, 2) := by decide +kernel
theorem dL_law_2515 : decode cL_law 2515 = .ok (.iconst 2, 1) := by decide +kernel
theorem dL_law_2516 : decode cL_law 2516 = .ok (.iadd, 1) := by decide +kernel
theorem dL_law_2517 : decode cL_law 2517 = .ok (.iaload, 1) := by decide +kernel
theorem dL_law_2518 : decode cL_law 2518 = .ok (.aload_n 0, 1) := by decide +kernel
theorem dL_law_2519 : decode cL_law 2519 = .ok (.iload 4, 2) := by decide +kernel
theorem dL_law_2521 : decode cL_law 2521 = .ok (.iconst 3, 1) := by decide +kernel
theorem dL_law_2522 : decode cL_law 2522 = .ok (.iadd, 1) := by decide +kernel
theorem dL_law_2523 : decode cL_law 2523 = .ok (.iaload, 1) := by decide +kernel
theorem dL_law_2524 : decode cL_law 2524 = .ok (.aload_n 0, 1) := by decide +kernel
theorem dL_law_2525 : decode cL_law 2525 = .ok (.iload 4, 2) := by decide +kernel
theorem dL_law_2527 : decode cL_law 2527 = .ok (.iconst 4, 1) := by decide +kernel
theorem dL_law_2528 : decode cL_law 2528 = .ok (.iadd, 1) := by decide +kernel
theorem dL_law_2529 : decode cL_law 2529 = .ok (.iaload, 1) := by decide +kernel
theorem dL_law_2530 : decode cL_law 2530 = .ok (.aload_n 0, 1) := by decide +kernel
theorem dL_law_2531 : decode cL_law 2531 = .ok (.iload 4, 2) := by decide +kernel
theorem dL_law_2533 : decode cL_law 2533 = .ok (.iconst 5, 1) := by decide +kernel
theorem dL_law_2534 : decode cL_law 2534 = .ok (.iadd, 1) := by decide +kernel
theorem dL_law_2535 : decode cL_law 2535 = .ok (.iaload, 1) := by decide +kernel
theorem dL_law_2536 : decode cL_law 2536 = .ok (.aload_n 0, 1) := by decide +kernel
theorem dL_law_2537 : decode cL_law 2537 = .ok (.iload 4, 2) := by decide +kernel
theorem dL_law_2539 : decode cL_law 2539 = .ok (.bipush 6, 2) := by decide +kernel
theorem dL_law_2541 : decode cL_law 2541 = .ok (.iadd, 1) := by decide +kernel
theorem dL_law_2542 : decode cL_law 2542 = .ok (.iaload, 1) := by decide +kernel
theorem dL_law_2543 : decode cL_law 2543 = .ok (.invokevirtual 264, 3) := by decide +kernel
theorem dL_law_2546 : decode cL_law 2546 = .ok (.istore 6, 2) := by decide +kernel
theorem dL_law_2548 : decode cL_law 2548 = .ok (.aload_n 2, 1) := by decide +kernel
theorem dL_law_2549 : decode cL_law 2549 = .ok (.invokevirtual 159, 3) := by decide +kernel
