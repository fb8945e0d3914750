/-! Decode rows of the law, the fourth -/
theorem dL_law_2317 : decode cL_law 2317 = .ok (.i2l, 1) := by decide +kernel
theorem dL_law_2318 : decode cL_law 2318 = .ok (.lcmp, 1) := by decide +kernel
theorem dL_law_2319 : decode cL_law 2319 = .ok (.ifCond .eq 5, 3) := by decide +kernel
theorem dL_law_2322 : decode cL_law 2322 = .ok (.iconst 0, 1) := by decide +kernel
theorem dL_law_2323 : decode cL_law 2323 = .ok (.ireturn, 1) := by decide +kernel
theorem dL_law_2324 : decode cL_law 2324 = .ok (.goto 501, 3) := by decide +kernel
theorem dL_law_2327 : decode cL_law 2327 = .ok (.aload_n 1, 1) := by decide +kernel
theorem dL_law_2328 : decode cL_law 2328 = .ok (.aload_n 0, 1) := by decide +kernel
theorem dL_law_2329 : decode cL_law 2329 = .ok (.iload 5, 2) := by decide +kernel
theorem dL_law_2331 : decode cL_law 2331 = .ok (.iconst 1, 1) := by decide +kernel
theorem dL_law_2332 : decode cL_law 2332 = .ok (.iadd, 1) := by decide +kernel
theorem dL_law_2333 : decode cL_law 2333 = .ok (.iaload, 1) := by decide +kernel
theorem dL_law_2334 : decode cL_law 2334 = .ok (.aload_n 3, 1) := by decide +kernel
theorem dL_law_2335 : decode cL_law 2335 = .ok (.invokestatic 305, 3) := by decide +kernel
theorem dL_law_2338 : decode cL_law 2338 = .ok (.istore 6, 2) := by decide +kernel
theorem dL_law_2340 : decode cL_law 2340 = .ok (.aload_n 2, 1) := by decide +kernel
theorem dL_law_2341 : decode cL_law 2341 = .ok (.aload_n 0, 1) := by decide +kernel
theorem dL_law_2342 : decode cL_law 2342 = .ok (.iload 5, 2) := by decide +kernel
theorem dL_law_2344 : decode cL_law 2344 = .ok (.iconst 1, 1) := by decide +kernel
theorem dL_law_2345 : decode cL_law 2345 = .ok (.iadd, 1) := by decide +kernel
theorem dL_law_2346 : decode cL_law 2346 = .ok (.iaload, 1) := by decide +kernel
theorem dL_law_2347 : decode cL_law 2347 = .ok (.invokevirtual 307, 3) := by decide +kernel
theorem dL_law_2350 : decode cL_law 2350 = .ok (.istore 7, 2) := by decide +kernel
theorem dL_law_2352 : decode cL_law 2352 = .ok (.aload_n 2, 1) := by decide +kernel
theorem dL_law_2353 : decode cL_law 2353 = .ok (.invokevirtual 167, 3) := by decide +kernel
theorem dL_law_2356 : decode cL_law 2356 = .ok (.iload 6, 2) := by decide +kernel
theorem dL_law_2358 : decode cL_law 2358 = .ok (.if_icmp .eq 5, 3) := by decide +kernel
theorem dL_law_2361 : decode cL_law 2361 = .ok (.iconst 0, 1) := by decide +kernel
theorem dL_law_2362 : decode cL_law 2362 = .ok (.ireturn, 1) := by decide +kernel
theorem dL_law_2363 : decode cL_law 2363 = .ok (.iload 6, 2) := by decide +kernel
theorem dL_law_2365 : decode cL_law 2365 = .ok (.ifCond .ne 15, 3) := by decide +kernel
theorem dL_law_2368 : decode cL_law 2368 = .ok (.aload_n 3, 1) := by decide +kernel
theorem dL_law_2369 : decode cL_law 2369 = .ok (.iconst 0, 1) := by decide +kernel
theorem dL_law_2370 : decode cL_law 2370 = .ok (.laload, 1) := by decide +kernel
theorem dL_law_2371 : decode cL_law 2371 = .ok (.iload 7, 2) := by decide +kernel
theorem dL_law_2373 : decode cL_law 2373 = .ok (.i2l, 1) := by decide +kernel
theorem dL_law_2374 : decode cL_law 2374 = .ok (.lcmp, 1) := by decide +kernel
theorem dL_law_2375 : decode cL_law 2375 = .ok (.ifCond .eq 5, 3) := by decide +kernel
theorem dL_law_2378 : decode cL_law 2378 = .ok (.iconst 0, 1) := by decide +kernel
theorem dL_law_2379 : decode cL_law 2379 = .ok (.ireturn, 1) := by decide +kernel
theorem dL_law_2380 : decode cL_law 2380 = .ok (.goto 445, 3) := by decide +kernel
theorem dL_law_2383 : decode cL_law 2383 = .ok (.aload_n 1, 1) := by decide +kernel
theorem dL_law_2384 : decode cL_law 2384 = .ok (.invokevirtual 308, 3) := by decide +kernel
theorem dL_law_2387 : decode cL_law 2387 = .ok (.aload_n 2, 1) := by decide +kernel
theorem dL_law_2388 : decode cL_law 2388 = .ok (.invokevirtual 311, 3) := by decide +kernel
theorem dL_law_2391 : decode cL_law 2391 = .ok (.if_icmp .eq 434, 3) := by decide +kernel
theorem dL_law_2394 : decode cL_law 2394 = .ok (.iconst 0, 1) := by decide +kernel
theorem dL_law_2395 : decode cL_law 2395 = .ok (.ireturn, 1) := by decide +kernel
theorem dL_law_2396 : decode cL_law 2396 = .ok (.aload_n 1, 1) := by decide +kernel
theorem dL_law_2397 : decode cL_law 2397 = .ok (.aload_n 0, 1) := by decide +kernel
theorem dL_law_2398 : decode cL_law 2398 = .ok (.iload 5, 2) := by decide +kernel
theorem dL_law_2400 : decode cL_law 2400 = .ok (.iconst 1, 1) := by decide +kernel
theorem dL_law_2401 : decode cL_law 2401 = .ok (.iadd, 1) := by decide +kernel
theorem dL_law_2402 : decode cL_law 2402 = .ok (.iaload, 1) := by decide +kernel
theorem dL_law_2403 : decode cL_law 2403 = .ok (.aload_n 3, 1) := by decide +kernel
theorem dL_law_2404 : decode cL_law 2404 = .ok (.invokestatic 312, 3) := by decide +kernel
theorem dL_law_2407 : decode cL_law 2407 = .ok (.istore 6, 2) := by decide +kernel
theorem dL_law_2409 : decode cL_law 2409 = .ok (.aload_n 2, 1) := by decide +kernel
theorem dL_law_2410 : decode cL_law 2410 = .ok (.aload_n 0, 1) := by decide +kernel
theorem dL_law_2411 : decode cL_law 2411 = .ok (.iload 5, 2) := by decide +kernel
theorem dL_law_2413 : decode cL_law 2413 = .ok (.iconst 1, 1) := by decide +kernel
theorem dL_law_2414 : decode cL_law 2414 = .ok (.iadd, 1) := by decide +kernel
theorem dL_law_2415 : decode cL_law 2415 = .ok (.iaload, 1) := by decide +kernel
theorem dL_law_2416 : decode cL_law 2416 = .ok (.invokevirtual 314, 3) := by decide +kernel
theorem dL_law_2419 : decode cL_law 2419 = .ok (.istore 7, 2) := by decide +kernel
theorem dL_law_2421 : decode cL_law 2421 = .ok (.aload_n 2, 1) := by decide +kernel
theorem dL_law_2422 : decode cL_law 2422 = .ok (.invokevirtual 167, 3) := by decide +kernel
theorem dL_law_2425 : decode cL_law 2425 = .ok (.iload 6, 2) := by decide +kernel
theorem dL_law_2427 : decode cL_law 2427 = .ok (.if_icmp .eq 5, 3) := by decide +kernel
theorem dL_law_2430 : decode cL_law 2430 = .ok (.iconst 0, 1) := by decide +kernel
theorem dL_law_2431 : decode cL_law 2431 = .ok (.ireturn, 1) := by decide +kernel
theorem dL_law_2432 : decode cL_law 2432 = .ok (.iload 6, 2) := by decide +kernel
theorem dL_law_2434 : decode cL_law 2434 = .ok (.ifCond .ne 15, 3) := by decide +kernel
theorem dL_law_2437 : decode cL_law 2437 = .ok (.aload_n 3, 1) := by decide +kernel
theorem dL_law_2438 : decode cL_law 2438 = .ok (.iconst 0, 1) := by decide +kernel
theorem dL_law_2439 : decode cL_law 2439 = .ok (.laload, 1) := by decide +kernel
theorem dL_law_2440 : decode cL_law 2440 = .ok (.iload 7, 2) := by decide +kernel
theorem dL_law_2442 : decode cL_law 2442 = .ok (.i2l, 1) := by decide +kernel
theorem dL_law_2443 : decode cL_law 2443 = .ok (.lcmp, 1) := by decide +kernel
theorem dL_law_2444 : decode cL_law 2444 = .ok (.ifCond .eq 5, 3) := by decide +kernel
theorem dL_law_2447 : decode cL_law 2447 = .ok (.iconst 0, 1) := by decide +kernel
theorem dL_law_2448 : decode cL_law 2448 = .ok (.ireturn, 1) := by decide +kernel
theorem dL_law_2449 : decode cL_law 2449 = .ok (.goto 376, 3) := by decide +kernel
theorem dL_law_2452 : decode cL_law 2452 = .ok (.aload_n 1, 1) := by decide +kernel
theorem dL_law_2453 : decode cL_law 2453 = .ok (.invokevirtual 315, 3) := by decide +kernel
theorem dL_law_2456 : decode cL_law 2456 = .ok (.aload_n 2, 1) := by decide +kernel
theorem dL_law_2457 : decode cL_law 2457 = .ok (.invokevirtual 318, 3) := by decide +kernel
theorem dL_law_2460 : decode cL_law 2460 = .ok (.if_icmp .eq 365, 3) := by decide +kernel
theorem dL_law_2463 : decode cL_law 2463 = .ok (.iconst 0, 1) := by decide +kernel
theorem dL_law_2464 : decode cL_law 2464 = .ok (.ireturn, 1) := by decide +kernel
theorem dL_law_2465 : decode cL_law 2465 = .ok (.aload_n 1, 1) := by decide +kernel
theorem dL_law_2466 : decode cL_law 2466 = .ok (.aload_n 0, 1) := by decide +kernel
theorem dL_law_2467 : decode cL_law 2467 = .ok (.iload 5, 2) := by decide +kernel
theorem dL_law_2469 : decode cL_law 2469 = .ok (.iconst 1, 1) := by decide +kernel
theorem dL_law_2470 : decode cL_law 2470 = .ok (.iadd, 1) := by decide +kernel
theorem dL_law_2471 : decode cL_law 2471 = .ok (.iaload, 1) := by decide +kernel
theorem dL_law_2472 : decode cL_law 2472 = .ok (.aload_n 3, 1) := by decide +kernel
theorem dL_law_2473 : decode cL_law 2473 = .ok (.invokestatic 319, 3) := by decide +kernel
theorem dL_law_2476 : decode cL_law 2476 = .ok (.istore 6, 2) := by decide +kernel
theorem dL_law_2478 : decode cL_law 2478 = .ok (.aload_n 2, 1) := by decide +kernel
theorem dL_law_2479 : decode cL_law 2479 = .ok (.aload_n 0, 1) := by decide +kernel
theorem dL_law_2480 : decode cL_law 2480 = .ok (.iload 5, 2) := by decide +kernel
theorem dL_law_2482 : decode cL_law 2482 = .ok (.iconst 1, 1) := by decide +kernel
theorem dL_law_2483 : decode cL_law 2483 = .ok (.iadd, 1) := by decide +kernel
theorem dL_law_2484 : decode cL_law 2484 = .ok (.iaload, 1) := by decide +kernel
theorem dL_law_2485 : decode cL_law 2485 = .ok (.invokevirtual 321, 3) := by decide +kernel
theorem dL_law_2488 : decode cL_law 2488 = .ok (.istore 7, 2) := by decide +kernel
theorem dL_law_2490 : decode cL_law 2490 = .ok (.aload_n 2, 1) := by decide +kernel
theorem dL_law_2491 : decode cL_law 2491 = .ok (.invokevirtual 167, 3) := by decide +kernel
theorem dL_law_2494 : decode cL_law 2494 = .ok (.iload 6, 2) := by decide +kernel
theorem dL_law_2496 : decode cL_law 2496 = .ok (.if_icmp .eq 5, 3) := by decide +kernel
theorem dL_law_2499 : decode cL_law 2499 = .ok (.iconst 0, 1) := by decide +kernel
theorem dL_law_2500 : decode cL_law 2500 = .ok (.ireturn, 1) := by decide +kernel
theorem dL_law_2501 : decode cL_law 2501 = .ok (.iload 6, 2) := by decide +kernel
theorem dL_law_2503 : decode cL_law 2503 = .ok (.ifCond .ne 15, 3) := by decide +kernel
theorem dL_law_2506 : decode cL_law 2506 = .ok (.aload_n 3, 1) := by decide +kernel
theorem dL_law_2507 : decode cL_law 2507 = .ok (.iconst 0, 1) := by decide +kernel
theorem dL_law_2508 : decode cL_law 2508 = .ok (.laload, 1) := by decide +kernel
theorem dL_law_2509 : decode cL_law 2509 = .ok (.iload 7, 2) := by decide +kernel
theorem dL_law_2511 : decode cL_law 2511 = .ok (.i2l, 1) := by decide +kernel
theorem dL_law_2512 : decode cL_law 2512 = .ok (.lcmp, 1) := by decide +kernel
theorem dL_law_2513 : decode cL_law 2513 = .ok (.ifCond .eq 5, 3) := by decide +kernel
theorem dL_law_2516 : decode cL_law 2516 = .ok (.iconst 0, 1) := by decide +kernel
theorem dL_law_2517 : decode cL_law 2517 = .ok (.ireturn, 1) := by decide +kernel
theorem dL_law_2518 : decode cL_law 2518 = .ok (.goto 307, 3) := by decide +kernel
theorem dL_law_2521 : decode cL_law 2521 = .ok (.aload_n 1, 1) := by decide +kernel
theorem dL_law_2522 : decode cL_law 2522 = .ok (.invokevirtual 322, 3) := by decide +kernel
theorem dL_law_2525 : decode cL_law 2525 = .ok (.aload_n 2, 1) := by decide +kernel
theorem dL_law_2526 : decode cL_law 2526 = .ok (.invokevirtual 325, 3) := by decide +kernel
theorem dL_law_2529 : decode cL_law 2529 = .ok (.if_icmp .eq 296, 3) := by decide +kernel
theorem dL_law_2532 : decode cL_law 2532 = .ok (.iconst 0, 1) := by decide +kernel
theorem dL_law_2533 : decode cL_law 2533 = .ok (.ireturn, 1) := by decide +kernel
theorem dL_law_2534 : decode cL_law 2534 = .ok (.aload_n 1, 1) := by decide +kernel
theorem dL_law_2535 : decode cL_law 2535 = .ok (.aload_n 0, 1) := by decide +kernel
theorem dL_law_2536 : decode cL_law 2536 = .ok (.iload 5, 2) := by decide +kernel
theorem dL_law_2538 : decode cL_law 2538 = .ok (.iconst 1, 1) := by decide +kernel
theorem dL_law_2539 : decode cL_law 2539 = .ok (.iadd, 1) := by decide +kernel
theorem dL_law_2540 : decode cL_law 2540 = .ok (.iaload, 1) := by decide +kernel
theorem dL_law_2541 : decode cL_law 2541 = .ok (.i2c, 1) := by decide +kernel
theorem dL_law_2542 : decode cL_law 2542 = .ok (.aload_n 3, 1) := by decide +kernel
theorem dL_law_2543 : decode cL_law 2543 = .ok (.invokestatic 326, 3) := by decide +kernel
theorem dL_law_2546 : decode cL_law 2546 = .ok (.istore 6, 2) := by decide +kernel
theorem dL_law_2548 : decode cL_law 2548 = .ok (.aload_n 2, 1) := by decide +kernel
theorem dL_law_2549 : decode cL_law 2549 = .ok (.aload_n 0, 1) := by decide +kernel
theorem dL_law_2550 : decode cL_law 2550 = .ok (.iload 5, 2) := by decide +kernel
theorem dL_law_2552 : decode cL_law 2552 = .ok (.iconst 1, 1) := by decide +kernel
theorem dL_law_2553 : decode cL_law 2553 = .ok (.iadd, 1) := by decide +kernel
theorem dL_law_2554 : decode cL_law 2554 = .ok (.iaload, 1) := by decide +kernel
theorem dL_law_2555 : decode cL_law 2555 = .ok (.i2c, 1) := by decide +kernel
theorem dL_law_2556 : decode cL_law 2556 = .ok (.invokevirtual 329, 3) := by decide +kernel
theorem dL_law_2559 : decode cL_law 2559 = .ok (.istore 7, 2) := by decide +kernel
theorem dL_law_2561 : decode cL_law 2561 = .ok (.aload_n 2, 1) := by decide +kernel
theorem dL_law_2562 : decode cL_law 2562 = .ok (.invokevirtual 167, 3) := by decide +kernel
theorem dL_law_2565 : decode cL_law 2565 = .ok (.iload 6, 2) := by decide +kernel
theorem dL_law_2567 : decode cL_law 2567 = .ok (.if_icmp .eq 5, 3) := by decide +kernel
theorem dL_law_2570 : decode cL_law 2570 = .ok (.iconst 0, 1) := by decide +kernel
theorem dL_law_2571 : decode cL_law 2571 = .ok (.ireturn, 1) := by decide +kernel
theorem dL_law_2572 : decode cL_law 2572 = .ok (.iload 6, 2) := by decide +kernel
theorem dL_law_2574 : decode cL_law 2574 = .ok (.ifCond .ne 15, 3) := by decide +kernel
theorem dL_law_2577 : decode cL_law 2577 = .ok (.aload_n 3, 1) := by decide +kernel
theorem dL_law_2578 : decode cL_law 2578 = .ok (.iconst 0, 1) := by decide +kernel
theorem dL_law_2579 : decode cL_law 2579 = .ok (.laload, 1) := by decide +kernel
theorem dL_law_2580 : decode cL_law 2580 = .ok (.iload 7, 2) := by decide +kernel
theorem dL_law_2582 : decode cL_law 2582 = .ok (.i2l, 1) := by decide +kernel
theorem dL_law_2583 : decode cL_law 2583 = .ok (.lcmp, 1) := by decide +kernel
theorem dL_law_2584 : decode cL_law 2584 = .ok (.ifCond .eq 5, 3) := by decide +kernel
theorem dL_law_2587 : decode cL_law 2587 = .ok (.iconst 0, 1) := by decide +kernel
theorem dL_law_2588 : decode cL_law 2588 = .ok (.ireturn, 1) := by decide +kernel
theorem dL_law_2589 : decode cL_law 2589 = .ok (.goto 236, 3) := by decide +kernel
theorem dL_law_2592 : decode cL_law 2592 = .ok (.aload_n 1, 1) := by decide +kernel
theorem dL_law_2593 : decode cL_law 2593 = .ok (.aload_n 3, 1) := by decide +kernel
theorem dL_law_2594 : decode cL_law 2594 = .ok (.invokestatic 330, 3) := by decide +kernel
theorem dL_law_2597 : decode cL_law 2597 = .ok (.istore 6, 2) := by decide +kernel
theorem dL_law_2599 : decode cL_law 2599 = .ok (.aload_n 2, 1) := by decide +kernel
theorem dL_law_2600 : decode cL_law 2600 = .ok (.invokevirtual 332, 3) := by decide +kernel
theorem dL_law_2603 : decode cL_law 2603 = .ok (.istore 7, 2) := by decide +kernel
theorem dL_law_2605 : decode cL_law 2605 = .ok (.aload_n 2, 1) := by decide +kernel
theorem dL_law_2606 : decode cL_law 2606 = .ok (.invokevirtual 167, 3) := by decide +kernel
theorem dL_law_2609 : decode cL_law 2609 = .ok (.iload 6, 2) := by decide +kernel
theorem dL_law_2611 : decode cL_law 2611 = .ok (.if_icmp .eq 5, 3) := by decide +kernel
theorem dL_law_2614 : decode cL_law 2614 = .ok (.iconst 0, 1) := by decide +kernel
theorem dL_law_2615 : decode cL_law 2615 = .ok (.ireturn, 1) := by decide +kernel
theorem dL_law_2616 : decode cL_law 2616 = .ok (.iload 6, 2) := by decide +kernel
theorem dL_law_2618 : decode cL_law 2618 = .ok (.ifCond .ne 15, 3) := by decide +kernel
theorem dL_law_2621 : decode cL_law 2621 = .ok (.aload_n 3, 1) := by decide +kernel
theorem dL_law_2622 : decode cL_law 2622 = .ok (.iconst 0, 1) := by decide +kernel
theorem dL_law_2623 : decode cL_law 2623 = .ok (.laload, 1) := by decide +kernel
theorem dL_law_2624 : decode cL_law 2624 = .ok (.iload 7, 2) := by decide +kernel
theorem dL_law_2626 : decode cL_law 2626 = .ok (.i2l, 1) := by decide +kernel
theorem dL_law_2627 : decode cL_law 2627 = .ok (.lcmp, 1) := by decide +kernel
theorem dL_law_2628 : decode cL_law 2628 = .ok (.ifCond .eq 5, 3) := by decide +kernel
theorem dL_law_2631 : decode cL_law 2631 = .ok (.iconst 0, 1) := by decide +kernel
theorem dL_law_2632 : decode cL_law 2632 = .ok (.ireturn, 1) := by decide +kernel
theorem dL_law_2633 : decode cL_law 2633 = .ok (.goto 192, 3) := by decide +kernel
theorem dL_law_2636 : decode cL_law 2636 = .ok (.aload_n 1, 1) := by decide +kernel
theorem dL_law_2637 : decode cL_law 2637 = .ok (.aload_n 3, 1) := by decide +kernel
theorem dL_law_2638 : decode cL_law 2638 = .ok (.invokestatic 333, 3) := by decide +kernel
theorem dL_law_2641 : decode cL_law 2641 = .ok (.istore 6, 2) := by decide +kernel
theorem dL_law_2643 : decode cL_law 2643 = .ok (.aload_n 2, 1) := by decide +kernel
theorem dL_law_2644 : decode cL_law 2644 = .ok (.invokevirtual 335, 3) := by decide +kernel
theorem dL_law_2647 : decode cL_law 2647 = .ok (.istore 7, 2) := by decide +kernel
theorem dL_law_2649 : decode cL_law 2649 = .ok (.aload_n 2, 1) := by decide +kernel
theorem dL_law_2650 : decode cL_law 2650 = .ok (.invokevirtual 167, 3) := by decide +kernel
theorem dL_law_2653 : decode cL_law 2653 = .ok (.iload 6, 2) := by decide +kernel
theorem dL_law_2655 : decode cL_law 2655 = .ok (.if_icmp .eq 5, 3) := by decide +kernel
theorem dL_law_2658 : decode cL_law 2658 = .ok (.iconst 0, 1) := by decide +kernel
theorem dL_law_2659 : decode cL_law 2659 = .ok (.ireturn, 1) := by decide +kernel
theorem dL_law_2660 : decode cL_law 2660 = .ok (.iload 6, 2) := by decide +kernel
theorem dL_law_2662 : decode cL_law 2662 = .ok (.ifCond .ne 15, 3) := by decide +kernel
theorem dL_law_2665 : decode cL_law 2665 = .ok (.aload_n 3, 1) := by decide +kernel
theorem dL_law_2666 : decode cL_law 2666 = .ok (.iconst 0, 1) := by decide +kernel
theorem dL_law_2667 : decode cL_law 2667 = .ok (.laload, 1) := by decide +kernel
theorem dL_law_2668 : decode cL_law 2668 = .ok (.iload 7, 2) := by decide +kernel
theorem dL_law_2670 : decode cL_law 2670 = .ok (.i2l, 1) := by decide +kernel
theorem dL_law_2671 : decode cL_law 2671 = .ok (.lcmp, 1) := by decide +kernel
theorem dL_law_2672 : decode cL_law 2672 = .ok (.ifCond .eq 5, 3) := by decide +kernel
theorem dL_law_2675 : decode cL_law 2675 = .ok (.iconst 0, 1) := by decide +kernel
theorem dL_law_2676 : decode cL_law 2676 = .ok (.ireturn, 1) := by decide +kernel
theorem dL_law_2677 : decode cL_law 2677 = .ok (.goto 148, 3) := by decide +kernel
theorem dL_law_2680 : decode cL_law 2680 = .ok (.aload_n 1, 1) := by decide +kernel
theorem dL_law_2681 : decode cL_law 2681 = .ok (.aload_n 3, 1) := by decide +kernel
theorem dL_law_2682 : decode cL_law 2682 = .ok (.invokestatic 336, 3) := by decide +kernel
theorem dL_law_2685 : decode cL_law 2685 = .ok (.istore 6, 2) := by decide +kernel
theorem dL_law_2687 : decode cL_law 2687 = .ok (.aload_n 2, 1) := by decide +kernel
theorem dL_law_2688 : decode cL_law 2688 = .ok (.invokevirtual 338, 3) := by decide +kernel
theorem dL_law_2691 : decode cL_law 2691 = .ok (.istore 7, 2) := by decide +kernel
theorem dL_law_2693 : decode cL_law 2693 = .ok (.aload_n 2, 1) := by decide +kernel
theorem dL_law_2694 : decode cL_law 2694 = .ok (.invokevirtual 167, 3) := by decide +kernel
theorem dL_law_2697 : decode cL_law 2697 = .ok (.iload 6, 2) := by decide +kernel
theorem dL_law_2699 : decode cL_law 2699 = .ok (.if_icmp .eq 5, 3) := by decide +kernel
theorem dL_law_2702 : decode cL_law 2702 = .ok (.iconst 0, 1) := by decide +kernel
theorem dL_law_2703 : decode cL_law 2703 = .ok (.ireturn, 1) := by decide +kernel
theorem dL_law_2704 : decode cL_law 2704 = .ok (.iload 6, 2) := by decide +kernel
theorem dL_law_2706 : decode cL_law 2706 = .ok (.ifCond .ne 15, 3) := by decide +kernel
theorem dL_law_2709 : decode cL_law 2709 = .ok (.aload_n 3, 1) := by decide +kernel
theorem dL_law_2710 : decode cL_law 2710 = .ok (.iconst 0, 1) := by decide +kernel
theorem dL_law_2711 : decode cL_law 2711 = .ok (.laload, 1) := by decide +kernel
theorem dL_law_2712 : decode cL_law 2712 = .ok (.iload 7, 2) := by decide +kernel
theorem dL_law_2714 : decode cL_law 2714 = .ok (.i2l, 1) := by decide +kernel
theorem dL_law_2715 : decode cL_law 2715 = .ok (.lcmp, 1) := by decide +kernel
theorem dL_law_2716 : decode cL_law 2716 = .ok (.ifCond .eq 5, 3) := by decide +kernel
theorem dL_law_2719 : decode cL_law 2719 = .ok (.iconst 0, 1) := by decide +kernel
theorem dL_law_2720 : decode cL_law 2720 = .ok (.ireturn, 1) := by decide +kernel
theorem dL_law_2721 : decode cL_law 2721 = .ok (.goto 104, 3) := by decide +kernel
theorem dL_law_2724 : decode cL_law 2724 = .ok (.aload_n 1, 1) := by decide +kernel
theorem dL_law_2725 : decode cL_law 2725 = .ok (.aload_n 3, 1) := by decide +kernel
theorem dL_law_2726 : decode cL_law 2726 = .ok (.invokestatic 339, 3) := by decide +kernel
theorem dL_law_2729 : decode cL_law 2729 = .ok (.istore 6, 2) := by decide +kernel
theorem dL_law_2731 : decode cL_law 2731 = .ok (.aload_n 2, 1) := by decide +kernel
theorem dL_law_2732 : decode cL_law 2732 = .ok (.invokevirtual 341, 3) := by decide +kernel
theorem dL_law_2735 : decode cL_law 2735 = .ok (.istore 7, 2) := by decide +kernel
theorem dL_law_2737 : decode cL_law 2737 = .ok (.aload_n 2, 1) := by decide +kernel
theorem dL_law_2738 : decode cL_law 2738 = .ok (.invokevirtual 167, 3) := by decide +kernel
theorem dL_law_2741 : decode cL_law 2741 = .ok (.iload 6, 2) := by decide +kernel
theorem dL_law_2743 : decode cL_law 2743 = .ok (.if_icmp .eq 5, 3) := by decide +kernel
theorem dL_law_2746 : decode cL_law 2746 = .ok (.iconst 0, 1) := by decide +kernel
theorem dL_law_2747 : decode cL_law 2747 = .ok (.ireturn, 1) := by decide +kernel
theorem dL_law_2748 : decode cL_law 2748 = .ok (.iload 6, 2) := by decide +kernel
theorem dL_law_2750 : decode cL_law 2750 = .ok (.ifCond .ne 15, 3) := by decide +kernel
theorem dL_law_2753 : decode cL_law 2753 = .ok (.aload_n 3, 1) := by decide +kernel
theorem dL_law_2754 : decode cL_law 2754 = .ok (.iconst 0, 1) := by decide +kernel
theorem dL_law_2755 : decode cL_law 2755 = .ok (.laload, 1) := by decide +kernel
theorem dL_law_2756 : decode cL_law 2756 = .ok (.iload 7, 2) := by decide +kernel
theorem dL_law_2758 : decode cL_law 2758 = .ok (.i2l, 1) := by decide +kernel
theorem dL_law_2759 : decode cL_law 2759 = .ok (.lcmp, 1) := by decide +kernel
theorem dL_law_2760 : decode cL_law 2760 = .ok (.ifCond .eq 5, 3) := by decide +kernel
theorem dL_law_2763 : decode cL_law 2763 = .ok (.iconst 0, 1) := by decide +kernel
theorem dL_law_2764 : decode cL_law 2764 = .ok (.ireturn, 1) := by decide +kernel
theorem dL_law_2765 : decode cL_law 2765 = .ok (.goto 60, 3) := by decide +kernel
theorem dL_law_2768 : decode cL_law 2768 = .ok (.aload_n 1, 1) := by decide +kernel
theorem dL_law_2769 : decode cL_law 2769 = .ok (.invokevirtual 342, 3) := by decide +kernel
theorem dL_law_2772 : decode cL_law 2772 = .ok (.aload_n 2, 1) := by decide +kernel
theorem dL_law_2773 : decode cL_law 2773 = .ok (.invokevirtual 345, 3) := by decide +kernel
theorem dL_law_2776 : decode cL_law 2776 = .ok (.if_icmp .eq 49, 3) := by decide +kernel
theorem dL_law_2779 : decode cL_law 2779 = .ok (.iconst 0, 1) := by decide +kernel
theorem dL_law_2780 : decode cL_law 2780 = .ok (.ireturn, 1) := by decide +kernel
theorem dL_law_2781 : decode cL_law 2781 = .ok (.aload_n 1, 1) := by decide +kernel
theorem dL_law_2782 : decode cL_law 2782 = .ok (.aload_n 3, 1) := by decide +kernel
theorem dL_law_2783 : decode cL_law 2783 = .ok (.invokestatic 346, 3) := by decide +kernel
theorem dL_law_2786 : decode cL_law 2786 = .ok (.istore 6, 2) := by decide +kernel
theorem dL_law_2788 : decode cL_law 2788 = .ok (.aload_n 2, 1) := by decide +kernel
theorem dL_law_2789 : decode cL_law 2789 = .ok (.invokevirtual 348, 3) := by decide +kernel
theorem dL_law_2792 : decode cL_law 2792 = .ok (.istore 7, 2) := by decide +kernel
theorem dL_law_2794 : decode cL_law 2794 = .ok (.aload_n 2, 1) := by decide +kernel
theorem dL_law_2795 : decode cL_law 2795 = .ok (.invokevirtual 167, 3) := by decide +kernel
theorem dL_law_2798 : decode cL_law 2798 = .ok (.iload 6, 2) := by decide +kernel
theorem dL_law_2800 : decode cL_law 2800 = .ok (.if_icmp .eq 5, 3) := by decide +kernel
theorem dL_law_2803 : decode cL_law 2803 = .ok (.iconst 0, 1) := by decide +kernel
theorem dL_law_2804 : decode cL_law 2804 = .ok (.ireturn, 1) := by decide +kernel
theorem dL_law_2805 : decode cL_law 2805 = .ok (.iload 6, 2) := by decide +kernel
theorem dL_law_2807 : decode cL_law 2807 = .ok (.ifCond .ne 15, 3) := by decide +kernel
theorem dL_law_2810 : decode cL_law 2810 = .ok (.aload_n 3, 1) := by decide +kernel
theorem dL_law_2811 : decode cL_law 2811 = .ok (.iconst 0, 1) := by decide +kernel
theorem dL_law_2812 : decode cL_law 2812 = .ok (.laload, 1) := by decide +kernel
theorem dL_law_2813 : decode cL_law 2813 = .ok (.iload 7, 2) := by decide +kernel
theorem dL_law_2815 : decode cL_law 2815 = .ok (.i2l, 1) := by decide +kernel
theorem dL_law_2816 : decode cL_law 2816 = .ok (.lcmp, 1) := by decide +kernel
theorem dL_law_2817 : decode cL_law 2817 = .ok (.ifCond .eq 5, 3) := by decide +kernel
theorem dL_law_2820 : decode cL_law 2820 = .ok (.iconst 0, 1) := by decide +kernel
theorem dL_law_2821 : decode cL_law 2821 = .ok (.ireturn, 1) := by decide +kernel
theorem dL_law_2822 : decode cL_law 2822 = .ok (.goto 3, 3) := by decide +kernel
theorem dL_law_2825 : decode cL_law 2825 = .ok (.iinc 5 5, 3) := by decide +kernel
theorem dL_law_2828 : decode cL_law 2828 = .ok (.goto (-2800), 3) := by decide +kernel
theorem dL_law_2831 : decode cL_law 2831 = .ok (.iconst 1, 1) := by decide +kernel
theorem dL_law_2832 : decode cL_law 2832 = .ok (.ireturn, 1) := by decide +kernel
