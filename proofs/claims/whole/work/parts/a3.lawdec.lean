theorem dL_law_2307 : decode cL_law 2307 = .ok (.aload_n 1, 1) := by decide +kernel
theorem dL_law_2308 : decode cL_law 2308 = .ok (.aload_n 0, 1) := by decide +kernel
theorem dL_law_2309 : decode cL_law 2309 = .ok (.iload 5, 2) := by decide +kernel
theorem dL_law_2311 : decode cL_law 2311 = .ok (.iconst 1, 1) := by decide +kernel
theorem dL_law_2312 : decode cL_law 2312 = .ok (.iadd, 1) := by decide +kernel
theorem dL_law_2313 : decode cL_law 2313 = .ok (.iaload, 1) := by decide +kernel
theorem dL_law_2314 : decode cL_law 2314 = .ok (.aload_n 3, 1) := by decide +kernel
theorem dL_law_2315 : decode cL_law 2315 = .ok (.invokestatic 265, 3) := by decide +kernel
theorem dL_law_2318 : decode cL_law 2318 = .ok (.istore 6, 2) := by decide +kernel
theorem dL_law_2320 : decode cL_law 2320 = .ok (.aload_n 2, 1) := by decide +kernel
theorem dL_law_2321 : decode cL_law 2321 = .ok (.aload_n 0, 1) := by decide +kernel
theorem dL_law_2322 : decode cL_law 2322 = .ok (.iload 5, 2) := by decide +kernel
theorem dL_law_2324 : decode cL_law 2324 = .ok (.iconst 1, 1) := by decide +kernel
theorem dL_law_2325 : decode cL_law 2325 = .ok (.iadd, 1) := by decide +kernel
theorem dL_law_2326 : decode cL_law 2326 = .ok (.iaload, 1) := by decide +kernel
theorem dL_law_2327 : decode cL_law 2327 = .ok (.invokevirtual 267, 3) := by decide +kernel
theorem dL_law_2330 : decode cL_law 2330 = .ok (.istore 7, 2) := by decide +kernel
theorem dL_law_2332 : decode cL_law 2332 = .ok (.aload_n 2, 1) := by decide +kernel
theorem dL_law_2333 : decode cL_law 2333 = .ok (.invokevirtual 172, 3) := by decide +kernel
theorem dL_law_2336 : decode cL_law 2336 = .ok (.iload 6, 2) := by decide +kernel
theorem dL_law_2338 : decode cL_law 2338 = .ok (.if_icmp .eq 5, 3) := by decide +kernel
theorem dL_law_2341 : decode cL_law 2341 = .ok (.iconst 0, 1) := by decide +kernel
theorem dL_law_2342 : decode cL_law 2342 = .ok (.ireturn, 1) := by decide +kernel
theorem dL_law_2343 : decode cL_law 2343 = .ok (.iload 6, 2) := by decide +kernel
theorem dL_law_2345 : decode cL_law 2345 = .ok (.ifCond .ne 15, 3) := by decide +kernel
theorem dL_law_2348 : decode cL_law 2348 = .ok (.aload_n 3, 1) := by decide +kernel
theorem dL_law_2349 : decode cL_law 2349 = .ok (.iconst 0, 1) := by decide +kernel
theorem dL_law_2350 : decode cL_law 2350 = .ok (.laload, 1) := by decide +kernel
theorem dL_law_2351 : decode cL_law 2351 = .ok (.iload 7, 2) := by decide +kernel
theorem dL_law_2353 : decode cL_law 2353 = .ok (.i2l, 1) := by decide +kernel
theorem dL_law_2354 : decode cL_law 2354 = .ok (.lcmp, 1) := by decide +kernel
theorem dL_law_2355 : decode cL_law 2355 = .ok (.ifCond .eq 5, 3) := by decide +kernel
theorem dL_law_2358 : decode cL_law 2358 = .ok (.iconst 0, 1) := by decide +kernel
theorem dL_law_2359 : decode cL_law 2359 = .ok (.ireturn, 1) := by decide +kernel
theorem dL_law_2360 : decode cL_law 2360 = .ok (.goto 786, 3) := by decide +kernel
theorem dL_law_2363 : decode cL_law 2363 = .ok (.aload_n 1, 1) := by decide +kernel
theorem dL_law_2364 : decode cL_law 2364 = .ok (.aload_n 0, 1) := by decide +kernel
theorem dL_law_2365 : decode cL_law 2365 = .ok (.iload 5, 2) := by decide +kernel
theorem dL_law_2367 : decode cL_law 2367 = .ok (.iconst 1, 1) := by decide +kernel
theorem dL_law_2368 : decode cL_law 2368 = .ok (.iadd, 1) := by decide +kernel
theorem dL_law_2369 : decode cL_law 2369 = .ok (.iaload, 1) := by decide +kernel
theorem dL_law_2370 : decode cL_law 2370 = .ok (.aload_n 0, 1) := by decide +kernel
theorem dL_law_2371 : decode cL_law 2371 = .ok (.iload 5, 2) := by decide +kernel
theorem dL_law_2373 : decode cL_law 2373 = .ok (.iconst 2, 1) := by decide +kernel
theorem dL_law_2374 : decode cL_law 2374 = .ok (.iadd, 1) := by decide +kernel
theorem dL_law_2375 : decode cL_law 2375 = .ok (.iaload, 1) := by decide +kernel
theorem dL_law_2376 : decode cL_law 2376 = .ok (.aload_n 3, 1) := by decide +kernel
theorem dL_law_2377 : decode cL_law 2377 = .ok (.invokestatic 268, 3) := by decide +kernel
theorem dL_law_2380 : decode cL_law 2380 = .ok (.istore 6, 2) := by decide +kernel
theorem dL_law_2382 : decode cL_law 2382 = .ok (.aload_n 2, 1) := by decide +kernel
theorem dL_law_2383 : decode cL_law 2383 = .ok (.aload_n 0, 1) := by decide +kernel
theorem dL_law_2384 : decode cL_law 2384 = .ok (.iload 5, 2) := by decide +kernel
theorem dL_law_2386 : decode cL_law 2386 = .ok (.iconst 1, 1) := by decide +kernel
theorem dL_law_2387 : decode cL_law 2387 = .ok (.iadd, 1) := by decide +kernel
theorem dL_law_2388 : decode cL_law 2388 = .ok (.iaload, 1) := by decide +kernel
theorem dL_law_2389 : decode cL_law 2389 = .ok (.aload_n 0, 1) := by decide +kernel
theorem dL_law_2390 : decode cL_law 2390 = .ok (.iload 5, 2) := by decide +kernel
theorem dL_law_2392 : decode cL_law 2392 = .ok (.iconst 2, 1) := by decide +kernel
theorem dL_law_2393 : decode cL_law 2393 = .ok (.iadd, 1) := by decide +kernel
theorem dL_law_2394 : decode cL_law 2394 = .ok (.iaload, 1) := by decide +kernel
theorem dL_law_2395 : decode cL_law 2395 = .ok (.invokevirtual 270, 3) := by decide +kernel
theorem dL_law_2398 : decode cL_law 2398 = .ok (.istore 7, 2) := by decide +kernel
theorem dL_law_2400 : decode cL_law 2400 = .ok (.aload_n 2, 1) := by decide +kernel
theorem dL_law_2401 : decode cL_law 2401 = .ok (.invokevirtual 172, 3) := by decide +kernel
theorem dL_law_2404 : decode cL_law 2404 = .ok (.iload 6, 2) := by decide +kernel
theorem dL_law_2406 : decode cL_law 2406 = .ok (.if_icmp .eq 5, 3) := by decide +kernel
theorem dL_law_2409 : decode cL_law 2409 = .ok (.iconst 0, 1) := by decide +kernel
theorem dL_law_2410 : decode cL_law 2410 = .ok (.ireturn, 1) := by decide +kernel
theorem dL_law_2411 : decode cL_law 2411 = .ok (.iload 6, 2) := by decide +kernel
theorem dL_law_2413 : decode cL_law 2413 = .ok (.ifCond .ne 15, 3) := by decide +kernel
theorem dL_law_2416 : decode cL_law 2416 = .ok (.aload_n 3, 1) := by decide +kernel
theorem dL_law_2417 : decode cL_law 2417 = .ok (.iconst 0, 1) := by decide +kernel
theorem dL_law_2418 : decode cL_law 2418 = .ok (.laload, 1) := by decide +kernel
theorem dL_law_2419 : decode cL_law 2419 = .ok (.iload 7, 2) := by decide +kernel
theorem dL_law_2421 : decode cL_law 2421 = .ok (.i2l, 1) := by decide +kernel
theorem dL_law_2422 : decode cL_law 2422 = .ok (.lcmp, 1) := by decide +kernel
theorem dL_law_2423 : decode cL_law 2423 = .ok (.ifCond .eq 5, 3) := by decide +kernel
theorem dL_law_2426 : decode cL_law 2426 = .ok (.iconst 0, 1) := by decide +kernel
theorem dL_law_2427 : decode cL_law 2427 = .ok (.ireturn, 1) := by decide +kernel
theorem dL_law_2428 : decode cL_law 2428 = .ok (.goto 718, 3) := by decide +kernel
theorem dL_law_2431 : decode cL_law 2431 = .ok (.aload_n 1, 1) := by decide +kernel
theorem dL_law_2432 : decode cL_law 2432 = .ok (.invokevirtual 271, 3) := by decide +kernel
theorem dL_law_2435 : decode cL_law 2435 = .ok (.aload_n 2, 1) := by decide +kernel
theorem dL_law_2436 : decode cL_law 2436 = .ok (.invokevirtual 274, 3) := by decide +kernel
theorem dL_law_2439 : decode cL_law 2439 = .ok (.if_icmp .eq 707, 3) := by decide +kernel
theorem dL_law_2442 : decode cL_law 2442 = .ok (.iconst 0, 1) := by decide +kernel
theorem dL_law_2443 : decode cL_law 2443 = .ok (.ireturn, 1) := by decide +kernel
theorem dL_law_2444 : decode cL_law 2444 = .ok (.aload_n 1, 1) := by decide +kernel
theorem dL_law_2445 : decode cL_law 2445 = .ok (.aload_n 0, 1) := by decide +kernel
theorem dL_law_2446 : decode cL_law 2446 = .ok (.iload 5, 2) := by decide +kernel
theorem dL_law_2448 : decode cL_law 2448 = .ok (.iconst 1, 1) := by decide +kernel
theorem dL_law_2449 : decode cL_law 2449 = .ok (.iadd, 1) := by decide +kernel
theorem dL_law_2450 : decode cL_law 2450 = .ok (.iaload, 1) := by decide +kernel
theorem dL_law_2451 : decode cL_law 2451 = .ok (.aload_n 3, 1) := by decide +kernel
theorem dL_law_2452 : decode cL_law 2452 = .ok (.invokestatic 275, 3) := by decide +kernel
theorem dL_law_2455 : decode cL_law 2455 = .ok (.istore 6, 2) := by decide +kernel
theorem dL_law_2457 : decode cL_law 2457 = .ok (.aload_n 2, 1) := by decide +kernel
theorem dL_law_2458 : decode cL_law 2458 = .ok (.aload_n 0, 1) := by decide +kernel
theorem dL_law_2459 : decode cL_law 2459 = .ok (.iload 5, 2) := by decide +kernel
theorem dL_law_2461 : decode cL_law 2461 = .ok (.iconst 1, 1) := by decide +kernel
theorem dL_law_2462 : decode cL_law 2462 = .ok (.iadd, 1) := by decide +kernel
theorem dL_law_2463 : decode cL_law 2463 = .ok (.iaload, 1) := by decide +kernel
theorem dL_law_2464 : decode cL_law 2464 = .ok (.invokevirtual 277, 3) := by decide +kernel
theorem dL_law_2467 : decode cL_law 2467 = .ok (.istore 7, 2) := by decide +kernel
theorem dL_law_2469 : decode cL_law 2469 = .ok (.aload_n 2, 1) := by decide +kernel
theorem dL_law_2470 : decode cL_law 2470 = .ok (.invokevirtual 172, 3) := by decide +kernel
theorem dL_law_2473 : decode cL_law 2473 = .ok (.iload 6, 2) := by decide +kernel
theorem dL_law_2475 : decode cL_law 2475 = .ok (.if_icmp .eq 5, 3) := by decide +kernel
theorem dL_law_2478 : decode cL_law 2478 = .ok (.iconst 0, 1) := by decide +kernel
theorem dL_law_2479 : decode cL_law 2479 = .ok (.ireturn, 1) := by decide +kernel
theorem dL_law_2480 : decode cL_law 2480 = .ok (.iload 6, 2) := by decide +kernel
theorem dL_law_2482 : decode cL_law 2482 = .ok (.ifCond .ne 15, 3) := by decide +kernel
theorem dL_law_2485 : decode cL_law 2485 = .ok (.aload_n 3, 1) := by decide +kernel
theorem dL_law_2486 : decode cL_law 2486 = .ok (.iconst 0, 1) := by decide +kernel
theorem dL_law_2487 : decode cL_law 2487 = .ok (.laload, 1) := by decide +kernel
theorem dL_law_2488 : decode cL_law 2488 = .ok (.iload 7, 2) := by decide +kernel
theorem dL_law_2490 : decode cL_law 2490 = .ok (.i2l, 1) := by decide +kernel
theorem dL_law_2491 : decode cL_law 2491 = .ok (.lcmp, 1) := by decide +kernel
theorem dL_law_2492 : decode cL_law 2492 = .ok (.ifCond .eq 5, 3) := by decide +kernel
theorem dL_law_2495 : decode cL_law 2495 = .ok (.iconst 0, 1) := by decide +kernel
theorem dL_law_2496 : decode cL_law 2496 = .ok (.ireturn, 1) := by decide +kernel
theorem dL_law_2497 : decode cL_law 2497 = .ok (.goto 649, 3) := by decide +kernel
theorem dL_law_2500 : decode cL_law 2500 = .ok (.aload_n 1, 1) := by decide +kernel
theorem dL_law_2501 : decode cL_law 2501 = .ok (.aload_n 0, 1) := by decide +kernel
theorem dL_law_2502 : decode cL_law 2502 = .ok (.iload 5, 2) := by decide +kernel
theorem dL_law_2504 : decode cL_law 2504 = .ok (.iconst 1, 1) := by decide +kernel
theorem dL_law_2505 : decode cL_law 2505 = .ok (.iadd, 1) := by decide +kernel
theorem dL_law_2506 : decode cL_law 2506 = .ok (.iaload, 1) := by decide +kernel
theorem dL_law_2507 : decode cL_law 2507 = .ok (.aload_n 3, 1) := by decide +kernel
theorem dL_law_2508 : decode cL_law 2508 = .ok (.invokestatic 278, 3) := by decide +kernel
theorem dL_law_2511 : decode cL_law 2511 = .ok (.istore 6, 2) := by decide +kernel
theorem dL_law_2513 : decode cL_law 2513 = .ok (.aload_n 2, 1) := by decide +kernel
theorem dL_law_2514 : decode cL_law 2514 = .ok (.aload_n 0, 1) := by decide +kernel
theorem dL_law_2515 : decode cL_law 2515 = .ok (.iload 5, 2) := by decide +kernel
theorem dL_law_2517 : decode cL_law 2517 = .ok (.iconst 1, 1) := by decide +kernel
theorem dL_law_2518 : decode cL_law 2518 = .ok (.iadd, 1) := by decide +kernel
theorem dL_law_2519 : decode cL_law 2519 = .ok (.iaload, 1) := by decide +kernel
theorem dL_law_2520 : decode cL_law 2520 = .ok (.invokevirtual 280, 3) := by decide +kernel
theorem dL_law_2523 : decode cL_law 2523 = .ok (.istore 7, 2) := by decide +kernel
theorem dL_law_2525 : decode cL_law 2525 = .ok (.aload_n 2, 1) := by decide +kernel
theorem dL_law_2526 : decode cL_law 2526 = .ok (.invokevirtual 172, 3) := by decide +kernel
theorem dL_law_2529 : decode cL_law 2529 = .ok (.iload 6, 2) := by decide +kernel
theorem dL_law_2531 : decode cL_law 2531 = .ok (.if_icmp .eq 5, 3) := by decide +kernel
theorem dL_law_2534 : decode cL_law 2534 = .ok (.iconst 0, 1) := by decide +kernel
theorem dL_law_2535 : decode cL_law 2535 = .ok (.ireturn, 1) := by decide +kernel
theorem dL_law_2536 : decode cL_law 2536 = .ok (.iload 6, 2) := by decide +kernel
theorem dL_law_2538 : decode cL_law 2538 = .ok (.ifCond .ne 15, 3) := by decide +kernel
theorem dL_law_2541 : decode cL_law 2541 = .ok (.aload_n 3, 1) := by decide +kernel
theorem dL_law_2542 : decode cL_law 2542 = .ok (.iconst 0, 1) := by decide +kernel
theorem dL_law_2543 : decode cL_law 2543 = .ok (.laload, 1) := by decide +kernel
theorem dL_law_2544 : decode cL_law 2544 = .ok (.iload 7, 2) := by decide +kernel
theorem dL_law_2546 : decode cL_law 2546 = .ok (.i2l, 1) := by decide +kernel
theorem dL_law_2547 : decode cL_law 2547 = .ok (.lcmp, 1) := by decide +kernel
theorem dL_law_2548 : decode cL_law 2548 = .ok (.ifCond .eq 5, 3) := by decide +kernel
theorem dL_law_2551 : decode cL_law 2551 = .ok (.iconst 0, 1) := by decide +kernel
theorem dL_law_2552 : decode cL_law 2552 = .ok (.ireturn, 1) := by decide +kernel
theorem dL_law_2553 : decode cL_law 2553 = .ok (.goto 593, 3) := by decide +kernel
theorem dL_law_2556 : decode cL_law 2556 = .ok (.aload_n 1, 1) := by decide +kernel
theorem dL_law_2557 : decode cL_law 2557 = .ok (.aload_n 0, 1) := by decide +kernel
theorem dL_law_2558 : decode cL_law 2558 = .ok (.iload 5, 2) := by decide +kernel
theorem dL_law_2560 : decode cL_law 2560 = .ok (.iconst 1, 1) := by decide +kernel
theorem dL_law_2561 : decode cL_law 2561 = .ok (.iadd, 1) := by decide +kernel
theorem dL_law_2562 : decode cL_law 2562 = .ok (.iaload, 1) := by decide +kernel
theorem dL_law_2563 : decode cL_law 2563 = .ok (.aload_n 3, 1) := by decide +kernel
theorem dL_law_2564 : decode cL_law 2564 = .ok (.invokestatic 281, 3) := by decide +kernel
theorem dL_law_2567 : decode cL_law 2567 = .ok (.istore 6, 2) := by decide +kernel
theorem dL_law_2569 : decode cL_law 2569 = .ok (.aload_n 2, 1) := by decide +kernel
theorem dL_law_2570 : decode cL_law 2570 = .ok (.aload_n 0, 1) := by decide +kernel
theorem dL_law_2571 : decode cL_law 2571 = .ok (.iload 5, 2) := by decide +kernel
theorem dL_law_2573 : decode cL_law 2573 = .ok (.iconst 1, 1) := by decide +kernel
theorem dL_law_2574 : decode cL_law 2574 = .ok (.iadd, 1) := by decide +kernel
theorem dL_law_2575 : decode cL_law 2575 = .ok (.iaload, 1) := by decide +kernel
theorem dL_law_2576 : decode cL_law 2576 = .ok (.invokevirtual 283, 3) := by decide +kernel
theorem dL_law_2579 : decode cL_law 2579 = .ok (.istore 7, 2) := by decide +kernel
theorem dL_law_2581 : decode cL_law 2581 = .ok (.aload_n 2, 1) := by decide +kernel
theorem dL_law_2582 : decode cL_law 2582 = .ok (.invokevirtual 172, 3) := by decide +kernel
theorem dL_law_2585 : decode cL_law 2585 = .ok (.iload 6, 2) := by decide +kernel
theorem dL_law_2587 : decode cL_law 2587 = .ok (.if_icmp .eq 5, 3) := by decide +kernel
theorem dL_law_2590 : decode cL_law 2590 = .ok (.iconst 0, 1) := by decide +kernel
theorem dL_law_2591 : decode cL_law 2591 = .ok (.ireturn, 1) := by decide +kernel
theorem dL_law_2592 : decode cL_law 2592 = .ok (.iload 6, 2) := by decide +kernel
theorem dL_law_2594 : decode cL_law 2594 = .ok (.ifCond .ne 15, 3) := by decide +kernel
theorem dL_law_2597 : decode cL_law 2597 = .ok (.aload_n 3, 1) := by decide +kernel
theorem dL_law_2598 : decode cL_law 2598 = .ok (.iconst 0, 1) := by decide +kernel
theorem dL_law_2599 : decode cL_law 2599 = .ok (.laload, 1) := by decide +kernel
theorem dL_law_2600 : decode cL_law 2600 = .ok (.iload 7, 2) := by decide +kernel
theorem dL_law_2602 : decode cL_law 2602 = .ok (.i2l, 1) := by decide +kernel
theorem dL_law_2603 : decode cL_law 2603 = .ok (.lcmp, 1) := by decide +kernel
theorem dL_law_2604 : decode cL_law 2604 = .ok (.ifCond .eq 5, 3) := by decide +kernel
theorem dL_law_2607 : decode cL_law 2607 = .ok (.iconst 0, 1) := by decide +kernel
theorem dL_law_2608 : decode cL_law 2608 = .ok (.ireturn, 1) := by decide +kernel
theorem dL_law_2609 : decode cL_law 2609 = .ok (.goto 537, 3) := by decide +kernel
theorem dL_law_2612 : decode cL_law 2612 = .ok (.aload_n 1, 1) := by decide +kernel
theorem dL_law_2613 : decode cL_law 2613 = .ok (.aload_n 0, 1) := by decide +kernel
theorem dL_law_2614 : decode cL_law 2614 = .ok (.iload 5, 2) := by decide +kernel
theorem dL_law_2616 : decode cL_law 2616 = .ok (.iconst 1, 1) := by decide +kernel
theorem dL_law_2617 : decode cL_law 2617 = .ok (.iadd, 1) := by decide +kernel
theorem dL_law_2618 : decode cL_law 2618 = .ok (.iaload, 1) := by decide +kernel
theorem dL_law_2619 : decode cL_law 2619 = .ok (.aload_n 3, 1) := by decide +kernel
theorem dL_law_2620 : decode cL_law 2620 = .ok (.invokestatic 284, 3) := by decide +kernel
theorem dL_law_2623 : decode cL_law 2623 = .ok (.istore 6, 2) := by decide +kernel
theorem dL_law_2625 : decode cL_law 2625 = .ok (.aload_n 2, 1) := by decide +kernel
theorem dL_law_2626 : decode cL_law 2626 = .ok (.aload_n 0, 1) := by decide +kernel
theorem dL_law_2627 : decode cL_law 2627 = .ok (.iload 5, 2) := by decide +kernel
theorem dL_law_2629 : decode cL_law 2629 = .ok (.iconst 1, 1) := by decide +kernel
theorem dL_law_2630 : decode cL_law 2630 = .ok (.iadd, 1) := by decide +kernel
theorem dL_law_2631 : decode cL_law 2631 = .ok (.iaload, 1) := by decide +kernel
theorem dL_law_2632 : decode cL_law 2632 = .ok (.invokevirtual 286, 3) := by decide +kernel
theorem dL_law_2635 : decode cL_law 2635 = .ok (.istore 7, 2) := by decide +kernel
theorem dL_law_2637 : decode cL_law 2637 = .ok (.aload_n 2, 1) := by decide +kernel
theorem dL_law_2638 : decode cL_law 2638 = .ok (.invokevirtual 172, 3) := by decide +kernel
theorem dL_law_2641 : decode cL_law 2641 = .ok (.iload 6, 2) := by decide +kernel
theorem dL_law_2643 : decode cL_law 2643 = .ok (.if_icmp .eq 5, 3) := by decide +kernel
theorem dL_law_2646 : decode cL_law 2646 = .ok (.iconst 0, 1) := by decide +kernel
theorem dL_law_2647 : decode cL_law 2647 = .ok (.ireturn, 1) := by decide +kernel
theorem dL_law_2648 : decode cL_law 2648 = .ok (.iload 6, 2) := by decide +kernel
theorem dL_law_2650 : decode cL_law 2650 = .ok (.ifCond .ne 15, 3) := by decide +kernel
theorem dL_law_2653 : decode cL_law 2653 = .ok (.aload_n 3, 1) := by decide +kernel
theorem dL_law_2654 : decode cL_law 2654 = .ok (.iconst 0, 1) := by decide +kernel
theorem dL_law_2655 : decode cL_law 2655 = .ok (.laload, 1) := by decide +kernel
theorem dL_law_2656 : decode cL_law 2656 = .ok (.iload 7, 2) := by decide +kernel
theorem dL_law_2658 : decode cL_law 2658 = .ok (.i2l, 1) := by decide +kernel
theorem dL_law_2659 : decode cL_law 2659 = .ok (.lcmp, 1) := by decide +kernel
theorem dL_law_2660 : decode cL_law 2660 = .ok (.ifCond .eq 5, 3) := by decide +kernel
theorem dL_law_2663 : decode cL_law 2663 = .ok (.iconst 0, 1) := by decide +kernel
theorem dL_law_2664 : decode cL_law 2664 = .ok (.ireturn, 1) := by decide +kernel
theorem dL_law_2665 : decode cL_law 2665 = .ok (.goto 481, 3) := by decide +kernel
theorem dL_law_2668 : decode cL_law 2668 = .ok (.aload_n 1, 1) := by decide +kernel
theorem dL_law_2669 : decode cL_law 2669 = .ok (.aload_n 0, 1) := by decide +kernel
theorem dL_law_2670 : decode cL_law 2670 = .ok (.iload 5, 2) := by decide +kernel
theorem dL_law_2672 : decode cL_law 2672 = .ok (.iconst 1, 1) := by decide +kernel
theorem dL_law_2673 : decode cL_law 2673 = .ok (.iadd, 1) := by decide +kernel
theorem dL_law_2674 : decode cL_law 2674 = .ok (.iaload, 1) := by decide +kernel
theorem dL_law_2675 : decode cL_law 2675 = .ok (.aload_n 3, 1) := by decide +kernel
theorem dL_law_2676 : decode cL_law 2676 = .ok (.invokestatic 287, 3) := by decide +kernel
theorem dL_law_2679 : decode cL_law 2679 = .ok (.istore 6, 2) := by decide +kernel
theorem dL_law_2681 : decode cL_law 2681 = .ok (.aload_n 2, 1) := by decide +kernel
theorem dL_law_2682 : decode cL_law 2682 = .ok (.aload_n 0, 1) := by decide +kernel
theorem dL_law_2683 : decode cL_law 2683 = .ok (.iload 5, 2) := by decide +kernel
theorem dL_law_2685 : decode cL_law 2685 = .ok (.iconst 1, 1) := by decide +kernel
theorem dL_law_2686 : decode cL_law 2686 = .ok (.iadd, 1) := by decide +kernel
theorem dL_law_2687 : decode cL_law 2687 = .ok (.iaload, 1) := by decide +kernel
theorem dL_law_2688 : decode cL_law 2688 = .ok (.invokevirtual 289, 3) := by decide +kernel
theorem dL_law_2691 : decode cL_law 2691 = .ok (.istore 7, 2) := by decide +kernel
theorem dL_law_2693 : decode cL_law 2693 = .ok (.aload_n 2, 1) := by decide +kernel
theorem dL_law_2694 : decode cL_law 2694 = .ok (.invokevirtual 172, 3) := by decide +kernel
theorem dL_law_2697 : decode cL_law 2697 = .ok (.iload 6, 2) := by decide +kernel
theorem dL_law_2699 : decode cL_law 2699 = .ok (.if_icmp .eq 5, 3) := by decide +kernel
theorem dL_law_2702 : decode cL_law 2702 = .ok (.iconst 0, 1) := by decide +kernel
theorem dL_law_2703 : decode cL_law 2703 = .ok (.ireturn, 1) := by decide +kernel
theorem dL_law_2704 : decode cL_law 2704 = .ok (.iload 6, 2) := by decide +kernel
theorem dL_law_2706 : decode cL_law 2706 = .ok (.ifCond .ne 15, 3) := by decide +kernel
theorem dL_law_2709 : decode cL_law 2709 = .ok (.aload_n 3, 1) := by decide +kernel
theorem dL_law_2710 : decode cL_law 2710 = .ok (.iconst 0, 1) := by decide +kernel
theorem dL_law_2711 : decode cL_law 2711 = .ok (.laload, 1) := by decide +kernel
theorem dL_law_2712 : decode cL_law 2712 = .ok (.iload 7, 2) := by decide +kernel
theorem dL_law_2714 : decode cL_law 2714 = .ok (.i2l, 1) := by decide +kernel
theorem dL_law_2715 : decode cL_law 2715 = .ok (.lcmp, 1) := by decide +kernel
theorem dL_law_2716 : decode cL_law 2716 = .ok (.ifCond .eq 5, 3) := by decide +kernel
theorem dL_law_2719 : decode cL_law 2719 = .ok (.iconst 0, 1) := by decide +kernel
theorem dL_law_2720 : decode cL_law 2720 = .ok (.ireturn, 1) := by decide +kernel
theorem dL_law_2721 : decode cL_law 2721 = .ok (.goto 425, 3) := by decide +kernel
theorem dL_law_2724 : decode cL_law 2724 = .ok (.aload_n 1, 1) := by decide +kernel
theorem dL_law_2725 : decode cL_law 2725 = .ok (.aload_n 0, 1) := by decide +kernel
theorem dL_law_2726 : decode cL_law 2726 = .ok (.iload 5, 2) := by decide +kernel
theorem dL_law_2728 : decode cL_law 2728 = .ok (.iconst 1, 1) := by decide +kernel
theorem dL_law_2729 : decode cL_law 2729 = .ok (.iadd, 1) := by decide +kernel
theorem dL_law_2730 : decode cL_law 2730 = .ok (.iaload, 1) := by decide +kernel
theorem dL_law_2731 : decode cL_law 2731 = .ok (.aload_n 3, 1) := by decide +kernel
theorem dL_law_2732 : decode cL_law 2732 = .ok (.invokestatic 290, 3) := by decide +kernel
theorem dL_law_2735 : decode cL_law 2735 = .ok (.istore 6, 2) := by decide +kernel
theorem dL_law_2737 : decode cL_law 2737 = .ok (.aload_n 2, 1) := by decide +kernel
theorem dL_law_2738 : decode cL_law 2738 = .ok (.aload_n 0, 1) := by decide +kernel
theorem dL_law_2739 : decode cL_law 2739 = .ok (.iload 5, 2) := by decide +kernel
theorem dL_law_2741 : decode cL_law 2741 = .ok (.iconst 1, 1) := by decide +kernel
theorem dL_law_2742 : decode cL_law 2742 = .ok (.iadd, 1) := by decide +kernel
theorem dL_law_2743 : decode cL_law 2743 = .ok (.iaload, 1) := by decide +kernel
theorem dL_law_2744 : decode cL_law 2744 = .ok (.invokevirtual 292, 3) := by decide +kernel
theorem dL_law_2747 : decode cL_law 2747 = .ok (.istore 7, 2) := by decide +kernel
theorem dL_law_2749 : decode cL_law 2749 = .ok (.aload_n 2, 1) := by decide +kernel
theorem dL_law_2750 : decode cL_law 2750 = .ok (.invokevirtual 172, 3) := by decide +kernel
theorem dL_law_2753 : decode cL_law 2753 = .ok (.iload 6, 2) := by decide +kernel
theorem dL_law_2755 : decode cL_law 2755 = .ok (.if_icmp .eq 5, 3) := by decide +kernel
theorem dL_law_2758 : decode cL_law 2758 = .ok (.iconst 0, 1) := by decide +kernel
theorem dL_law_2759 : decode cL_law 2759 = .ok (.ireturn, 1) := by decide +kernel
theorem dL_law_2760 : decode cL_law 2760 = .ok (.iload 6, 2) := by decide +kernel
theorem dL_law_2762 : decode cL_law 2762 = .ok (.ifCond .ne 15, 3) := by decide +kernel
theorem dL_law_2765 : decode cL_law 2765 = .ok (.aload_n 3, 1) := by decide +kernel
theorem dL_law_2766 : decode cL_law 2766 = .ok (.iconst 0, 1) := by decide +kernel
theorem dL_law_2767 : decode cL_law 2767 = .ok (.laload, 1) := by decide +kernel
theorem dL_law_2768 : decode cL_law 2768 = .ok (.iload 7, 2) := by decide +kernel
theorem dL_law_2770 : decode cL_law 2770 = .ok (.i2l, 1) := by decide +kernel
theorem dL_law_2771 : decode cL_law 2771 = .ok (.lcmp, 1) := by decide +kernel
theorem dL_law_2772 : decode cL_law 2772 = .ok (.ifCond .eq 5, 3) := by decide +kernel
theorem dL_law_2775 : decode cL_law 2775 = .ok (.iconst 0, 1) := by decide +kernel
theorem dL_law_2776 : decode cL_law 2776 = .ok (.ireturn, 1) := by decide +kernel
theorem dL_law_2777 : decode cL_law 2777 = .ok (.goto 369, 3) := by decide +kernel
theorem dL_law_2780 : decode cL_law 2780 = .ok (.aload_n 1, 1) := by decide +kernel
theorem dL_law_2781 : decode cL_law 2781 = .ok (.aload_n 0, 1) := by decide +kernel
theorem dL_law_2782 : decode cL_law 2782 = .ok (.iload 5, 2) := by decide +kernel
theorem dL_law_2784 : decode cL_law 2784 = .ok (.iconst 1, 1) := by decide +kernel
theorem dL_law_2785 : decode cL_law 2785 = .ok (.iadd, 1) := by decide +kernel
theorem dL_law_2786 : decode cL_law 2786 = .ok (.iaload, 1) := by decide +kernel
theorem dL_law_2787 : decode cL_law 2787 = .ok (.aload_n 3, 1) := by decide +kernel
theorem dL_law_2788 : decode cL_law 2788 = .ok (.invokestatic 293, 3) := by decide +kernel
theorem dL_law_2791 : decode cL_law 2791 = .ok (.istore 6, 2) := by decide +kernel
theorem dL_law_2793 : decode cL_law 2793 = .ok (.aload_n 2, 1) := by decide +kernel
theorem dL_law_2794 : decode cL_law 2794 = .ok (.aload_n 0, 1) := by decide +kernel
theorem dL_law_2795 : decode cL_law 2795 = .ok (.iload 5, 2) := by decide +kernel
theorem dL_law_2797 : decode cL_law 2797 = .ok (.iconst 1, 1) := by decide +kernel
theorem dL_law_2798 : decode cL_law 2798 = .ok (.iadd, 1) := by decide +kernel
theorem dL_law_2799 : decode cL_law 2799 = .ok (.iaload, 1) := by decide +kernel
theorem dL_law_2800 : decode cL_law 2800 = .ok (.invokevirtual 295, 3) := by decide +kernel
theorem dL_law_2803 : decode cL_law 2803 = .ok (.lstore 7, 2) := by decide +kernel
theorem dL_law_2805 : decode cL_law 2805 = .ok (.aload_n 2, 1) := by decide +kernel
theorem dL_law_2806 : decode cL_law 2806 = .ok (.invokevirtual 172, 3) := by decide +kernel
theorem dL_law_2809 : decode cL_law 2809 = .ok (.iload 6, 2) := by decide +kernel
theorem dL_law_2811 : decode cL_law 2811 = .ok (.if_icmp .eq 5, 3) := by decide +kernel
theorem dL_law_2814 : decode cL_law 2814 = .ok (.iconst 0, 1) := by decide +kernel
theorem dL_law_2815 : decode cL_law 2815 = .ok (.ireturn, 1) := by decide +kernel
theorem dL_law_2816 : decode cL_law 2816 = .ok (.iload 6, 2) := by decide +kernel
theorem dL_law_2818 : decode cL_law 2818 = .ok (.ifCond .ne 14, 3) := by decide +kernel
theorem dL_law_2821 : decode cL_law 2821 = .ok (.aload_n 3, 1) := by decide +kernel
theorem dL_law_2822 : decode cL_law 2822 = .ok (.iconst 0, 1) := by decide +kernel
theorem dL_law_2823 : decode cL_law 2823 = .ok (.laload, 1) := by decide +kernel
theorem dL_law_2824 : decode cL_law 2824 = .ok (.lload 7, 2) := by decide +kernel
theorem dL_law_2826 : decode cL_law 2826 = .ok (.lcmp, 1) := by decide +kernel
theorem dL_law_2827 : decode cL_law 2827 = .ok (.ifCond .eq 5, 3) := by decide +kernel
theorem dL_law_2830 : decode cL_law 2830 = .ok (.iconst 0, 1) := by decide +kernel
theorem dL_law_2831 : decode cL_law 2831 = .ok (.ireturn, 1) := by decide +kernel
theorem dL_law_2832 : decode cL_law 2832 = .ok (.goto 314, 3) := by decide +kernel
theorem dL_law_2835 : decode cL_law 2835 = .ok (.aload_n 1, 1) := by decide +kernel
theorem dL_law_2836 : decode cL_law 2836 = .ok (.aload_n 0, 1) := by decide +kernel
theorem dL_law_2837 : decode cL_law 2837 = .ok (.iload 5, 2) := by decide +kernel
theorem dL_law_2839 : decode cL_law 2839 = .ok (.iconst 1, 1) := by decide +kernel
theorem dL_law_2840 : decode cL_law 2840 = .ok (.iadd, 1) := by decide +kernel
theorem dL_law_2841 : decode cL_law 2841 = .ok (.iaload, 1) := by decide +kernel
theorem dL_law_2842 : decode cL_law 2842 = .ok (.aload_n 3, 1) := by decide +kernel
theorem dL_law_2843 : decode cL_law 2843 = .ok (.invokestatic 296, 3) := by decide +kernel
theorem dL_law_2846 : decode cL_law 2846 = .ok (.istore 6, 2) := by decide +kernel
theorem dL_law_2848 : decode cL_law 2848 = .ok (.aload_n 2, 1) := by decide +kernel
theorem dL_law_2849 : decode cL_law 2849 = .ok (.aload_n 0, 1) := by decide +kernel
theorem dL_law_2850 : decode cL_law 2850 = .ok (.iload 5, 2) := by decide +kernel
theorem dL_law_2852 : decode cL_law 2852 = .ok (.iconst 1, 1) := by decide +kernel
theorem dL_law_2853 : decode cL_law 2853 = .ok (.iadd, 1) := by decide +kernel
theorem dL_law_2854 : decode cL_law 2854 = .ok (.iaload, 1) := by decide +kernel
theorem dL_law_2855 : decode cL_law 2855 = .ok (.invokevirtual 298, 3) := by decide +kernel
theorem dL_law_2858 : decode cL_law 2858 = .ok (.lstore 7, 2) := by decide +kernel
theorem dL_law_2860 : decode cL_law 2860 = .ok (.aload_n 2, 1) := by decide +kernel
theorem dL_law_2861 : decode cL_law 2861 = .ok (.invokevirtual 172, 3) := by decide +kernel
theorem dL_law_2864 : decode cL_law 2864 = .ok (.iload 6, 2) := by decide +kernel
theorem dL_law_2866 : decode cL_law 2866 = .ok (.if_icmp .eq 5, 3) := by decide +kernel
theorem dL_law_2869 : decode cL_law 2869 = .ok (.iconst 0, 1) := by decide +kernel
theorem dL_law_2870 : decode cL_law 2870 = .ok (.ireturn, 1) := by decide +kernel
theorem dL_law_2871 : decode cL_law 2871 = .ok (.iload 6, 2) := by decide +kernel
theorem dL_law_2873 : decode cL_law 2873 = .ok (.ifCond .ne 14, 3) := by decide +kernel
theorem dL_law_2876 : decode cL_law 2876 = .ok (.aload_n 3, 1) := by decide +kernel
theorem dL_law_2877 : decode cL_law 2877 = .ok (.iconst 0, 1) := by decide +kernel
theorem dL_law_2878 : decode cL_law 2878 = .ok (.laload, 1) := by decide +kernel
theorem dL_law_2879 : decode cL_law 2879 = .ok (.lload 7, 2) := by decide +kernel
theorem dL_law_2881 : decode cL_law 2881 = .ok (.lcmp, 1) := by decide +kernel
theorem dL_law_2882 : decode cL_law 2882 = .ok (.ifCond .eq 5, 3) := by decide +kernel
theorem dL_law_2885 : decode cL_law 2885 = .ok (.iconst 0, 1) := by decide +kernel
theorem dL_law_2886 : decode cL_law 2886 = .ok (.ireturn, 1) := by decide +kernel
theorem dL_law_2887 : decode cL_law 2887 = .ok (.goto 259, 3) := by decide +kernel
theorem dL_law_2890 : decode cL_law 2890 = .ok (.aload_n 1, 1) := by decide +kernel
theorem dL_law_2891 : decode cL_law 2891 = .ok (.aload 4, 2) := by decide +kernel
theorem dL_law_2893 : decode cL_law 2893 = .ok (.invokestatic 299, 3) := by decide +kernel
theorem dL_law_2896 : decode cL_law 2896 = .ok (.istore 6, 2) := by decide +kernel
theorem dL_law_2898 : decode cL_law 2898 = .ok (.aload_n 2, 1) := by decide +kernel
theorem dL_law_2899 : decode cL_law 2899 = .ok (.invokevirtual 302, 3) := by decide +kernel
theorem dL_law_2902 : decode cL_law 2902 = .ok (.dstore 7, 2) := by decide +kernel
theorem dL_law_2904 : decode cL_law 2904 = .ok (.aload_n 2, 1) := by decide +kernel
theorem dL_law_2905 : decode cL_law 2905 = .ok (.invokevirtual 172, 3) := by decide +kernel
theorem dL_law_2908 : decode cL_law 2908 = .ok (.iload 6, 2) := by decide +kernel
theorem dL_law_2910 : decode cL_law 2910 = .ok (.if_icmp .eq 5, 3) := by decide +kernel
theorem dL_law_2913 : decode cL_law 2913 = .ok (.iconst 0, 1) := by decide +kernel
theorem dL_law_2914 : decode cL_law 2914 = .ok (.ireturn, 1) := by decide +kernel
theorem dL_law_2915 : decode cL_law 2915 = .ok (.iload 6, 2) := by decide +kernel
theorem dL_law_2917 : decode cL_law 2917 = .ok (.ifCond .ne 35, 3) := by decide +kernel
theorem dL_law_2920 : decode cL_law 2920 = .ok (.aload 4, 2) := by decide +kernel
theorem dL_law_2922 : decode cL_law 2922 = .ok (.iconst 0, 1) := by decide +kernel
theorem dL_law_2923 : decode cL_law 2923 = .ok (.daload, 1) := by decide +kernel
theorem dL_law_2924 : decode cL_law 2924 = .ok (.dload 7, 2) := by decide +kernel
theorem dL_law_2926 : decode cL_law 2926 = .ok (.dcmp .l, 1) := by decide +kernel
theorem dL_law_2927 : decode cL_law 2927 = .ok (.ifCond .eq 25, 3) := by decide +kernel
theorem dL_law_2930 : decode cL_law 2930 = .ok (.aload 4, 2) := by decide +kernel
theorem dL_law_2932 : decode cL_law 2932 = .ok (.iconst 0, 1) := by decide +kernel
theorem dL_law_2933 : decode cL_law 2933 = .ok (.daload, 1) := by decide +kernel
theorem dL_law_2934 : decode cL_law 2934 = .ok (.aload 4, 2) := by decide +kernel
theorem dL_law_2936 : decode cL_law 2936 = .ok (.iconst 0, 1) := by decide +kernel
theorem dL_law_2937 : decode cL_law 2937 = .ok (.daload, 1) := by decide +kernel
theorem dL_law_2938 : decode cL_law 2938 = .ok (.dcmp .l, 1) := by decide +kernel
theorem dL_law_2939 : decode cL_law 2939 = .ok (.ifCond .eq 11, 3) := by decide +kernel
theorem dL_law_2942 : decode cL_law 2942 = .ok (.dload 7, 2) := by decide +kernel
theorem dL_law_2944 : decode cL_law 2944 = .ok (.dload 7, 2) := by decide +kernel
theorem dL_law_2946 : decode cL_law 2946 = .ok (.dcmp .l, 1) := by decide +kernel
theorem dL_law_2947 : decode cL_law 2947 = .ok (.ifCond .ne 5, 3) := by decide +kernel
theorem dL_law_2950 : decode cL_law 2950 = .ok (.iconst 0, 1) := by decide +kernel
theorem dL_law_2951 : decode cL_law 2951 = .ok (.ireturn, 1) := by decide +kernel
theorem dL_law_2952 : decode cL_law 2952 = .ok (.goto 194, 3) := by decide +kernel
theorem dL_law_2955 : decode cL_law 2955 = .ok (.aload_n 1, 1) := by decide +kernel
theorem dL_law_2956 : decode cL_law 2956 = .ok (.aload 4, 2) := by decide +kernel
theorem dL_law_2958 : decode cL_law 2958 = .ok (.invokestatic 303, 3) := by decide +kernel
theorem dL_law_2961 : decode cL_law 2961 = .ok (.istore 6, 2) := by decide +kernel
theorem dL_law_2963 : decode cL_law 2963 = .ok (.aload_n 2, 1) := by decide +kernel
theorem dL_law_2964 : decode cL_law 2964 = .ok (.invokevirtual 305, 3) := by decide +kernel
theorem dL_law_2967 : decode cL_law 2967 = .ok (.fstore 7, 2) := by decide +kernel
theorem dL_law_2969 : decode cL_law 2969 = .ok (.aload_n 2, 1) := by decide +kernel
theorem dL_law_2970 : decode cL_law 2970 = .ok (.invokevirtual 172, 3) := by decide +kernel
theorem dL_law_2973 : decode cL_law 2973 = .ok (.iload 6, 2) := by decide +kernel
theorem dL_law_2975 : decode cL_law 2975 = .ok (.if_icmp .eq 5, 3) := by decide +kernel
theorem dL_law_2978 : decode cL_law 2978 = .ok (.iconst 0, 1) := by decide +kernel
theorem dL_law_2979 : decode cL_law 2979 = .ok (.ireturn, 1) := by decide +kernel
theorem dL_law_2980 : decode cL_law 2980 = .ok (.iload 6, 2) := by decide +kernel
theorem dL_law_2982 : decode cL_law 2982 = .ok (.ifCond .ne 36, 3) := by decide +kernel
theorem dL_law_2985 : decode cL_law 2985 = .ok (.aload 4, 2) := by decide +kernel
theorem dL_law_2987 : decode cL_law 2987 = .ok (.iconst 0, 1) := by decide +kernel
theorem dL_law_2988 : decode cL_law 2988 = .ok (.daload, 1) := by decide +kernel
theorem dL_law_2989 : decode cL_law 2989 = .ok (.fload 7, 2) := by decide +kernel
theorem dL_law_2991 : decode cL_law 2991 = .ok (.f2d, 1) := by decide +kernel
theorem dL_law_2992 : decode cL_law 2992 = .ok (.dcmp .l, 1) := by decide +kernel
theorem dL_law_2993 : decode cL_law 2993 = .ok (.ifCond .eq 25, 3) := by decide +kernel
theorem dL_law_2996 : decode cL_law 2996 = .ok (.aload 4, 2) := by decide +kernel
theorem dL_law_2998 : decode cL_law 2998 = .ok (.iconst 0, 1) := by decide +kernel
theorem dL_law_2999 : decode cL_law 2999 = .ok (.daload, 1) := by decide +kernel
theorem dL_law_3000 : decode cL_law 3000 = .ok (.aload 4, 2) := by decide +kernel
theorem dL_law_3002 : decode cL_law 3002 = .ok (.iconst 0, 1) := by decide +kernel
theorem dL_law_3003 : decode cL_law 3003 = .ok (.daload, 1) := by decide +kernel
theorem dL_law_3004 : decode cL_law 3004 = .ok (.dcmp .l, 1) := by decide +kernel
theorem dL_law_3005 : decode cL_law 3005 = .ok (.ifCond .eq 11, 3) := by decide +kernel
theorem dL_law_3008 : decode cL_law 3008 = .ok (.fload 7, 2) := by decide +kernel
theorem dL_law_3010 : decode cL_law 3010 = .ok (.fload 7, 2) := by decide +kernel
theorem dL_law_3012 : decode cL_law 3012 = .ok (.fcmp .l, 1) := by decide +kernel
theorem dL_law_3013 : decode cL_law 3013 = .ok (.ifCond .ne 5, 3) := by decide +kernel
theorem dL_law_3016 : decode cL_law 3016 = .ok (.iconst 0, 1) := by decide +kernel
theorem dL_law_3017 : decode cL_law 3017 = .ok (.ireturn, 1) := by decide +kernel
theorem dL_law_3018 : decode cL_law 3018 = .ok (.goto 128, 3) := by decide +kernel
theorem dL_law_3021 : decode cL_law 3021 = .ok (.aload_n 1, 1) := by decide +kernel
theorem dL_law_3022 : decode cL_law 3022 = .ok (.invokevirtual 306, 3) := by decide +kernel
theorem dL_law_3025 : decode cL_law 3025 = .ok (.aload_n 2, 1) := by decide +kernel
theorem dL_law_3026 : decode cL_law 3026 = .ok (.invokevirtual 310, 3) := by decide +kernel
theorem dL_law_3029 : decode cL_law 3029 = .ok (.if_icmp .eq 117, 3) := by decide +kernel
theorem dL_law_3032 : decode cL_law 3032 = .ok (.iconst 0, 1) := by decide +kernel
theorem dL_law_3033 : decode cL_law 3033 = .ok (.ireturn, 1) := by decide +kernel
theorem dL_law_3034 : decode cL_law 3034 = .ok (.aload_n 1, 1) := by decide +kernel
theorem dL_law_3035 : decode cL_law 3035 = .ok (.aload_n 0, 1) := by decide +kernel
theorem dL_law_3036 : decode cL_law 3036 = .ok (.iload 5, 2) := by decide +kernel
theorem dL_law_3038 : decode cL_law 3038 = .ok (.iconst 1, 1) := by decide +kernel
theorem dL_law_3039 : decode cL_law 3039 = .ok (.iadd, 1) := by decide +kernel
theorem dL_law_3040 : decode cL_law 3040 = .ok (.iaload, 1) := by decide +kernel
theorem dL_law_3041 : decode cL_law 3041 = .ok (.aload_n 3, 1) := by decide +kernel
theorem dL_law_3042 : decode cL_law 3042 = .ok (.invokestatic 311, 3) := by decide +kernel
theorem dL_law_3045 : decode cL_law 3045 = .ok (.istore 6, 2) := by decide +kernel
theorem dL_law_3047 : decode cL_law 3047 = .ok (.aload_n 2, 1) := by decide +kernel
theorem dL_law_3048 : decode cL_law 3048 = .ok (.aload_n 0, 1) := by decide +kernel
theorem dL_law_3049 : decode cL_law 3049 = .ok (.iload 5, 2) := by decide +kernel
theorem dL_law_3051 : decode cL_law 3051 = .ok (.iconst 1, 1) := by decide +kernel
theorem dL_law_3052 : decode cL_law 3052 = .ok (.iadd, 1) := by decide +kernel
theorem dL_law_3053 : decode cL_law 3053 = .ok (.iaload, 1) := by decide +kernel
theorem dL_law_3054 : decode cL_law 3054 = .ok (.invokevirtual 313, 3) := by decide +kernel
theorem dL_law_3057 : decode cL_law 3057 = .ok (.istore 7, 2) := by decide +kernel
theorem dL_law_3059 : decode cL_law 3059 = .ok (.aload_n 2, 1) := by decide +kernel
theorem dL_law_3060 : decode cL_law 3060 = .ok (.invokevirtual 172, 3) := by decide +kernel
theorem dL_law_3063 : decode cL_law 3063 = .ok (.iload 6, 2) := by decide +kernel
theorem dL_law_3065 : decode cL_law 3065 = .ok (.if_icmp .eq 5, 3) := by decide +kernel
theorem dL_law_3068 : decode cL_law 3068 = .ok (.iconst 0, 1) := by decide +kernel
theorem dL_law_3069 : decode cL_law 3069 = .ok (.ireturn, 1) := by decide +kernel
theorem dL_law_3070 : decode cL_law 3070 = .ok (.iload 6, 2) := by decide +kernel
theorem dL_law_3072 : decode cL_law 3072 = .ok (.ifCond .ne 15, 3) := by decide +kernel
theorem dL_law_3075 : decode cL_law 3075 = .ok (.aload_n 3, 1) := by decide +kernel
theorem dL_law_3076 : decode cL_law 3076 = .ok (.iconst 0, 1) := by decide +kernel
theorem dL_law_3077 : decode cL_law 3077 = .ok (.laload, 1) := by decide +kernel
theorem dL_law_3078 : decode cL_law 3078 = .ok (.iload 7, 2) := by decide +kernel
theorem dL_law_3080 : decode cL_law 3080 = .ok (.i2l, 1) := by decide +kernel
theorem dL_law_3081 : decode cL_law 3081 = .ok (.lcmp, 1) := by decide +kernel
theorem dL_law_3082 : decode cL_law 3082 = .ok (.ifCond .eq 5, 3) := by decide +kernel
theorem dL_law_3085 : decode cL_law 3085 = .ok (.iconst 0, 1) := by decide +kernel
theorem dL_law_3086 : decode cL_law 3086 = .ok (.ireturn, 1) := by decide +kernel
theorem dL_law_3087 : decode cL_law 3087 = .ok (.goto 59, 3) := by decide +kernel
theorem dL_law_3090 : decode cL_law 3090 = .ok (.aload_n 1, 1) := by decide +kernel
theorem dL_law_3091 : decode cL_law 3091 = .ok (.aload_n 0, 1) := by decide +kernel
theorem dL_law_3092 : decode cL_law 3092 = .ok (.iload 5, 2) := by decide +kernel
theorem dL_law_3094 : decode cL_law 3094 = .ok (.iconst 1, 1) := by decide +kernel
theorem dL_law_3095 : decode cL_law 3095 = .ok (.iadd, 1) := by decide +kernel
theorem dL_law_3096 : decode cL_law 3096 = .ok (.iaload, 1) := by decide +kernel
theorem dL_law_3097 : decode cL_law 3097 = .ok (.aload_n 3, 1) := by decide +kernel
theorem dL_law_3098 : decode cL_law 3098 = .ok (.invokestatic 314, 3) := by decide +kernel
theorem dL_law_3101 : decode cL_law 3101 = .ok (.istore 6, 2) := by decide +kernel
theorem dL_law_3103 : decode cL_law 3103 = .ok (.aload_n 2, 1) := by decide +kernel
theorem dL_law_3104 : decode cL_law 3104 = .ok (.aload_n 0, 1) := by decide +kernel
theorem dL_law_3105 : decode cL_law 3105 = .ok (.iload 5, 2) := by decide +kernel
theorem dL_law_3107 : decode cL_law 3107 = .ok (.iconst 1, 1) := by decide +kernel
theorem dL_law_3108 : decode cL_law 3108 = .ok (.iadd, 1) := by decide +kernel
theorem dL_law_3109 : decode cL_law 3109 = .ok (.iaload, 1) := by decide +kernel
theorem dL_law_3110 : decode cL_law 3110 = .ok (.invokevirtual 316, 3) := by decide +kernel
theorem dL_law_3113 : decode cL_law 3113 = .ok (.istore 7, 2) := by decide +kernel
theorem dL_law_3115 : decode cL_law 3115 = .ok (.aload_n 2, 1) := by decide +kernel
theorem dL_law_3116 : decode cL_law 3116 = .ok (.invokevirtual 172, 3) := by decide +kernel
theorem dL_law_3119 : decode cL_law 3119 = .ok (.iload 6, 2) := by decide +kernel
theorem dL_law_3121 : decode cL_law 3121 = .ok (.if_icmp .eq 5, 3) := by decide +kernel
theorem dL_law_3124 : decode cL_law 3124 = .ok (.iconst 0, 1) := by decide +kernel
theorem dL_law_3125 : decode cL_law 3125 = .ok (.ireturn, 1) := by decide +kernel
theorem dL_law_3126 : decode cL_law 3126 = .ok (.iload 6, 2) := by decide +kernel
theorem dL_law_3128 : decode cL_law 3128 = .ok (.ifCond .ne 15, 3) := by decide +kernel
theorem dL_law_3131 : decode cL_law 3131 = .ok (.aload_n 3, 1) := by decide +kernel
theorem dL_law_3132 : decode cL_law 3132 = .ok (.iconst 0, 1) := by decide +kernel
theorem dL_law_3133 : decode cL_law 3133 = .ok (.laload, 1) := by decide +kernel
theorem dL_law_3134 : decode cL_law 3134 = .ok (.iload 7, 2) := by decide +kernel
theorem dL_law_3136 : decode cL_law 3136 = .ok (.i2l, 1) := by decide +kernel
theorem dL_law_3137 : decode cL_law 3137 = .ok (.lcmp, 1) := by decide +kernel
theorem dL_law_3138 : decode cL_law 3138 = .ok (.ifCond .eq 5, 3) := by decide +kernel
theorem dL_law_3141 : decode cL_law 3141 = .ok (.iconst 0, 1) := by decide +kernel
theorem dL_law_3142 : decode cL_law 3142 = .ok (.ireturn, 1) := by decide +kernel
theorem dL_law_3143 : decode cL_law 3143 = .ok (.goto 3, 3) := by decide +kernel
theorem dL_law_3146 : decode cL_law 3146 = .ok (.iinc 5 7, 3) := by decide +kernel
theorem dL_law_3149 : decode cL_law 3149 = .ok (.goto (-3121), 3) := by decide +kernel
theorem dL_law_3152 : decode cL_law 3152 = .ok (.iconst 1, 1) := by decide +kernel
theorem dL_law_3153 : decode cL_law 3153 = .ok (.ireturn, 1) := by decide +kernel
