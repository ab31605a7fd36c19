theorem dL_law_2324 : decode cL_law 2324 = .ok (.iaload, 1) := by decide +kernel
theorem dL_law_2325 : decode cL_law 2325 = .ok (.ifCond .eq 7, 3) := by decide +kernel
theorem dL_law_2328 : decode cL_law 2328 = .ok (.iconst 1, 1) := by decide +kernel
theorem dL_law_2329 : decode cL_law 2329 = .ok (.goto 4, 3) := by decide +kernel
theorem dL_law_2332 : decode cL_law 2332 = .ok (.iconst 0, 1) := by decide +kernel
theorem dL_law_2333 : decode cL_law 2333 = .ok (.aload_n 3, 1) := by decide +kernel
theorem dL_law_2334 : decode cL_law 2334 = .ok (.invokestatic 316, 3) := by decide +kernel
theorem dL_law_2337 : decode cL_law 2337 = .ok (.istore 5, 2) := by decide +kernel
theorem dL_law_2339 : decode cL_law 2339 = .ok (.aload_n 2, 1) := by decide +kernel
theorem dL_law_2340 : decode cL_law 2340 = .ok (.aload_n 0, 1) := by decide +kernel
theorem dL_law_2341 : decode cL_law 2341 = .ok (.iload 4, 2) := by decide +kernel
theorem dL_law_2343 : decode cL_law 2343 = .ok (.iconst 1, 1) := by decide +kernel
theorem dL_law_2344 : decode cL_law 2344 = .ok (.iadd, 1) := by decide +kernel
theorem dL_law_2345 : decode cL_law 2345 = .ok (.iaload, 1) := by decide +kernel
theorem dL_law_2346 : decode cL_law 2346 = .ok (.aload_n 0, 1) := by decide +kernel
theorem dL_law_2347 : decode cL_law 2347 = .ok (.iload 4, 2) := by decide +kernel
theorem dL_law_2349 : decode cL_law 2349 = .ok (.iconst 2, 1) := by decide +kernel
theorem dL_law_2350 : decode cL_law 2350 = .ok (.iadd, 1) := by decide +kernel
theorem dL_law_2351 : decode cL_law 2351 = .ok (.iaload, 1) := by decide +kernel
theorem dL_law_2352 : decode cL_law 2352 = .ok (.aload_n 0, 1) := by decide +kernel
theorem dL_law_2353 : decode cL_law 2353 = .ok (.iload 4, 2) := by decide +kernel
theorem dL_law_2355 : decode cL_law 2355 = .ok (.iconst 3, 1) := by decide +kernel
theorem dL_law_2356 : decode cL_law 2356 = .ok (.iadd, 1) := by decide +kernel
theorem dL_law_2357 : decode cL_law 2357 = .ok (.iaload, 1) := by decide +kernel
theorem dL_law_2358 : decode cL_law 2358 = .ok (.ifCond .eq 7, 3) := by decide +kernel
theorem dL_law_2361 : decode cL_law 2361 = .ok (.iconst 1, 1) := by decide +kernel
theorem dL_law_2362 : decode cL_law 2362 = .ok (.goto 4, 3) := by decide +kernel
theorem dL_law_2365 : decode cL_law 2365 = .ok (.iconst 0, 1) := by decide +kernel
theorem dL_law_2366 : decode cL_law 2366 = .ok (.invokevirtual 318, 3) := by decide +kernel
theorem dL_law_2369 : decode cL_law 2369 = .ok (.istore 6, 2) := by decide +kernel
theorem dL_law_2371 : decode cL_law 2371 = .ok (.goto 639, 3) := by decide +kernel
theorem dL_law_2374 : decode cL_law 2374 = .ok (.aload_n 1, 1) := by decide +kernel
theorem dL_law_2375 : decode cL_law 2375 = .ok (.aload_n 0, 1) := by decide +kernel
theorem dL_law_2376 : decode cL_law 2376 = .ok (.iload 4, 2) := by decide +kernel
theorem dL_law_2378 : decode cL_law 2378 = .ok (.iconst 1, 1) := by decide +kernel
theorem dL_law_2379 : decode cL_law 2379 = .ok (.iadd, 1) := by decide +kernel
theorem dL_law_2380 : decode cL_law 2380 = .ok (.iaload, 1) := by decide +kernel
theorem dL_law_2381 : decode cL_law 2381 = .ok (.aload_n 0, 1) := by decide +kernel
theorem dL_law_2382 : decode cL_law 2382 = .ok (.iload 4, 2) := by decide +kernel
theorem dL_law_2384 : decode cL_law 2384 = .ok (.iconst 2, 1) := by decide +kernel
theorem dL_law_2385 : decode cL_law 2385 = .ok (.iadd, 1) := by decide +kernel
theorem dL_law_2386 : decode cL_law 2386 = .ok (.iaload, 1) := by decide +kernel
theorem dL_law_2387 : decode cL_law 2387 = .ok (.aload_n 0, 1) := by decide +kernel
theorem dL_law_2388 : decode cL_law 2388 = .ok (.iload 4, 2) := by decide +kernel
theorem dL_law_2390 : decode cL_law 2390 = .ok (.iconst 3, 1) := by decide +kernel
theorem dL_law_2391 : decode cL_law 2391 = .ok (.iadd, 1) := by decide +kernel
theorem dL_law_2392 : decode cL_law 2392 = .ok (.iaload, 1) := by decide +kernel
theorem dL_law_2393 : decode cL_law 2393 = .ok (.aload_n 3, 1) := by decide +kernel
theorem dL_law_2394 : decode cL_law 2394 = .ok (.invokestatic 319, 3) := by decide +kernel
theorem dL_law_2397 : decode cL_law 2397 = .ok (.istore 5, 2) := by decide +kernel
theorem dL_law_2399 : decode cL_law 2399 = .ok (.aload_n 2, 1) := by decide +kernel
theorem dL_law_2400 : decode cL_law 2400 = .ok (.aload_n 0, 1) := by decide +kernel
theorem dL_law_2401 : decode cL_law 2401 = .ok (.iload 4, 2) := by decide +kernel
theorem dL_law_2403 : decode cL_law 2403 = .ok (.iconst 1, 1) := by decide +kernel
theorem dL_law_2404 : decode cL_law 2404 = .ok (.iadd, 1) := by decide +kernel
theorem dL_law_2405 : decode cL_law 2405 = .ok (.iaload, 1) := by decide +kernel
theorem dL_law_2406 : decode cL_law 2406 = .ok (.aload_n 0, 1) := by decide +kernel
theorem dL_law_2407 : decode cL_law 2407 = .ok (.iload 4, 2) := by decide +kernel
theorem dL_law_2409 : decode cL_law 2409 = .ok (.iconst 2, 1) := by decide +kernel
theorem dL_law_2410 : decode cL_law 2410 = .ok (.iadd, 1) := by decide +kernel
theorem dL_law_2411 : decode cL_law 2411 = .ok (.iaload, 1) := by decide +kernel
theorem dL_law_2412 : decode cL_law 2412 = .ok (.aload_n 0, 1) := by decide +kernel
theorem dL_law_2413 : decode cL_law 2413 = .ok (.iload 4, 2) := by decide +kernel
theorem dL_law_2415 : decode cL_law 2415 = .ok (.iconst 3, 1) := by decide +kernel
theorem dL_law_2416 : decode cL_law 2416 = .ok (.iadd, 1) := by decide +kernel
theorem dL_law_2417 : decode cL_law 2417 = .ok (.iaload, 1) := by decide +kernel
theorem dL_law_2418 : decode cL_law 2418 = .ok (.invokevirtual 321, 3) := by decide +kernel
theorem dL_law_2421 : decode cL_law 2421 = .ok (.istore 6, 2) := by decide +kernel
theorem dL_law_2423 : decode cL_law 2423 = .ok (.goto 587, 3) := by decide +kernel
theorem dL_law_2426 : decode cL_law 2426 = .ok (.aload_n 1, 1) := by decide +kernel
theorem dL_law_2427 : decode cL_law 2427 = .ok (.aload_n 0, 1) := by decide +kernel
theorem dL_law_2428 : decode cL_law 2428 = .ok (.iload 4, 2) := by decide +kernel
theorem dL_law_2430 : decode cL_law 2430 = .ok (.iconst 1, 1) := by decide +kernel
theorem dL_law_2431 : decode cL_law 2431 = .ok (.iadd, 1) := by decide +kernel
theorem dL_law_2432 : decode cL_law 2432 = .ok (.iaload, 1) := by decide +kernel
theorem dL_law_2433 : decode cL_law 2433 = .ok (.aload_n 0, 1) := by decide +kernel
theorem dL_law_2434 : decode cL_law 2434 = .ok (.iload 4, 2) := by decide +kernel
theorem dL_law_2436 : decode cL_law 2436 = .ok (.iconst 2, 1) := by decide +kernel
theorem dL_law_2437 : decode cL_law 2437 = .ok (.iadd, 1) := by decide +kernel
theorem dL_law_2438 : decode cL_law 2438 = .ok (.iaload, 1) := by decide +kernel
theorem dL_law_2439 : decode cL_law 2439 = .ok (.aload_n 0, 1) := by decide +kernel
theorem dL_law_2440 : decode cL_law 2440 = .ok (.iload 4, 2) := by decide +kernel
theorem dL_law_2442 : decode cL_law 2442 = .ok (.iconst 3, 1) := by decide +kernel
theorem dL_law_2443 : decode cL_law 2443 = .ok (.iadd, 1) := by decide +kernel
theorem dL_law_2444 : decode cL_law 2444 = .ok (.iaload, 1) := by decide +kernel
theorem dL_law_2445 : decode cL_law 2445 = .ok (.aload_n 3, 1) := by decide +kernel
theorem dL_law_2446 : decode cL_law 2446 = .ok (.invokestatic 322, 3) := by decide +kernel
theorem dL_law_2449 : decode cL_law 2449 = .ok (.istore 5, 2) := by decide +kernel
theorem dL_law_2451 : decode cL_law 2451 = .ok (.aload_n 2, 1) := by decide +kernel
theorem dL_law_2452 : decode cL_law 2452 = .ok (.aload_n 0, 1) := by decide +kernel
theorem dL_law_2453 : decode cL_law 2453 = .ok (.iload 4, 2) := by decide +kernel
theorem dL_law_2455 : decode cL_law 2455 = .ok (.iconst 1, 1) := by decide +kernel
theorem dL_law_2456 : decode cL_law 2456 = .ok (.iadd, 1) := by decide +kernel
theorem dL_law_2457 : decode cL_law 2457 = .ok (.iaload, 1) := by decide +kernel
theorem dL_law_2458 : decode cL_law 2458 = .ok (.aload_n 0, 1) := by decide +kernel
theorem dL_law_2459 : decode cL_law 2459 = .ok (.iload 4, 2) := by decide +kernel
theorem dL_law_2461 : decode cL_law 2461 = .ok (.iconst 2, 1) := by decide +kernel
theorem dL_law_2462 : decode cL_law 2462 = .ok (.iadd, 1) := by decide +kernel
theorem dL_law_2463 : decode cL_law 2463 = .ok (.iaload, 1) := by decide +kernel
theorem dL_law_2464 : decode cL_law 2464 = .ok (.aload_n 0, 1) := by decide +kernel
theorem dL_law_2465 : decode cL_law 2465 = .ok (.iload 4, 2) := by decide +kernel
theorem dL_law_2467 : decode cL_law 2467 = .ok (.iconst 3, 1) := by decide +kernel
theorem dL_law_2468 : decode cL_law 2468 = .ok (.iadd, 1) := by decide +kernel
theorem dL_law_2469 : decode cL_law 2469 = .ok (.iaload, 1) := by decide +kernel
theorem dL_law_2470 : decode cL_law 2470 = .ok (.invokevirtual 324, 3) := by decide +kernel
theorem dL_law_2473 : decode cL_law 2473 = .ok (.istore 6, 2) := by decide +kernel
theorem dL_law_2475 : decode cL_law 2475 = .ok (.goto 535, 3) := by decide +kernel
theorem dL_law_2478 : decode cL_law 2478 = .ok (.aload_n 1, 1) := by decide +kernel
theorem dL_law_2479 : decode cL_law 2479 = .ok (.aload_n 0, 1) := by decide +kernel
theorem dL_law_2480 : decode cL_law 2480 = .ok (.iload 4, 2) := by decide +kernel
theorem dL_law_2482 : decode cL_law 2482 = .ok (.iconst 1, 1) := by decide +kernel
theorem dL_law_2483 : decode cL_law 2483 = .ok (.iadd, 1) := by decide +kernel
theorem dL_law_2484 : decode cL_law 2484 = .ok (.iaload, 1) := by decide +kernel
theorem dL_law_2485 : decode cL_law 2485 = .ok (.aload_n 0, 1) := by decide +kernel
theorem dL_law_2486 : decode cL_law 2486 = .ok (.iload 4, 2) := by decide +kernel
theorem dL_law_2488 : decode cL_law 2488 = .ok (.iconst 2, 1) := by decide +kernel
theorem dL_law_2489 : decode cL_law 2489 = .ok (.iadd, 1) := by decide +kernel
theorem dL_law_2490 : decode cL_law 2490 = .ok (.iaload, 1) := by decide +kernel
theorem dL_law_2491 : decode cL_law 2491 = .ok (.aload_n 0, 1) := by decide +kernel
theorem dL_law_2492 : decode cL_law 2492 = .ok (.iload 4, 2) := by decide +kernel
theorem dL_law_2494 : decode cL_law 2494 = .ok (.iconst 3, 1) := by decide +kernel
theorem dL_law_2495 : decode cL_law 2495 = .ok (.iadd, 1) := by decide +kernel
theorem dL_law_2496 : decode cL_law 2496 = .ok (.iaload, 1) := by decide +kernel
theorem dL_law_2497 : decode cL_law 2497 = .ok (.aload_n 0, 1) := by decide +kernel
theorem dL_law_2498 : decode cL_law 2498 = .ok (.iload 4, 2) := by decide +kernel
theorem dL_law_2500 : decode cL_law 2500 = .ok (.iconst 4, 1) := by decide +kernel
theorem dL_law_2501 : decode cL_law 2501 = .ok (.iadd, 1) := by decide +kernel
theorem dL_law_2502 : decode cL_law 2502 = .ok (.iaload, 1) := by decide +kernel
theorem dL_law_2503 : decode cL_law 2503 = .ok (.ifCond .eq 7, 3) := by decide +kernel
theorem dL_law_2506 : decode cL_law 2506 = .ok (.iconst 1, 1) := by decide +kernel
theorem dL_law_2507 : decode cL_law 2507 = .ok (.goto 4, 3) := by decide +kernel
theorem dL_law_2510 : decode cL_law 2510 = .ok (.iconst 0, 1) := by decide +kernel
theorem dL_law_2511 : decode cL_law 2511 = .ok (.aload_n 3, 1) := by decide +kernel
theorem dL_law_2512 : decode cL_law 2512 = .ok (.invokestatic 325, 3) := by decide +kernel
theorem dL_law_2515 : decode cL_law 2515 = .ok (.istore 5, 2) := by decide +kernel
theorem dL_law_2517 : decode cL_law 2517 = .ok (.aload_n 2, 1) := by decide +kernel
theorem dL_law_2518 : decode cL_law 2518 = .ok (.aload_n 0, 1) := by decide +kernel
theorem dL_law_2519 : decode cL_law 2519 = .ok (.iload 4, 2) := by decide +kernel
theorem dL_law_2521 : decode cL_law 2521 = .ok (.iconst 1, 1) := by decide +kernel
theorem dL_law_2522 : decode cL_law 2522 = .ok (.iadd, 1) := by decide +kernel
theorem dL_law_2523 : decode cL_law 2523 = .ok (.iaload, 1) := by decide +kernel
theorem dL_law_2524 : decode cL_law 2524 = .ok (.aload_n 0, 1) := by decide +kernel
theorem dL_law_2525 : decode cL_law 2525 = .ok (.iload 4, 2) := by decide +kernel
theorem dL_law_2527 : decode cL_law 2527 = .ok (.iconst 2, 1) := by decide +kernel
theorem dL_law_2528 : decode cL_law 2528 = .ok (.iadd, 1) := by decide +kernel
theorem dL_law_2529 : decode cL_law 2529 = .ok (.iaload, 1) := by decide +kernel
theorem dL_law_2530 : decode cL_law 2530 = .ok (.aload_n 0, 1) := by decide +kernel
theorem dL_law_2531 : decode cL_law 2531 = .ok (.iload 4, 2) := by decide +kernel
theorem dL_law_2533 : decode cL_law 2533 = .ok (.iconst 3, 1) := by decide +kernel
theorem dL_law_2534 : decode cL_law 2534 = .ok (.iadd, 1) := by decide +kernel
theorem dL_law_2535 : decode cL_law 2535 = .ok (.iaload, 1) := by decide +kernel
theorem dL_law_2536 : decode cL_law 2536 = .ok (.aload_n 0, 1) := by decide +kernel
theorem dL_law_2537 : decode cL_law 2537 = .ok (.iload 4, 2) := by decide +kernel
theorem dL_law_2539 : decode cL_law 2539 = .ok (.iconst 4, 1) := by decide +kernel
theorem dL_law_2540 : decode cL_law 2540 = .ok (.iadd, 1) := by decide +kernel
theorem dL_law_2541 : decode cL_law 2541 = .ok (.iaload, 1) := by decide +kernel
theorem dL_law_2542 : decode cL_law 2542 = .ok (.ifCond .eq 7, 3) := by decide +kernel
theorem dL_law_2545 : decode cL_law 2545 = .ok (.iconst 1, 1) := by decide +kernel
theorem dL_law_2546 : decode cL_law 2546 = .ok (.goto 4, 3) := by decide +kernel
theorem dL_law_2549 : decode cL_law 2549 = .ok (.iconst 0, 1) := by decide +kernel
theorem dL_law_2550 : decode cL_law 2550 = .ok (.invokevirtual 327, 3) := by decide +kernel
theorem dL_law_2553 : decode cL_law 2553 = .ok (.astore 6, 2) := by decide +kernel
theorem dL_law_2555 : decode cL_law 2555 = .ok (.goto 455, 3) := by decide +kernel
theorem dL_law_2558 : decode cL_law 2558 = .ok (.aload_n 1, 1) := by decide +kernel
theorem dL_law_2559 : decode cL_law 2559 = .ok (.aload_n 0, 1) := by decide +kernel
theorem dL_law_2560 : decode cL_law 2560 = .ok (.iload 4, 2) := by decide +kernel
theorem dL_law_2562 : decode cL_law 2562 = .ok (.iconst 1, 1) := by decide +kernel
theorem dL_law_2563 : decode cL_law 2563 = .ok (.iadd, 1) := by decide +kernel
theorem dL_law_2564 : decode cL_law 2564 = .ok (.iaload, 1) := by decide +kernel
theorem dL_law_2565 : decode cL_law 2565 = .ok (.aload_n 0, 1) := by decide +kernel
theorem dL_law_2566 : decode cL_law 2566 = .ok (.iload 4, 2) := by decide +kernel
theorem dL_law_2568 : decode cL_law 2568 = .ok (.iconst 2, 1) := by decide +kernel
theorem dL_law_2569 : decode cL_law 2569 = .ok (.iadd, 1) := by decide +kernel
theorem dL_law_2570 : decode cL_law 2570 = .ok (.iaload, 1) := by decide +kernel
theorem dL_law_2571 : decode cL_law 2571 = .ok (.aload_n 3, 1) := by decide +kernel
theorem dL_law_2572 : decode cL_law 2572 = .ok (.invokestatic 328, 3) := by decide +kernel
theorem dL_law_2575 : decode cL_law 2575 = .ok (.istore 5, 2) := by decide +kernel
theorem dL_law_2577 : decode cL_law 2577 = .ok (.aload_n 2, 1) := by decide +kernel
theorem dL_law_2578 : decode cL_law 2578 = .ok (.aload_n 0, 1) := by decide +kernel
theorem dL_law_2579 : decode cL_law 2579 = .ok (.iload 4, 2) := by decide +kernel
theorem dL_law_2581 : decode cL_law 2581 = .ok (.iconst 1, 1) := by decide +kernel
theorem dL_law_2582 : decode cL_law 2582 = .ok (.iadd, 1) := by decide +kernel
theorem dL_law_2583 : decode cL_law 2583 = .ok (.iaload, 1) := by decide +kernel
theorem dL_law_2584 : decode cL_law 2584 = .ok (.aload_n 0, 1) := by decide +kernel
theorem dL_law_2585 : decode cL_law 2585 = .ok (.iload 4, 2) := by decide +kernel
theorem dL_law_2587 : decode cL_law 2587 = .ok (.iconst 2, 1) := by decide +kernel
theorem dL_law_2588 : decode cL_law 2588 = .ok (.iadd, 1) := by decide +kernel
theorem dL_law_2589 : decode cL_law 2589 = .ok (.iaload, 1) := by decide +kernel
theorem dL_law_2590 : decode cL_law 2590 = .ok (.invokevirtual 330, 3) := by decide +kernel
theorem dL_law_2593 : decode cL_law 2593 = .ok (.istore 6, 2) := by decide +kernel
theorem dL_law_2595 : decode cL_law 2595 = .ok (.goto 415, 3) := by decide +kernel
theorem dL_law_2598 : decode cL_law 2598 = .ok (.aload_n 1, 1) := by decide +kernel
theorem dL_law_2599 : decode cL_law 2599 = .ok (.aload_n 0, 1) := by decide +kernel
theorem dL_law_2600 : decode cL_law 2600 = .ok (.iload 4, 2) := by decide +kernel
theorem dL_law_2602 : decode cL_law 2602 = .ok (.iconst 1, 1) := by decide +kernel
theorem dL_law_2603 : decode cL_law 2603 = .ok (.iadd, 1) := by decide +kernel
theorem dL_law_2604 : decode cL_law 2604 = .ok (.iaload, 1) := by decide +kernel
theorem dL_law_2605 : decode cL_law 2605 = .ok (.aload_n 0, 1) := by decide +kernel
theorem dL_law_2606 : decode cL_law 2606 = .ok (.iload 4, 2) := by decide +kernel
theorem dL_law_2608 : decode cL_law 2608 = .ok (.iconst 2, 1) := by decide +kernel
theorem dL_law_2609 : decode cL_law 2609 = .ok (.iadd, 1) := by decide +kernel
theorem dL_law_2610 : decode cL_law 2610 = .ok (.iaload, 1) := by decide +kernel
theorem dL_law_2611 : decode cL_law 2611 = .ok (.aload_n 3, 1) := by decide +kernel
theorem dL_law_2612 : decode cL_law 2612 = .ok (.invokestatic 331, 3) := by decide +kernel
theorem dL_law_2615 : decode cL_law 2615 = .ok (.istore 5, 2) := by decide +kernel
theorem dL_law_2617 : decode cL_law 2617 = .ok (.aload_n 2, 1) := by decide +kernel
theorem dL_law_2618 : decode cL_law 2618 = .ok (.aload_n 0, 1) := by decide +kernel
theorem dL_law_2619 : decode cL_law 2619 = .ok (.iload 4, 2) := by decide +kernel
theorem dL_law_2621 : decode cL_law 2621 = .ok (.iconst 1, 1) := by decide +kernel
theorem dL_law_2622 : decode cL_law 2622 = .ok (.iadd, 1) := by decide +kernel
theorem dL_law_2623 : decode cL_law 2623 = .ok (.iaload, 1) := by decide +kernel
theorem dL_law_2624 : decode cL_law 2624 = .ok (.aload_n 0, 1) := by decide +kernel
theorem dL_law_2625 : decode cL_law 2625 = .ok (.iload 4, 2) := by decide +kernel
theorem dL_law_2627 : decode cL_law 2627 = .ok (.iconst 2, 1) := by decide +kernel
theorem dL_law_2628 : decode cL_law 2628 = .ok (.iadd, 1) := by decide +kernel
theorem dL_law_2629 : decode cL_law 2629 = .ok (.iaload, 1) := by decide +kernel
theorem dL_law_2630 : decode cL_law 2630 = .ok (.invokevirtual 333, 3) := by decide +kernel
theorem dL_law_2633 : decode cL_law 2633 = .ok (.istore 6, 2) := by decide +kernel
theorem dL_law_2635 : decode cL_law 2635 = .ok (.goto 375, 3) := by decide +kernel
theorem dL_law_2638 : decode cL_law 2638 = .ok (.aload_n 1, 1) := by decide +kernel
theorem dL_law_2639 : decode cL_law 2639 = .ok (.aload_n 0, 1) := by decide +kernel
theorem dL_law_2640 : decode cL_law 2640 = .ok (.iload 4, 2) := by decide +kernel
theorem dL_law_2642 : decode cL_law 2642 = .ok (.iconst 1, 1) := by decide +kernel
theorem dL_law_2643 : decode cL_law 2643 = .ok (.iadd, 1) := by decide +kernel
theorem dL_law_2644 : decode cL_law 2644 = .ok (.iaload, 1) := by decide +kernel
theorem dL_law_2645 : decode cL_law 2645 = .ok (.aload_n 0, 1) := by decide +kernel
theorem dL_law_2646 : decode cL_law 2646 = .ok (.iload 4, 2) := by decide +kernel
theorem dL_law_2648 : decode cL_law 2648 = .ok (.iconst 2, 1) := by decide +kernel
theorem dL_law_2649 : decode cL_law 2649 = .ok (.iadd, 1) := by decide +kernel
theorem dL_law_2650 : decode cL_law 2650 = .ok (.iaload, 1) := by decide +kernel
theorem dL_law_2651 : decode cL_law 2651 = .ok (.aload_n 0, 1) := by decide +kernel
theorem dL_law_2652 : decode cL_law 2652 = .ok (.iload 4, 2) := by decide +kernel
theorem dL_law_2654 : decode cL_law 2654 = .ok (.iconst 3, 1) := by decide +kernel
theorem dL_law_2655 : decode cL_law 2655 = .ok (.iadd, 1) := by decide +kernel
theorem dL_law_2656 : decode cL_law 2656 = .ok (.iaload, 1) := by decide +kernel
theorem dL_law_2657 : decode cL_law 2657 = .ok (.aload_n 3, 1) := by decide +kernel
theorem dL_law_2658 : decode cL_law 2658 = .ok (.invokestatic 334, 3) := by decide +kernel
theorem dL_law_2661 : decode cL_law 2661 = .ok (.istore 5, 2) := by decide +kernel
theorem dL_law_2663 : decode cL_law 2663 = .ok (.aload_n 2, 1) := by decide +kernel
theorem dL_law_2664 : decode cL_law 2664 = .ok (.aload_n 0, 1) := by decide +kernel
theorem dL_law_2665 : decode cL_law 2665 = .ok (.iload 4, 2) := by decide +kernel
theorem dL_law_2667 : decode cL_law 2667 = .ok (.iconst 1, 1) := by decide +kernel
theorem dL_law_2668 : decode cL_law 2668 = .ok (.iadd, 1) := by decide +kernel
theorem dL_law_2669 : decode cL_law 2669 = .ok (.iaload, 1) := by decide +kernel
theorem dL_law_2670 : decode cL_law 2670 = .ok (.aload_n 0, 1) := by decide +kernel
theorem dL_law_2671 : decode cL_law 2671 = .ok (.iload 4, 2) := by decide +kernel
theorem dL_law_2673 : decode cL_law 2673 = .ok (.iconst 2, 1) := by decide +kernel
theorem dL_law_2674 : decode cL_law 2674 = .ok (.iadd, 1) := by decide +kernel
theorem dL_law_2675 : decode cL_law 2675 = .ok (.iaload, 1) := by decide +kernel
theorem dL_law_2676 : decode cL_law 2676 = .ok (.aload_n 0, 1) := by decide +kernel
theorem dL_law_2677 : decode cL_law 2677 = .ok (.iload 4, 2) := by decide +kernel
theorem dL_law_2679 : decode cL_law 2679 = .ok (.iconst 3, 1) := by decide +kernel
theorem dL_law_2680 : decode cL_law 2680 = .ok (.iadd, 1) := by decide +kernel
theorem dL_law_2681 : decode cL_law 2681 = .ok (.iaload, 1) := by decide +kernel
theorem dL_law_2682 : decode cL_law 2682 = .ok (.invokevirtual 336, 3) := by decide +kernel
theorem dL_law_2685 : decode cL_law 2685 = .ok (.istore 6, 2) := by decide +kernel
theorem dL_law_2687 : decode cL_law 2687 = .ok (.goto 323, 3) := by decide +kernel
theorem dL_law_2690 : decode cL_law 2690 = .ok (.aload_n 1, 1) := by decide +kernel
theorem dL_law_2691 : decode cL_law 2691 = .ok (.aload_n 0, 1) := by decide +kernel
theorem dL_law_2692 : decode cL_law 2692 = .ok (.iload 4, 2) := by decide +kernel
theorem dL_law_2694 : decode cL_law 2694 = .ok (.iconst 1, 1) := by decide +kernel
theorem dL_law_2695 : decode cL_law 2695 = .ok (.iadd, 1) := by decide +kernel
theorem dL_law_2696 : decode cL_law 2696 = .ok (.iaload, 1) := by decide +kernel
theorem dL_law_2697 : decode cL_law 2697 = .ok (.aload_n 0, 1) := by decide +kernel
theorem dL_law_2698 : decode cL_law 2698 = .ok (.iload 4, 2) := by decide +kernel
theorem dL_law_2700 : decode cL_law 2700 = .ok (.iconst 2, 1) := by decide +kernel
theorem dL_law_2701 : decode cL_law 2701 = .ok (.iadd, 1) := by decide +kernel
theorem dL_law_2702 : decode cL_law 2702 = .ok (.iaload, 1) := by decide +kernel
theorem dL_law_2703 : decode cL_law 2703 = .ok (.aload_n 0, 1) := by decide +kernel
theorem dL_law_2704 : decode cL_law 2704 = .ok (.iload 4, 2) := by decide +kernel
theorem dL_law_2706 : decode cL_law 2706 = .ok (.iconst 3, 1) := by decide +kernel
theorem dL_law_2707 : decode cL_law 2707 = .ok (.iadd, 1) := by decide +kernel
theorem dL_law_2708 : decode cL_law 2708 = .ok (.iaload, 1) := by decide +kernel
theorem dL_law_2709 : decode cL_law 2709 = .ok (.aload_n 3, 1) := by decide +kernel
theorem dL_law_2710 : decode cL_law 2710 = .ok (.invokestatic 337, 3) := by decide +kernel
theorem dL_law_2713 : decode cL_law 2713 = .ok (.istore 5, 2) := by decide +kernel
theorem dL_law_2715 : decode cL_law 2715 = .ok (.aload_n 2, 1) := by decide +kernel
theorem dL_law_2716 : decode cL_law 2716 = .ok (.aload_n 0, 1) := by decide +kernel
theorem dL_law_2717 : decode cL_law 2717 = .ok (.iload 4, 2) := by decide +kernel
theorem dL_law_2719 : decode cL_law 2719 = .ok (.iconst 1, 1) := by decide +kernel
theorem dL_law_2720 : decode cL_law 2720 = .ok (.iadd, 1) := by decide +kernel
theorem dL_law_2721 : decode cL_law 2721 = .ok (.iaload, 1) := by decide +kernel
theorem dL_law_2722 : decode cL_law 2722 = .ok (.aload_n 0, 1) := by decide +kernel
theorem dL_law_2723 : decode cL_law 2723 = .ok (.iload 4, 2) := by decide +kernel
theorem dL_law_2725 : decode cL_law 2725 = .ok (.iconst 2, 1) := by decide +kernel
theorem dL_law_2726 : decode cL_law 2726 = .ok (.iadd, 1) := by decide +kernel
theorem dL_law_2727 : decode cL_law 2727 = .ok (.iaload, 1) := by decide +kernel
theorem dL_law_2728 : decode cL_law 2728 = .ok (.aload_n 0, 1) := by decide +kernel
theorem dL_law_2729 : decode cL_law 2729 = .ok (.iload 4, 2) := by decide +kernel
theorem dL_law_2731 : decode cL_law 2731 = .ok (.iconst 3, 1) := by decide +kernel
theorem dL_law_2732 : decode cL_law 2732 = .ok (.iadd, 1) := by decide +kernel
theorem dL_law_2733 : decode cL_law 2733 = .ok (.iaload, 1) := by decide +kernel
theorem dL_law_2734 : decode cL_law 2734 = .ok (.invokevirtual 339, 3) := by decide +kernel
theorem dL_law_2737 : decode cL_law 2737 = .ok (.istore 6, 2) := by decide +kernel
theorem dL_law_2739 : decode cL_law 2739 = .ok (.goto 271, 3) := by decide +kernel
theorem dL_law_2742 : decode cL_law 2742 = .ok (.aload_n 1, 1) := by decide +kernel
theorem dL_law_2743 : decode cL_law 2743 = .ok (.aload_n 0, 1) := by decide +kernel
theorem dL_law_2744 : decode cL_law 2744 = .ok (.iload 4, 2) := by decide +kernel
theorem dL_law_2746 : decode cL_law 2746 = .ok (.iconst 1, 1) := by decide +kernel
theorem dL_law_2747 : decode cL_law 2747 = .ok (.iadd, 1) := by decide +kernel
theorem dL_law_2748 : decode cL_law 2748 = .ok (.iaload, 1) := by decide +kernel
theorem dL_law_2749 : decode cL_law 2749 = .ok (.aload_n 0, 1) := by decide +kernel
theorem dL_law_2750 : decode cL_law 2750 = .ok (.iload 4, 2) := by decide +kernel
theorem dL_law_2752 : decode cL_law 2752 = .ok (.iconst 2, 1) := by decide +kernel
theorem dL_law_2753 : decode cL_law 2753 = .ok (.iadd, 1) := by decide +kernel
theorem dL_law_2754 : decode cL_law 2754 = .ok (.iaload, 1) := by decide +kernel
theorem dL_law_2755 : decode cL_law 2755 = .ok (.aload_n 3, 1) := by decide +kernel
theorem dL_law_2756 : decode cL_law 2756 = .ok (.invokestatic 340, 3) := by decide +kernel
theorem dL_law_2759 : decode cL_law 2759 = .ok (.istore 5, 2) := by decide +kernel
theorem dL_law_2761 : decode cL_law 2761 = .ok (.aload_n 2, 1) := by decide +kernel
theorem dL_law_2762 : decode cL_law 2762 = .ok (.aload_n 0, 1) := by decide +kernel
theorem dL_law_2763 : decode cL_law 2763 = .ok (.iload 4, 2) := by decide +kernel
theorem dL_law_2765 : decode cL_law 2765 = .ok (.iconst 1, 1) := by decide +kernel
theorem dL_law_2766 : decode cL_law 2766 = .ok (.iadd, 1) := by decide +kernel
theorem dL_law_2767 : decode cL_law 2767 = .ok (.iaload, 1) := by decide +kernel
theorem dL_law_2768 : decode cL_law 2768 = .ok (.aload_n 0, 1) := by decide +kernel
theorem dL_law_2769 : decode cL_law 2769 = .ok (.iload 4, 2) := by decide +kernel
theorem dL_law_2771 : decode cL_law 2771 = .ok (.iconst 2, 1) := by decide +kernel
theorem dL_law_2772 : decode cL_law 2772 = .ok (.iadd, 1) := by decide +kernel
theorem dL_law_2773 : decode cL_law 2773 = .ok (.iaload, 1) := by decide +kernel
theorem dL_law_2774 : decode cL_law 2774 = .ok (.invokevirtual 342, 3) := by decide +kernel
theorem dL_law_2777 : decode cL_law 2777 = .ok (.istore 6, 2) := by decide +kernel
theorem dL_law_2779 : decode cL_law 2779 = .ok (.goto 231, 3) := by decide +kernel
theorem dL_law_2782 : decode cL_law 2782 = .ok (.aload_n 1, 1) := by decide +kernel
theorem dL_law_2783 : decode cL_law 2783 = .ok (.aload_n 0, 1) := by decide +kernel
theorem dL_law_2784 : decode cL_law 2784 = .ok (.iload 4, 2) := by decide +kernel
theorem dL_law_2786 : decode cL_law 2786 = .ok (.iconst 1, 1) := by decide +kernel
theorem dL_law_2787 : decode cL_law 2787 = .ok (.iadd, 1) := by decide +kernel
theorem dL_law_2788 : decode cL_law 2788 = .ok (.iaload, 1) := by decide +kernel
theorem dL_law_2789 : decode cL_law 2789 = .ok (.aload_n 3, 1) := by decide +kernel
theorem dL_law_2790 : decode cL_law 2790 = .ok (.invokestatic 343, 3) := by decide +kernel
theorem dL_law_2793 : decode cL_law 2793 = .ok (.istore 5, 2) := by decide +kernel
theorem dL_law_2795 : decode cL_law 2795 = .ok (.aload_n 2, 1) := by decide +kernel
theorem dL_law_2796 : decode cL_law 2796 = .ok (.aload_n 0, 1) := by decide +kernel
theorem dL_law_2797 : decode cL_law 2797 = .ok (.iload 4, 2) := by decide +kernel
theorem dL_law_2799 : decode cL_law 2799 = .ok (.iconst 1, 1) := by decide +kernel
theorem dL_law_2800 : decode cL_law 2800 = .ok (.iadd, 1) := by decide +kernel
theorem dL_law_2801 : decode cL_law 2801 = .ok (.iaload, 1) := by decide +kernel
theorem dL_law_2802 : decode cL_law 2802 = .ok (.invokevirtual 345, 3) := by decide +kernel
theorem dL_law_2805 : decode cL_law 2805 = .ok (.astore 6, 2) := by decide +kernel
theorem dL_law_2807 : decode cL_law 2807 = .ok (.goto 203, 3) := by decide +kernel
theorem dL_law_2810 : decode cL_law 2810 = .ok (.aload_n 1, 1) := by decide +kernel
theorem dL_law_2811 : decode cL_law 2811 = .ok (.aload_n 0, 1) := by decide +kernel
theorem dL_law_2812 : decode cL_law 2812 = .ok (.iload 4, 2) := by decide +kernel
theorem dL_law_2814 : decode cL_law 2814 = .ok (.iconst 1, 1) := by decide +kernel
theorem dL_law_2815 : decode cL_law 2815 = .ok (.iadd, 1) := by decide +kernel
theorem dL_law_2816 : decode cL_law 2816 = .ok (.iaload, 1) := by decide +kernel
theorem dL_law_2817 : decode cL_law 2817 = .ok (.aload_n 0, 1) := by decide +kernel
theorem dL_law_2818 : decode cL_law 2818 = .ok (.iload 4, 2) := by decide +kernel
theorem dL_law_2820 : decode cL_law 2820 = .ok (.iconst 2, 1) := by decide +kernel
theorem dL_law_2821 : decode cL_law 2821 = .ok (.iadd, 1) := by decide +kernel
theorem dL_law_2822 : decode cL_law 2822 = .ok (.iaload, 1) := by decide +kernel
theorem dL_law_2823 : decode cL_law 2823 = .ok (.aload_n 0, 1) := by decide +kernel
theorem dL_law_2824 : decode cL_law 2824 = .ok (.iload 4, 2) := by decide +kernel
theorem dL_law_2826 : decode cL_law 2826 = .ok (.iconst 3, 1) := by decide +kernel
theorem dL_law_2827 : decode cL_law 2827 = .ok (.iadd, 1) := by decide +kernel
theorem dL_law_2828 : decode cL_law 2828 = .ok (.iaload, 1) := by decide +kernel
theorem dL_law_2829 : decode cL_law 2829 = .ok (.aload_n 3, 1) := by decide +kernel
theorem dL_law_2830 : decode cL_law 2830 = .ok (.invokestatic 346, 3) := by decide +kernel
theorem dL_law_2833 : decode cL_law 2833 = .ok (.istore 5, 2) := by decide +kernel
theorem dL_law_2835 : decode cL_law 2835 = .ok (.aload_n 2, 1) := by decide +kernel
theorem dL_law_2836 : decode cL_law 2836 = .ok (.aload_n 0, 1) := by decide +kernel
theorem dL_law_2837 : decode cL_law 2837 = .ok (.iload 4, 2) := by decide +kernel
theorem dL_law_2839 : decode cL_law 2839 = .ok (.iconst 1, 1) := by decide +kernel
theorem dL_law_2840 : decode cL_law 2840 = .ok (.iadd, 1) := by decide +kernel
theorem dL_law_2841 : decode cL_law 2841 = .ok (.iaload, 1) := by decide +kernel
theorem dL_law_2842 : decode cL_law 2842 = .ok (.aload_n 0, 1) := by decide +kernel
theorem dL_law_2843 : decode cL_law 2843 = .ok (.iload 4, 2) := by decide +kernel
theorem dL_law_2845 : decode cL_law 2845 = .ok (.iconst 2, 1) := by decide +kernel
theorem dL_law_2846 : decode cL_law 2846 = .ok (.iadd, 1) := by decide +kernel
theorem dL_law_2847 : decode cL_law 2847 = .ok (.iaload, 1) := by decide +kernel
theorem dL_law_2848 : decode cL_law 2848 = .ok (.aload_n 0, 1) := by decide +kernel
theorem dL_law_2849 : decode cL_law 2849 = .ok (.iload 4, 2) := by decide +kernel
theorem dL_law_2851 : decode cL_law 2851 = .ok (.iconst 3, 1) := by decide +kernel
theorem dL_law_2852 : decode cL_law 2852 = .ok (.iadd, 1) := by decide +kernel
theorem dL_law_2853 : decode cL_law 2853 = .ok (.iaload, 1) := by decide +kernel
theorem dL_law_2854 : decode cL_law 2854 = .ok (.invokevirtual 348, 3) := by decide +kernel
theorem dL_law_2857 : decode cL_law 2857 = .ok (.istore 6, 2) := by decide +kernel
theorem dL_law_2859 : decode cL_law 2859 = .ok (.goto 151, 3) := by decide +kernel
theorem dL_law_2862 : decode cL_law 2862 = .ok (.aload_n 1, 1) := by decide +kernel
theorem dL_law_2863 : decode cL_law 2863 = .ok (.aload_n 0, 1) := by decide +kernel
theorem dL_law_2864 : decode cL_law 2864 = .ok (.iload 4, 2) := by decide +kernel
theorem dL_law_2866 : decode cL_law 2866 = .ok (.iconst 1, 1) := by decide +kernel
theorem dL_law_2867 : decode cL_law 2867 = .ok (.iadd, 1) := by decide +kernel
theorem dL_law_2868 : decode cL_law 2868 = .ok (.iaload, 1) := by decide +kernel
theorem dL_law_2869 : decode cL_law 2869 = .ok (.aload_n 0, 1) := by decide +kernel
theorem dL_law_2870 : decode cL_law 2870 = .ok (.iload 4, 2) := by decide +kernel
theorem dL_law_2872 : decode cL_law 2872 = .ok (.iconst 2, 1) := by decide +kernel
theorem dL_law_2873 : decode cL_law 2873 = .ok (.iadd, 1) := by decide +kernel
theorem dL_law_2874 : decode cL_law 2874 = .ok (.iaload, 1) := by decide +kernel
theorem dL_law_2875 : decode cL_law 2875 = .ok (.aload_n 3, 1) := by decide +kernel
theorem dL_law_2876 : decode cL_law 2876 = .ok (.invokestatic 349, 3) := by decide +kernel
theorem dL_law_2879 : decode cL_law 2879 = .ok (.istore 5, 2) := by decide +kernel
theorem dL_law_2881 : decode cL_law 2881 = .ok (.aload_n 2, 1) := by decide +kernel
theorem dL_law_2882 : decode cL_law 2882 = .ok (.aload_n 0, 1) := by decide +kernel
theorem dL_law_2883 : decode cL_law 2883 = .ok (.iload 4, 2) := by decide +kernel
theorem dL_law_2885 : decode cL_law 2885 = .ok (.iconst 1, 1) := by decide +kernel
theorem dL_law_2886 : decode cL_law 2886 = .ok (.iadd, 1) := by decide +kernel
theorem dL_law_2887 : decode cL_law 2887 = .ok (.iaload, 1) := by decide +kernel
theorem dL_law_2888 : decode cL_law 2888 = .ok (.aload_n 0, 1) := by decide +kernel
theorem dL_law_2889 : decode cL_law 2889 = .ok (.iload 4, 2) := by decide +kernel
theorem dL_law_2891 : decode cL_law 2891 = .ok (.iconst 2, 1) := by decide +kernel
theorem dL_law_2892 : decode cL_law 2892 = .ok (.iadd, 1) := by decide +kernel
theorem dL_law_2893 : decode cL_law 2893 = .ok (.iaload, 1) := by decide +kernel
theorem dL_law_2894 : decode cL_law 2894 = .ok (.invokevirtual 351, 3) := by decide +kernel
theorem dL_law_2897 : decode cL_law 2897 = .ok (.istore 6, 2) := by decide +kernel
theorem dL_law_2899 : decode cL_law 2899 = .ok (.goto 111, 3) := by decide +kernel
theorem dL_law_2902 : decode cL_law 2902 = .ok (.aload_n 1, 1) := by decide +kernel
theorem dL_law_2903 : decode cL_law 2903 = .ok (.aload_n 0, 1) := by decide +kernel
theorem dL_law_2904 : decode cL_law 2904 = .ok (.iload 4, 2) := by decide +kernel
theorem dL_law_2906 : decode cL_law 2906 = .ok (.iconst 1, 1) := by decide +kernel
theorem dL_law_2907 : decode cL_law 2907 = .ok (.iadd, 1) := by decide +kernel
theorem dL_law_2908 : decode cL_law 2908 = .ok (.iaload, 1) := by decide +kernel
theorem dL_law_2909 : decode cL_law 2909 = .ok (.ifCond .eq 7, 3) := by decide +kernel
theorem dL_law_2912 : decode cL_law 2912 = .ok (.iconst 1, 1) := by decide +kernel
theorem dL_law_2913 : decode cL_law 2913 = .ok (.goto 4, 3) := by decide +kernel
theorem dL_law_2916 : decode cL_law 2916 = .ok (.iconst 0, 1) := by decide +kernel
theorem dL_law_2917 : decode cL_law 2917 = .ok (.invokevirtual 352, 3) := by decide +kernel
theorem dL_law_2920 : decode cL_law 2920 = .ok (.pop, 1) := by decide +kernel
theorem dL_law_2921 : decode cL_law 2921 = .ok (.aload_n 2, 1) := by decide +kernel
theorem dL_law_2922 : decode cL_law 2922 = .ok (.aload_n 0, 1) := by decide +kernel
theorem dL_law_2923 : decode cL_law 2923 = .ok (.iload 4, 2) := by decide +kernel
theorem dL_law_2925 : decode cL_law 2925 = .ok (.iconst 1, 1) := by decide +kernel
theorem dL_law_2926 : decode cL_law 2926 = .ok (.iadd, 1) := by decide +kernel
theorem dL_law_2927 : decode cL_law 2927 = .ok (.iaload, 1) := by decide +kernel
theorem dL_law_2928 : decode cL_law 2928 = .ok (.ifCond .eq 7, 3) := by decide +kernel
theorem dL_law_2931 : decode cL_law 2931 = .ok (.iconst 1, 1) := by decide +kernel
theorem dL_law_2932 : decode cL_law 2932 = .ok (.goto 4, 3) := by decide +kernel
theorem dL_law_2935 : decode cL_law 2935 = .ok (.iconst 0, 1) := by decide +kernel
theorem dL_law_2936 : decode cL_law 2936 = .ok (.invokevirtual 356, 3) := by decide +kernel
theorem dL_law_2939 : decode cL_law 2939 = .ok (.pop, 1) := by decide +kernel
theorem dL_law_2940 : decode cL_law 2940 = .ok (.goto 70, 3) := by decide +kernel
theorem dL_law_2943 : decode cL_law 2943 = .ok (.aload_n 1, 1) := by decide +kernel
theorem dL_law_2944 : decode cL_law 2944 = .ok (.invokevirtual 357, 3) := by decide +kernel
theorem dL_law_2947 : decode cL_law 2947 = .ok (.pop, 1) := by decide +kernel
theorem dL_law_2948 : decode cL_law 2948 = .ok (.aload_n 2, 1) := by decide +kernel
theorem dL_law_2949 : decode cL_law 2949 = .ok (.invokevirtual 360, 3) := by decide +kernel
theorem dL_law_2952 : decode cL_law 2952 = .ok (.pop, 1) := by decide +kernel
theorem dL_law_2953 : decode cL_law 2953 = .ok (.goto 57, 3) := by decide +kernel
theorem dL_law_2956 : decode cL_law 2956 = .ok (.aload_n 1, 1) := by decide +kernel
theorem dL_law_2957 : decode cL_law 2957 = .ok (.aload_n 0, 1) := by decide +kernel
theorem dL_law_2958 : decode cL_law 2958 = .ok (.iload 4, 2) := by decide +kernel
theorem dL_law_2960 : decode cL_law 2960 = .ok (.iconst 1, 1) := by decide +kernel
theorem dL_law_2961 : decode cL_law 2961 = .ok (.iadd, 1) := by decide +kernel
theorem dL_law_2962 : decode cL_law 2962 = .ok (.iaload, 1) := by decide +kernel
theorem dL_law_2963 : decode cL_law 2963 = .ok (.aload_n 3, 1) := by decide +kernel
theorem dL_law_2964 : decode cL_law 2964 = .ok (.invokestatic 361, 3) := by decide +kernel
theorem dL_law_2967 : decode cL_law 2967 = .ok (.istore 5, 2) := by decide +kernel
theorem dL_law_2969 : decode cL_law 2969 = .ok (.aload_n 2, 1) := by decide +kernel
theorem dL_law_2970 : decode cL_law 2970 = .ok (.aload_n 0, 1) := by decide +kernel
theorem dL_law_2971 : decode cL_law 2971 = .ok (.iload 4, 2) := by decide +kernel
theorem dL_law_2973 : decode cL_law 2973 = .ok (.iconst 1, 1) := by decide +kernel
theorem dL_law_2974 : decode cL_law 2974 = .ok (.iadd, 1) := by decide +kernel
theorem dL_law_2975 : decode cL_law 2975 = .ok (.iaload, 1) := by decide +kernel
theorem dL_law_2976 : decode cL_law 2976 = .ok (.invokevirtual 363, 3) := by decide +kernel
theorem dL_law_2979 : decode cL_law 2979 = .ok (.istore 6, 2) := by decide +kernel
theorem dL_law_2981 : decode cL_law 2981 = .ok (.goto 29, 3) := by decide +kernel
theorem dL_law_2984 : decode cL_law 2984 = .ok (.aload_n 1, 1) := by decide +kernel
theorem dL_law_2985 : decode cL_law 2985 = .ok (.invokevirtual 364, 3) := by decide +kernel
theorem dL_law_2988 : decode cL_law 2988 = .ok (.pop, 1) := by decide +kernel
theorem dL_law_2989 : decode cL_law 2989 = .ok (.aload_n 2, 1) := by decide +kernel
theorem dL_law_2990 : decode cL_law 2990 = .ok (.invokevirtual 368, 3) := by decide +kernel
theorem dL_law_2993 : decode cL_law 2993 = .ok (.pop, 1) := by decide +kernel
theorem dL_law_2994 : decode cL_law 2994 = .ok (.goto 16, 3) := by decide +kernel
theorem dL_law_2997 : decode cL_law 2997 = .ok (.aload_n 1, 1) := by decide +kernel
theorem dL_law_2998 : decode cL_law 2998 = .ok (.invokevirtual 369, 3) := by decide +kernel
theorem dL_law_3001 : decode cL_law 3001 = .ok (.pop2, 1) := by decide +kernel
theorem dL_law_3002 : decode cL_law 3002 = .ok (.aload_n 2, 1) := by decide +kernel
theorem dL_law_3003 : decode cL_law 3003 = .ok (.invokevirtual 373, 3) := by decide +kernel
theorem dL_law_3006 : decode cL_law 3006 = .ok (.pop2, 1) := by decide +kernel
theorem dL_law_3007 : decode cL_law 3007 = .ok (.goto 3, 3) := by decide +kernel
theorem dL_law_3010 : decode cL_law 3010 = .ok (.iinc 4 5, 3) := by decide +kernel
theorem dL_law_3013 : decode cL_law 3013 = .ok (.goto (-2986), 3) := by decide +kernel
theorem dL_law_3016 : decode cL_law 3016 = .ok (.iconst 1, 1) := by decide +kernel
theorem dL_law_3017 : decode cL_law 3017 = .ok (.ireturn, 1) := by decide +kernel
