/-! the law's instructions, part 6 -/
theorem d_L_law_2423 : decode y_L_law.2.1 2423 = .ok (.iaload, 1) := by decide +kernel
theorem d_L_law_2424 : decode y_L_law.2.1 2424 = .ok (.aload_n 0, 1) := by decide +kernel
theorem d_L_law_2425 : decode y_L_law.2.1 2425 = .ok (.iload 4, 2) := by decide +kernel
theorem d_L_law_2427 : decode y_L_law.2.1 2427 = .ok (.iconst 3, 1) := by decide +kernel
theorem d_L_law_2428 : decode y_L_law.2.1 2428 = .ok (.iadd, 1) := by decide +kernel
theorem d_L_law_2429 : decode y_L_law.2.1 2429 = .ok (.iaload, 1) := by decide +kernel
theorem d_L_law_2430 : decode y_L_law.2.1 2430 = .ok (.aload_n 0, 1) := by decide +kernel
theorem d_L_law_2431 : decode y_L_law.2.1 2431 = .ok (.iload 4, 2) := by decide +kernel
theorem d_L_law_2433 : decode y_L_law.2.1 2433 = .ok (.iconst 4, 1) := by decide +kernel
theorem d_L_law_2434 : decode y_L_law.2.1 2434 = .ok (.iadd, 1) := by decide +kernel
theorem d_L_law_2435 : decode y_L_law.2.1 2435 = .ok (.iaload, 1) := by decide +kernel
theorem d_L_law_2436 : decode y_L_law.2.1 2436 = .ok (.aload_n 0, 1) := by decide +kernel
theorem d_L_law_2437 : decode y_L_law.2.1 2437 = .ok (.iload 4, 2) := by decide +kernel
theorem d_L_law_2439 : decode y_L_law.2.1 2439 = .ok (.iconst 5, 1) := by decide +kernel
theorem d_L_law_2440 : decode y_L_law.2.1 2440 = .ok (.iadd, 1) := by decide +kernel
theorem d_L_law_2441 : decode y_L_law.2.1 2441 = .ok (.iaload, 1) := by decide +kernel
theorem d_L_law_2442 : decode y_L_law.2.1 2442 = .ok (.aload_n 3, 1) := by decide +kernel
theorem d_L_law_2443 : decode y_L_law.2.1 2443 = .ok (.invokestatic 234, 3) := by decide +kernel
theorem d_L_law_2446 : decode y_L_law.2.1 2446 = .ok (.istore 5, 2) := by decide +kernel
theorem d_L_law_2448 : decode y_L_law.2.1 2448 = .ok (.aload_n 2, 1) := by decide +kernel
theorem d_L_law_2449 : decode y_L_law.2.1 2449 = .ok (.aload_n 0, 1) := by decide +kernel
theorem d_L_law_2450 : decode y_L_law.2.1 2450 = .ok (.iload 4, 2) := by decide +kernel
theorem d_L_law_2452 : decode y_L_law.2.1 2452 = .ok (.iconst 1, 1) := by decide +kernel
theorem d_L_law_2453 : decode y_L_law.2.1 2453 = .ok (.iadd, 1) := by decide +kernel
theorem d_L_law_2454 : decode y_L_law.2.1 2454 = .ok (.iaload, 1) := by decide +kernel
theorem d_L_law_2455 : decode y_L_law.2.1 2455 = .ok (.aload_n 0, 1) := by decide +kernel
theorem d_L_law_2456 : decode y_L_law.2.1 2456 = .ok (.iload 4, 2) := by decide +kernel
theorem d_L_law_2458 : decode y_L_law.2.1 2458 = .ok (.iconst 2, 1) := by decide +kernel
theorem d_L_law_2459 : decode y_L_law.2.1 2459 = .ok (.iadd, 1) := by decide +kernel
theorem d_L_law_2460 : decode y_L_law.2.1 2460 = .ok (.iaload, 1) := by decide +kernel
theorem d_L_law_2461 : decode y_L_law.2.1 2461 = .ok (.aload_n 0, 1) := by decide +kernel
theorem d_L_law_2462 : decode y_L_law.2.1 2462 = .ok (.iload 4, 2) := by decide +kernel
theorem d_L_law_2464 : decode y_L_law.2.1 2464 = .ok (.iconst 3, 1) := by decide +kernel
theorem d_L_law_2465 : decode y_L_law.2.1 2465 = .ok (.iadd, 1) := by decide +kernel
theorem d_L_law_2466 : decode y_L_law.2.1 2466 = .ok (.iaload, 1) := by decide +kernel
theorem d_L_law_2467 : decode y_L_law.2.1 2467 = .ok (.aload_n 0, 1) := by decide +kernel
theorem d_L_law_2468 : decode y_L_law.2.1 2468 = .ok (.iload 4, 2) := by decide +kernel
theorem d_L_law_2470 : decode y_L_law.2.1 2470 = .ok (.iconst 4, 1) := by decide +kernel
theorem d_L_law_2471 : decode y_L_law.2.1 2471 = .ok (.iadd, 1) := by decide +kernel
theorem d_L_law_2472 : decode y_L_law.2.1 2472 = .ok (.iaload, 1) := by decide +kernel
theorem d_L_law_2473 : decode y_L_law.2.1 2473 = .ok (.aload_n 0, 1) := by decide +kernel
theorem d_L_law_2474 : decode y_L_law.2.1 2474 = .ok (.iload 4, 2) := by decide +kernel
theorem d_L_law_2476 : decode y_L_law.2.1 2476 = .ok (.iconst 5, 1) := by decide +kernel
theorem d_L_law_2477 : decode y_L_law.2.1 2477 = .ok (.iadd, 1) := by decide +kernel
theorem d_L_law_2478 : decode y_L_law.2.1 2478 = .ok (.iaload, 1) := by decide +kernel
theorem d_L_law_2479 : decode y_L_law.2.1 2479 = .ok (.invokevirtual 236, 3) := by decide +kernel
theorem d_L_law_2482 : decode y_L_law.2.1 2482 = .ok (.istore 6, 2) := by decide +kernel
theorem d_L_law_2484 : decode y_L_law.2.1 2484 = .ok (.aload_n 2, 1) := by decide +kernel
theorem d_L_law_2485 : decode y_L_law.2.1 2485 = .ok (.invokevirtual 156, 3) := by decide +kernel
theorem d_L_law_2488 : decode y_L_law.2.1 2488 = .ok (.iload 5, 2) := by decide +kernel
theorem d_L_law_2490 : decode y_L_law.2.1 2490 = .ok (.if_icmp .eq 5, 3) := by decide +kernel
theorem d_L_law_2493 : decode y_L_law.2.1 2493 = .ok (.iconst 0, 1) := by decide +kernel
theorem d_L_law_2494 : decode y_L_law.2.1 2494 = .ok (.ireturn, 1) := by decide +kernel
theorem d_L_law_2495 : decode y_L_law.2.1 2495 = .ok (.iload 5, 2) := by decide +kernel
theorem d_L_law_2497 : decode y_L_law.2.1 2497 = .ok (.ifCond .ne 15, 3) := by decide +kernel
theorem d_L_law_2500 : decode y_L_law.2.1 2500 = .ok (.aload_n 3, 1) := by decide +kernel
theorem d_L_law_2501 : decode y_L_law.2.1 2501 = .ok (.iconst 0, 1) := by decide +kernel
theorem d_L_law_2502 : decode y_L_law.2.1 2502 = .ok (.laload, 1) := by decide +kernel
theorem d_L_law_2503 : decode y_L_law.2.1 2503 = .ok (.iload 6, 2) := by decide +kernel
theorem d_L_law_2505 : decode y_L_law.2.1 2505 = .ok (.i2l, 1) := by decide +kernel
theorem d_L_law_2506 : decode y_L_law.2.1 2506 = .ok (.lcmp, 1) := by decide +kernel
theorem d_L_law_2507 : decode y_L_law.2.1 2507 = .ok (.ifCond .eq 5, 3) := by decide +kernel
theorem d_L_law_2510 : decode y_L_law.2.1 2510 = .ok (.iconst 0, 1) := by decide +kernel
theorem d_L_law_2511 : decode y_L_law.2.1 2511 = .ok (.ireturn, 1) := by decide +kernel
theorem d_L_law_2512 : decode y_L_law.2.1 2512 = .ok (.goto 1357, 3) := by decide +kernel
theorem d_L_law_2515 : decode y_L_law.2.1 2515 = .ok (.aload_n 1, 1) := by decide +kernel
theorem d_L_law_2516 : decode y_L_law.2.1 2516 = .ok (.aload_n 0, 1) := by decide +kernel
theorem d_L_law_2517 : decode y_L_law.2.1 2517 = .ok (.iload 4, 2) := by decide +kernel
theorem d_L_law_2519 : decode y_L_law.2.1 2519 = .ok (.iconst 1, 1) := by decide +kernel
theorem d_L_law_2520 : decode y_L_law.2.1 2520 = .ok (.iadd, 1) := by decide +kernel
theorem d_L_law_2521 : decode y_L_law.2.1 2521 = .ok (.iaload, 1) := by decide +kernel
theorem d_L_law_2522 : decode y_L_law.2.1 2522 = .ok (.aload_n 0, 1) := by decide +kernel
theorem d_L_law_2523 : decode y_L_law.2.1 2523 = .ok (.iload 4, 2) := by decide +kernel
theorem d_L_law_2525 : decode y_L_law.2.1 2525 = .ok (.iconst 2, 1) := by decide +kernel
theorem d_L_law_2526 : decode y_L_law.2.1 2526 = .ok (.iadd, 1) := by decide +kernel
theorem d_L_law_2527 : decode y_L_law.2.1 2527 = .ok (.iaload, 1) := by decide +kernel
theorem d_L_law_2528 : decode y_L_law.2.1 2528 = .ok (.aload_n 0, 1) := by decide +kernel
theorem d_L_law_2529 : decode y_L_law.2.1 2529 = .ok (.iload 4, 2) := by decide +kernel
theorem d_L_law_2531 : decode y_L_law.2.1 2531 = .ok (.iconst 3, 1) := by decide +kernel
theorem d_L_law_2532 : decode y_L_law.2.1 2532 = .ok (.iadd, 1) := by decide +kernel
theorem d_L_law_2533 : decode y_L_law.2.1 2533 = .ok (.iaload, 1) := by decide +kernel
theorem d_L_law_2534 : decode y_L_law.2.1 2534 = .ok (.aload_n 3, 1) := by decide +kernel
theorem d_L_law_2535 : decode y_L_law.2.1 2535 = .ok (.invokestatic 237, 3) := by decide +kernel
theorem d_L_law_2538 : decode y_L_law.2.1 2538 = .ok (.istore 5, 2) := by decide +kernel
theorem d_L_law_2540 : decode y_L_law.2.1 2540 = .ok (.aload_n 2, 1) := by decide +kernel
theorem d_L_law_2541 : decode y_L_law.2.1 2541 = .ok (.aload_n 0, 1) := by decide +kernel
theorem d_L_law_2542 : decode y_L_law.2.1 2542 = .ok (.iload 4, 2) := by decide +kernel
theorem d_L_law_2544 : decode y_L_law.2.1 2544 = .ok (.iconst 1, 1) := by decide +kernel
theorem d_L_law_2545 : decode y_L_law.2.1 2545 = .ok (.iadd, 1) := by decide +kernel
theorem d_L_law_2546 : decode y_L_law.2.1 2546 = .ok (.iaload, 1) := by decide +kernel
theorem d_L_law_2547 : decode y_L_law.2.1 2547 = .ok (.aload_n 0, 1) := by decide +kernel
theorem d_L_law_2548 : decode y_L_law.2.1 2548 = .ok (.iload 4, 2) := by decide +kernel
theorem d_L_law_2550 : decode y_L_law.2.1 2550 = .ok (.iconst 2, 1) := by decide +kernel
theorem d_L_law_2551 : decode y_L_law.2.1 2551 = .ok (.iadd, 1) := by decide +kernel
theorem d_L_law_2552 : decode y_L_law.2.1 2552 = .ok (.iaload, 1) := by decide +kernel
theorem d_L_law_2553 : decode y_L_law.2.1 2553 = .ok (.aload_n 0, 1) := by decide +kernel
theorem d_L_law_2554 : decode y_L_law.2.1 2554 = .ok (.iload 4, 2) := by decide +kernel
theorem d_L_law_2556 : decode y_L_law.2.1 2556 = .ok (.iconst 3, 1) := by decide +kernel
theorem d_L_law_2557 : decode y_L_law.2.1 2557 = .ok (.iadd, 1) := by decide +kernel
theorem d_L_law_2558 : decode y_L_law.2.1 2558 = .ok (.iaload, 1) := by decide +kernel
theorem d_L_law_2559 : decode y_L_law.2.1 2559 = .ok (.invokevirtual 239, 3) := by decide +kernel
theorem d_L_law_2562 : decode y_L_law.2.1 2562 = .ok (.istore 6, 2) := by decide +kernel
theorem d_L_law_2564 : decode y_L_law.2.1 2564 = .ok (.aload_n 2, 1) := by decide +kernel
theorem d_L_law_2565 : decode y_L_law.2.1 2565 = .ok (.invokevirtual 156, 3) := by decide +kernel
theorem d_L_law_2568 : decode y_L_law.2.1 2568 = .ok (.iload 5, 2) := by decide +kernel
theorem d_L_law_2570 : decode y_L_law.2.1 2570 = .ok (.if_icmp .eq 5, 3) := by decide +kernel
theorem d_L_law_2573 : decode y_L_law.2.1 2573 = .ok (.iconst 0, 1) := by decide +kernel
theorem d_L_law_2574 : decode y_L_law.2.1 2574 = .ok (.ireturn, 1) := by decide +kernel
theorem d_L_law_2575 : decode y_L_law.2.1 2575 = .ok (.iload 5, 2) := by decide +kernel
theorem d_L_law_2577 : decode y_L_law.2.1 2577 = .ok (.ifCond .ne 15, 3) := by decide +kernel
theorem d_L_law_2580 : decode y_L_law.2.1 2580 = .ok (.aload_n 3, 1) := by decide +kernel
theorem d_L_law_2581 : decode y_L_law.2.1 2581 = .ok (.iconst 0, 1) := by decide +kernel
theorem d_L_law_2582 : decode y_L_law.2.1 2582 = .ok (.laload, 1) := by decide +kernel
theorem d_L_law_2583 : decode y_L_law.2.1 2583 = .ok (.iload 6, 2) := by decide +kernel
theorem d_L_law_2585 : decode y_L_law.2.1 2585 = .ok (.i2l, 1) := by decide +kernel
theorem d_L_law_2586 : decode y_L_law.2.1 2586 = .ok (.lcmp, 1) := by decide +kernel
theorem d_L_law_2587 : decode y_L_law.2.1 2587 = .ok (.ifCond .eq 5, 3) := by decide +kernel
theorem d_L_law_2590 : decode y_L_law.2.1 2590 = .ok (.iconst 0, 1) := by decide +kernel
theorem d_L_law_2591 : decode y_L_law.2.1 2591 = .ok (.ireturn, 1) := by decide +kernel
theorem d_L_law_2592 : decode y_L_law.2.1 2592 = .ok (.goto 1277, 3) := by decide +kernel
theorem d_L_law_2595 : decode y_L_law.2.1 2595 = .ok (.aload_n 1, 1) := by decide +kernel
theorem d_L_law_2596 : decode y_L_law.2.1 2596 = .ok (.aload_n 0, 1) := by decide +kernel
theorem d_L_law_2597 : decode y_L_law.2.1 2597 = .ok (.iload 4, 2) := by decide +kernel
theorem d_L_law_2599 : decode y_L_law.2.1 2599 = .ok (.iconst 1, 1) := by decide +kernel
theorem d_L_law_2600 : decode y_L_law.2.1 2600 = .ok (.iadd, 1) := by decide +kernel
theorem d_L_law_2601 : decode y_L_law.2.1 2601 = .ok (.iaload, 1) := by decide +kernel
theorem d_L_law_2602 : decode y_L_law.2.1 2602 = .ok (.aload_n 0, 1) := by decide +kernel
theorem d_L_law_2603 : decode y_L_law.2.1 2603 = .ok (.iload 4, 2) := by decide +kernel
theorem d_L_law_2605 : decode y_L_law.2.1 2605 = .ok (.iconst 2, 1) := by decide +kernel
theorem d_L_law_2606 : decode y_L_law.2.1 2606 = .ok (.iadd, 1) := by decide +kernel
theorem d_L_law_2607 : decode y_L_law.2.1 2607 = .ok (.iaload, 1) := by decide +kernel
theorem d_L_law_2608 : decode y_L_law.2.1 2608 = .ok (.aload_n 0, 1) := by decide +kernel
theorem d_L_law_2609 : decode y_L_law.2.1 2609 = .ok (.iload 4, 2) := by decide +kernel
theorem d_L_law_2611 : decode y_L_law.2.1 2611 = .ok (.iconst 3, 1) := by decide +kernel
theorem d_L_law_2612 : decode y_L_law.2.1 2612 = .ok (.iadd, 1) := by decide +kernel
theorem d_L_law_2613 : decode y_L_law.2.1 2613 = .ok (.iaload, 1) := by decide +kernel
theorem d_L_law_2614 : decode y_L_law.2.1 2614 = .ok (.aload_n 0, 1) := by decide +kernel
theorem d_L_law_2615 : decode y_L_law.2.1 2615 = .ok (.iload 4, 2) := by decide +kernel
theorem d_L_law_2617 : decode y_L_law.2.1 2617 = .ok (.iconst 4, 1) := by decide +kernel
theorem d_L_law_2618 : decode y_L_law.2.1 2618 = .ok (.iadd, 1) := by decide +kernel
theorem d_L_law_2619 : decode y_L_law.2.1 2619 = .ok (.iaload, 1) := by decide +kernel
theorem d_L_law_2620 : decode y_L_law.2.1 2620 = .ok (.aload_n 3, 1) := by decide +kernel
theorem d_L_law_2621 : decode y_L_law.2.1 2621 = .ok (.invokestatic 240, 3) := by decide +kernel
theorem d_L_law_2624 : decode y_L_law.2.1 2624 = .ok (.istore 5, 2) := by decide +kernel
theorem d_L_law_2626 : decode y_L_law.2.1 2626 = .ok (.aload_n 2, 1) := by decide +kernel
theorem d_L_law_2627 : decode y_L_law.2.1 2627 = .ok (.aload_n 0, 1) := by decide +kernel
theorem d_L_law_2628 : decode y_L_law.2.1 2628 = .ok (.iload 4, 2) := by decide +kernel
theorem d_L_law_2630 : decode y_L_law.2.1 2630 = .ok (.iconst 1, 1) := by decide +kernel
theorem d_L_law_2631 : decode y_L_law.2.1 2631 = .ok (.iadd, 1) := by decide +kernel
theorem d_L_law_2632 : decode y_L_law.2.1 2632 = .ok (.iaload, 1) := by decide +kernel
theorem d_L_law_2633 : decode y_L_law.2.1 2633 = .ok (.aload_n 0, 1) := by decide +kernel
theorem d_L_law_2634 : decode y_L_law.2.1 2634 = .ok (.iload 4, 2) := by decide +kernel
theorem d_L_law_2636 : decode y_L_law.2.1 2636 = .ok (.iconst 2, 1) := by decide +kernel
theorem d_L_law_2637 : decode y_L_law.2.1 2637 = .ok (.iadd, 1) := by decide +kernel
theorem d_L_law_2638 : decode y_L_law.2.1 2638 = .ok (.iaload, 1) := by decide +kernel
theorem d_L_law_2639 : decode y_L_law.2.1 2639 = .ok (.aload_n 0, 1) := by decide +kernel
theorem d_L_law_2640 : decode y_L_law.2.1 2640 = .ok (.iload 4, 2) := by decide +kernel
theorem d_L_law_2642 : decode y_L_law.2.1 2642 = .ok (.iconst 3, 1) := by decide +kernel
theorem d_L_law_2643 : decode y_L_law.2.1 2643 = .ok (.iadd, 1) := by decide +kernel
theorem d_L_law_2644 : decode y_L_law.2.1 2644 = .ok (.iaload, 1) := by decide +kernel
theorem d_L_law_2645 : decode y_L_law.2.1 2645 = .ok (.aload_n 0, 1) := by decide +kernel
theorem d_L_law_2646 : decode y_L_law.2.1 2646 = .ok (.iload 4, 2) := by decide +kernel
theorem d_L_law_2648 : decode y_L_law.2.1 2648 = .ok (.iconst 4, 1) := by decide +kernel
theorem d_L_law_2649 : decode y_L_law.2.1 2649 = .ok (.iadd, 1) := by decide +kernel
theorem d_L_law_2650 : decode y_L_law.2.1 2650 = .ok (.iaload, 1) := by decide +kernel
theorem d_L_law_2651 : decode y_L_law.2.1 2651 = .ok (.invokevirtual 242, 3) := by decide +kernel
theorem d_L_law_2654 : decode y_L_law.2.1 2654 = .ok (.istore 6, 2) := by decide +kernel
theorem d_L_law_2656 : decode y_L_law.2.1 2656 = .ok (.aload_n 2, 1) := by decide +kernel
theorem d_L_law_2657 : decode y_L_law.2.1 2657 = .ok (.invokevirtual 156, 3) := by decide +kernel
theorem d_L_law_2660 : decode y_L_law.2.1 2660 = .ok (.iload 5, 2) := by decide +kernel
theorem d_L_law_2662 : decode y_L_law.2.1 2662 = .ok (.if_icmp .eq 5, 3) := by decide +kernel
theorem d_L_law_2665 : decode y_L_law.2.1 2665 = .ok (.iconst 0, 1) := by decide +kernel
theorem d_L_law_2666 : decode y_L_law.2.1 2666 = .ok (.ireturn, 1) := by decide +kernel
theorem d_L_law_2667 : decode y_L_law.2.1 2667 = .ok (.iload 5, 2) := by decide +kernel
theorem d_L_law_2669 : decode y_L_law.2.1 2669 = .ok (.ifCond .ne 15, 3) := by decide +kernel
theorem d_L_law_2672 : decode y_L_law.2.1 2672 = .ok (.aload_n 3, 1) := by decide +kernel
theorem d_L_law_2673 : decode y_L_law.2.1 2673 = .ok (.iconst 0, 1) := by decide +kernel
theorem d_L_law_2674 : decode y_L_law.2.1 2674 = .ok (.laload, 1) := by decide +kernel
theorem d_L_law_2675 : decode y_L_law.2.1 2675 = .ok (.iload 6, 2) := by decide +kernel
theorem d_L_law_2677 : decode y_L_law.2.1 2677 = .ok (.i2l, 1) := by decide +kernel
theorem d_L_law_2678 : decode y_L_law.2.1 2678 = .ok (.lcmp, 1) := by decide +kernel
theorem d_L_law_2679 : decode y_L_law.2.1 2679 = .ok (.ifCond .eq 5, 3) := by decide +kernel
theorem d_L_law_2682 : decode y_L_law.2.1 2682 = .ok (.iconst 0, 1) := by decide +kernel
theorem d_L_law_2683 : decode y_L_law.2.1 2683 = .ok (.ireturn, 1) := by decide +kernel
theorem d_L_law_2684 : decode y_L_law.2.1 2684 = .ok (.goto 1185, 3) := by decide +kernel
theorem d_L_law_2687 : decode y_L_law.2.1 2687 = .ok (.aload_n 1, 1) := by decide +kernel
theorem d_L_law_2688 : decode y_L_law.2.1 2688 = .ok (.aload_n 0, 1) := by decide +kernel
theorem d_L_law_2689 : decode y_L_law.2.1 2689 = .ok (.iload 4, 2) := by decide +kernel
theorem d_L_law_2691 : decode y_L_law.2.1 2691 = .ok (.iconst 1, 1) := by decide +kernel
theorem d_L_law_2692 : decode y_L_law.2.1 2692 = .ok (.iadd, 1) := by decide +kernel
theorem d_L_law_2693 : decode y_L_law.2.1 2693 = .ok (.iaload, 1) := by decide +kernel
theorem d_L_law_2694 : decode y_L_law.2.1 2694 = .ok (.aload_n 0, 1) := by decide +kernel
theorem d_L_law_2695 : decode y_L_law.2.1 2695 = .ok (.iload 4, 2) := by decide +kernel
theorem d_L_law_2697 : decode y_L_law.2.1 2697 = .ok (.iconst 2, 1) := by decide +kernel
theorem d_L_law_2698 : decode y_L_law.2.1 2698 = .ok (.iadd, 1) := by decide +kernel
theorem d_L_law_2699 : decode y_L_law.2.1 2699 = .ok (.iaload, 1) := by decide +kernel
theorem d_L_law_2700 : decode y_L_law.2.1 2700 = .ok (.aload_n 3, 1) := by decide +kernel
theorem d_L_law_2701 : decode y_L_law.2.1 2701 = .ok (.invokestatic 243, 3) := by decide +kernel
theorem d_L_law_2704 : decode y_L_law.2.1 2704 = .ok (.istore 5, 2) := by decide +kernel
theorem d_L_law_2706 : decode y_L_law.2.1 2706 = .ok (.aload_n 2, 1) := by decide +kernel
theorem d_L_law_2707 : decode y_L_law.2.1 2707 = .ok (.aload_n 0, 1) := by decide +kernel
theorem d_L_law_2708 : decode y_L_law.2.1 2708 = .ok (.iload 4, 2) := by decide +kernel
theorem d_L_law_2710 : decode y_L_law.2.1 2710 = .ok (.iconst 1, 1) := by decide +kernel
theorem d_L_law_2711 : decode y_L_law.2.1 2711 = .ok (.iadd, 1) := by decide +kernel
theorem d_L_law_2712 : decode y_L_law.2.1 2712 = .ok (.iaload, 1) := by decide +kernel
theorem d_L_law_2713 : decode y_L_law.2.1 2713 = .ok (.aload_n 0, 1) := by decide +kernel
theorem d_L_law_2714 : decode y_L_law.2.1 2714 = .ok (.iload 4, 2) := by decide +kernel
theorem d_L_law_2716 : decode y_L_law.2.1 2716 = .ok (.iconst 2, 1) := by decide +kernel
theorem d_L_law_2717 : decode y_L_law.2.1 2717 = .ok (.iadd, 1) := by decide +kernel
theorem d_L_law_2718 : decode y_L_law.2.1 2718 = .ok (.iaload, 1) := by decide +kernel
theorem d_L_law_2719 : decode y_L_law.2.1 2719 = .ok (.invokevirtual 245, 3) := by decide +kernel
theorem d_L_law_2722 : decode y_L_law.2.1 2722 = .ok (.istore 6, 2) := by decide +kernel
theorem d_L_law_2724 : decode y_L_law.2.1 2724 = .ok (.aload_n 2, 1) := by decide +kernel
theorem d_L_law_2725 : decode y_L_law.2.1 2725 = .ok (.invokevirtual 156, 3) := by decide +kernel
theorem d_L_law_2728 : decode y_L_law.2.1 2728 = .ok (.iload 5, 2) := by decide +kernel
theorem d_L_law_2730 : decode y_L_law.2.1 2730 = .ok (.if_icmp .eq 5, 3) := by decide +kernel
theorem d_L_law_2733 : decode y_L_law.2.1 2733 = .ok (.iconst 0, 1) := by decide +kernel
theorem d_L_law_2734 : decode y_L_law.2.1 2734 = .ok (.ireturn, 1) := by decide +kernel
theorem d_L_law_2735 : decode y_L_law.2.1 2735 = .ok (.iload 5, 2) := by decide +kernel
theorem d_L_law_2737 : decode y_L_law.2.1 2737 = .ok (.ifCond .ne 15, 3) := by decide +kernel
theorem d_L_law_2740 : decode y_L_law.2.1 2740 = .ok (.aload_n 3, 1) := by decide +kernel
theorem d_L_law_2741 : decode y_L_law.2.1 2741 = .ok (.iconst 0, 1) := by decide +kernel
theorem d_L_law_2742 : decode y_L_law.2.1 2742 = .ok (.laload, 1) := by decide +kernel
theorem d_L_law_2743 : decode y_L_law.2.1 2743 = .ok (.iload 6, 2) := by decide +kernel
theorem d_L_law_2745 : decode y_L_law.2.1 2745 = .ok (.i2l, 1) := by decide +kernel
theorem d_L_law_2746 : decode y_L_law.2.1 2746 = .ok (.lcmp, 1) := by decide +kernel
theorem d_L_law_2747 : decode y_L_law.2.1 2747 = .ok (.ifCond .eq 5, 3) := by decide +kernel
theorem d_L_law_2750 : decode y_L_law.2.1 2750 = .ok (.iconst 0, 1) := by decide +kernel
theorem d_L_law_2751 : decode y_L_law.2.1 2751 = .ok (.ireturn, 1) := by decide +kernel
theorem d_L_law_2752 : decode y_L_law.2.1 2752 = .ok (.goto 1117, 3) := by decide +kernel
theorem d_L_law_2755 : decode y_L_law.2.1 2755 = .ok (.aload_n 1, 1) := by decide +kernel
theorem d_L_law_2756 : decode y_L_law.2.1 2756 = .ok (.aload_n 0, 1) := by decide +kernel
theorem d_L_law_2757 : decode y_L_law.2.1 2757 = .ok (.iload 4, 2) := by decide +kernel
theorem d_L_law_2759 : decode y_L_law.2.1 2759 = .ok (.iconst 1, 1) := by decide +kernel
theorem d_L_law_2760 : decode y_L_law.2.1 2760 = .ok (.iadd, 1) := by decide +kernel
theorem d_L_law_2761 : decode y_L_law.2.1 2761 = .ok (.iaload, 1) := by decide +kernel
theorem d_L_law_2762 : decode y_L_law.2.1 2762 = .ok (.aload_n 0, 1) := by decide +kernel
theorem d_L_law_2763 : decode y_L_law.2.1 2763 = .ok (.iload 4, 2) := by decide +kernel
theorem d_L_law_2765 : decode y_L_law.2.1 2765 = .ok (.iconst 2, 1) := by decide +kernel
theorem d_L_law_2766 : decode y_L_law.2.1 2766 = .ok (.iadd, 1) := by decide +kernel
theorem d_L_law_2767 : decode y_L_law.2.1 2767 = .ok (.iaload, 1) := by decide +kernel
theorem d_L_law_2768 : decode y_L_law.2.1 2768 = .ok (.aload_n 0, 1) := by decide +kernel
theorem d_L_law_2769 : decode y_L_law.2.1 2769 = .ok (.iload 4, 2) := by decide +kernel
theorem d_L_law_2771 : decode y_L_law.2.1 2771 = .ok (.iconst 3, 1) := by decide +kernel
theorem d_L_law_2772 : decode y_L_law.2.1 2772 = .ok (.iadd, 1) := by decide +kernel
theorem d_L_law_2773 : decode y_L_law.2.1 2773 = .ok (.iaload, 1) := by decide +kernel
theorem d_L_law_2774 : decode y_L_law.2.1 2774 = .ok (.aload_n 0, 1) := by decide +kernel
theorem d_L_law_2775 : decode y_L_law.2.1 2775 = .ok (.iload 4, 2) := by decide +kernel
theorem d_L_law_2777 : decode y_L_law.2.1 2777 = .ok (.iconst 4, 1) := by decide +kernel
theorem d_L_law_2778 : decode y_L_law.2.1 2778 = .ok (.iadd, 1) := by decide +kernel
theorem d_L_law_2779 : decode y_L_law.2.1 2779 = .ok (.iaload, 1) := by decide +kernel
theorem d_L_law_2780 : decode y_L_law.2.1 2780 = .ok (.aload_n 0, 1) := by decide +kernel
theorem d_L_law_2781 : decode y_L_law.2.1 2781 = .ok (.iload 4, 2) := by decide +kernel
theorem d_L_law_2783 : decode y_L_law.2.1 2783 = .ok (.iconst 5, 1) := by decide +kernel
theorem d_L_law_2784 : decode y_L_law.2.1 2784 = .ok (.iadd, 1) := by decide +kernel
theorem d_L_law_2785 : decode y_L_law.2.1 2785 = .ok (.iaload, 1) := by decide +kernel
theorem d_L_law_2786 : decode y_L_law.2.1 2786 = .ok (.aload_n 0, 1) := by decide +kernel
theorem d_L_law_2787 : decode y_L_law.2.1 2787 = .ok (.iload 4, 2) := by decide +kernel
theorem d_L_law_2789 : decode y_L_law.2.1 2789 = .ok (.bipush 6, 2) := by decide +kernel
theorem d_L_law_2791 : decode y_L_law.2.1 2791 = .ok (.iadd, 1) := by decide +kernel
