/-! DECODE ROWS of the law (printed) -/
theorem dL_law__2452 : decode cL_law_ 2452 = .ok (.laload, 1) := by decide +kernel
theorem dL_law__2453 : decode cL_law_ 2453 = .ok (.iload 6, 2) := by decide +kernel
theorem dL_law__2455 : decode cL_law_ 2455 = .ok (.i2l, 1) := by decide +kernel
theorem dL_law__2456 : decode cL_law_ 2456 = .ok (.lcmp, 1) := by decide +kernel
theorem dL_law__2457 : decode cL_law_ 2457 = .ok (.ifCond .eq 5, 3) := by decide +kernel
theorem dL_law__2460 : decode cL_law_ 2460 = .ok (.iconst 0, 1) := by decide +kernel
theorem dL_law__2461 : decode cL_law_ 2461 = .ok (.ireturn, 1) := by decide +kernel
theorem dL_law__2462 : decode cL_law_ 2462 = .ok (.goto 676, 3) := by decide +kernel
theorem dL_law__2465 : decode cL_law_ 2465 = .ok (.aload_n 1, 1) := by decide +kernel
theorem dL_law__2466 : decode cL_law_ 2466 = .ok (.aload_n 0, 1) := by decide +kernel
theorem dL_law__2467 : decode cL_law_ 2467 = .ok (.iload 4, 2) := by decide +kernel
theorem dL_law__2469 : decode cL_law_ 2469 = .ok (.iconst 1, 1) := by decide +kernel
theorem dL_law__2470 : decode cL_law_ 2470 = .ok (.iadd, 1) := by decide +kernel
theorem dL_law__2471 : decode cL_law_ 2471 = .ok (.iaload, 1) := by decide +kernel
theorem dL_law__2472 : decode cL_law_ 2472 = .ok (.aload_n 0, 1) := by decide +kernel
theorem dL_law__2473 : decode cL_law_ 2473 = .ok (.iload 4, 2) := by decide +kernel
theorem dL_law__2475 : decode cL_law_ 2475 = .ok (.iconst 2, 1) := by decide +kernel
theorem dL_law__2476 : decode cL_law_ 2476 = .ok (.iadd, 1) := by decide +kernel
theorem dL_law__2477 : decode cL_law_ 2477 = .ok (.iaload, 1) := by decide +kernel
theorem dL_law__2478 : decode cL_law_ 2478 = .ok (.aload_n 3, 1) := by decide +kernel
theorem dL_law__2479 : decode cL_law_ 2479 = .ok (.invokestatic 270, 3) := by decide +kernel
theorem dL_law__2482 : decode cL_law_ 2482 = .ok (.istore 5, 2) := by decide +kernel
theorem dL_law__2484 : decode cL_law_ 2484 = .ok (.aload_n 2, 1) := by decide +kernel
theorem dL_law__2485 : decode cL_law_ 2485 = .ok (.aload_n 0, 1) := by decide +kernel
theorem dL_law__2486 : decode cL_law_ 2486 = .ok (.iload 4, 2) := by decide +kernel
theorem dL_law__2488 : decode cL_law_ 2488 = .ok (.iconst 1, 1) := by decide +kernel
theorem dL_law__2489 : decode cL_law_ 2489 = .ok (.iadd, 1) := by decide +kernel
theorem dL_law__2490 : decode cL_law_ 2490 = .ok (.iaload, 1) := by decide +kernel
theorem dL_law__2491 : decode cL_law_ 2491 = .ok (.aload_n 0, 1) := by decide +kernel
theorem dL_law__2492 : decode cL_law_ 2492 = .ok (.iload 4, 2) := by decide +kernel
theorem dL_law__2494 : decode cL_law_ 2494 = .ok (.iconst 2, 1) := by decide +kernel
theorem dL_law__2495 : decode cL_law_ 2495 = .ok (.iadd, 1) := by decide +kernel
theorem dL_law__2496 : decode cL_law_ 2496 = .ok (.iaload, 1) := by decide +kernel
theorem dL_law__2497 : decode cL_law_ 2497 = .ok (.invokevirtual 272, 3) := by decide +kernel
theorem dL_law__2500 : decode cL_law_ 2500 = .ok (.istore 6, 2) := by decide +kernel
theorem dL_law__2502 : decode cL_law_ 2502 = .ok (.aload_n 2, 1) := by decide +kernel
theorem dL_law__2503 : decode cL_law_ 2503 = .ok (.invokevirtual 151, 3) := by decide +kernel
theorem dL_law__2506 : decode cL_law_ 2506 = .ok (.iload 5, 2) := by decide +kernel
theorem dL_law__2508 : decode cL_law_ 2508 = .ok (.if_icmp .eq 5, 3) := by decide +kernel
theorem dL_law__2511 : decode cL_law_ 2511 = .ok (.iconst 0, 1) := by decide +kernel
theorem dL_law__2512 : decode cL_law_ 2512 = .ok (.ireturn, 1) := by decide +kernel
theorem dL_law__2513 : decode cL_law_ 2513 = .ok (.iload 5, 2) := by decide +kernel
theorem dL_law__2515 : decode cL_law_ 2515 = .ok (.ifCond .ne 15, 3) := by decide +kernel
theorem dL_law__2518 : decode cL_law_ 2518 = .ok (.aload_n 3, 1) := by decide +kernel
theorem dL_law__2519 : decode cL_law_ 2519 = .ok (.iconst 0, 1) := by decide +kernel
theorem dL_law__2520 : decode cL_law_ 2520 = .ok (.laload, 1) := by decide +kernel
theorem dL_law__2521 : decode cL_law_ 2521 = .ok (.iload 6, 2) := by decide +kernel
theorem dL_law__2523 : decode cL_law_ 2523 = .ok (.i2l, 1) := by decide +kernel
theorem dL_law__2524 : decode cL_law_ 2524 = .ok (.lcmp, 1) := by decide +kernel
theorem dL_law__2525 : decode cL_law_ 2525 = .ok (.ifCond .eq 5, 3) := by decide +kernel
theorem dL_law__2528 : decode cL_law_ 2528 = .ok (.iconst 0, 1) := by decide +kernel
theorem dL_law__2529 : decode cL_law_ 2529 = .ok (.ireturn, 1) := by decide +kernel
theorem dL_law__2530 : decode cL_law_ 2530 = .ok (.goto 608, 3) := by decide +kernel
theorem dL_law__2533 : decode cL_law_ 2533 = .ok (.aload_n 1, 1) := by decide +kernel
theorem dL_law__2534 : decode cL_law_ 2534 = .ok (.aload_n 0, 1) := by decide +kernel
theorem dL_law__2535 : decode cL_law_ 2535 = .ok (.iload 4, 2) := by decide +kernel
theorem dL_law__2537 : decode cL_law_ 2537 = .ok (.iconst 1, 1) := by decide +kernel
theorem dL_law__2538 : decode cL_law_ 2538 = .ok (.iadd, 1) := by decide +kernel
theorem dL_law__2539 : decode cL_law_ 2539 = .ok (.iaload, 1) := by decide +kernel
theorem dL_law__2540 : decode cL_law_ 2540 = .ok (.aload_n 0, 1) := by decide +kernel
theorem dL_law__2541 : decode cL_law_ 2541 = .ok (.iload 4, 2) := by decide +kernel
theorem dL_law__2543 : decode cL_law_ 2543 = .ok (.iconst 2, 1) := by decide +kernel
theorem dL_law__2544 : decode cL_law_ 2544 = .ok (.iadd, 1) := by decide +kernel
theorem dL_law__2545 : decode cL_law_ 2545 = .ok (.iaload, 1) := by decide +kernel
theorem dL_law__2546 : decode cL_law_ 2546 = .ok (.aload_n 3, 1) := by decide +kernel
theorem dL_law__2547 : decode cL_law_ 2547 = .ok (.invokestatic 273, 3) := by decide +kernel
theorem dL_law__2550 : decode cL_law_ 2550 = .ok (.istore 5, 2) := by decide +kernel
theorem dL_law__2552 : decode cL_law_ 2552 = .ok (.aload_n 2, 1) := by decide +kernel
theorem dL_law__2553 : decode cL_law_ 2553 = .ok (.aload_n 0, 1) := by decide +kernel
theorem dL_law__2554 : decode cL_law_ 2554 = .ok (.iload 4, 2) := by decide +kernel
theorem dL_law__2556 : decode cL_law_ 2556 = .ok (.iconst 1, 1) := by decide +kernel
theorem dL_law__2557 : decode cL_law_ 2557 = .ok (.iadd, 1) := by decide +kernel
theorem dL_law__2558 : decode cL_law_ 2558 = .ok (.iaload, 1) := by decide +kernel
theorem dL_law__2559 : decode cL_law_ 2559 = .ok (.aload_n 0, 1) := by decide +kernel
theorem dL_law__2560 : decode cL_law_ 2560 = .ok (.iload 4, 2) := by decide +kernel
theorem dL_law__2562 : decode cL_law_ 2562 = .ok (.iconst 2, 1) := by decide +kernel
theorem dL_law__2563 : decode cL_law_ 2563 = .ok (.iadd, 1) := by decide +kernel
theorem dL_law__2564 : decode cL_law_ 2564 = .ok (.iaload, 1) := by decide +kernel
theorem dL_law__2565 : decode cL_law_ 2565 = .ok (.invokevirtual 275, 3) := by decide +kernel
theorem dL_law__2568 : decode cL_law_ 2568 = .ok (.istore 6, 2) := by decide +kernel
theorem dL_law__2570 : decode cL_law_ 2570 = .ok (.aload_n 2, 1) := by decide +kernel
theorem dL_law__2571 : decode cL_law_ 2571 = .ok (.invokevirtual 151, 3) := by decide +kernel
theorem dL_law__2574 : decode cL_law_ 2574 = .ok (.iload 5, 2) := by decide +kernel
theorem dL_law__2576 : decode cL_law_ 2576 = .ok (.if_icmp .eq 5, 3) := by decide +kernel
theorem dL_law__2579 : decode cL_law_ 2579 = .ok (.iconst 0, 1) := by decide +kernel
theorem dL_law__2580 : decode cL_law_ 2580 = .ok (.ireturn, 1) := by decide +kernel
theorem dL_law__2581 : decode cL_law_ 2581 = .ok (.iload 5, 2) := by decide +kernel
theorem dL_law__2583 : decode cL_law_ 2583 = .ok (.ifCond .ne 15, 3) := by decide +kernel
theorem dL_law__2586 : decode cL_law_ 2586 = .ok (.aload_n 3, 1) := by decide +kernel
theorem dL_law__2587 : decode cL_law_ 2587 = .ok (.iconst 0, 1) := by decide +kernel
theorem dL_law__2588 : decode cL_law_ 2588 = .ok (.laload, 1) := by decide +kernel
theorem dL_law__2589 : decode cL_law_ 2589 = .ok (.iload 6, 2) := by decide +kernel
theorem dL_law__2591 : decode cL_law_ 2591 = .ok (.i2l, 1) := by decide +kernel
theorem dL_law__2592 : decode cL_law_ 2592 = .ok (.lcmp, 1) := by decide +kernel
theorem dL_law__2593 : decode cL_law_ 2593 = .ok (.ifCond .eq 5, 3) := by decide +kernel
theorem dL_law__2596 : decode cL_law_ 2596 = .ok (.iconst 0, 1) := by decide +kernel
theorem dL_law__2597 : decode cL_law_ 2597 = .ok (.ireturn, 1) := by decide +kernel
theorem dL_law__2598 : decode cL_law_ 2598 = .ok (.goto 540, 3) := by decide +kernel
theorem dL_law__2601 : decode cL_law_ 2601 = .ok (.aload_n 1, 1) := by decide +kernel
theorem dL_law__2602 : decode cL_law_ 2602 = .ok (.aload_n 0, 1) := by decide +kernel
theorem dL_law__2603 : decode cL_law_ 2603 = .ok (.iload 4, 2) := by decide +kernel
theorem dL_law__2605 : decode cL_law_ 2605 = .ok (.iconst 1, 1) := by decide +kernel
theorem dL_law__2606 : decode cL_law_ 2606 = .ok (.iadd, 1) := by decide +kernel
theorem dL_law__2607 : decode cL_law_ 2607 = .ok (.iaload, 1) := by decide +kernel
theorem dL_law__2608 : decode cL_law_ 2608 = .ok (.aload_n 3, 1) := by decide +kernel
theorem dL_law__2609 : decode cL_law_ 2609 = .ok (.invokestatic 276, 3) := by decide +kernel
theorem dL_law__2612 : decode cL_law_ 2612 = .ok (.istore 5, 2) := by decide +kernel
theorem dL_law__2614 : decode cL_law_ 2614 = .ok (.aload_n 2, 1) := by decide +kernel
theorem dL_law__2615 : decode cL_law_ 2615 = .ok (.aload_n 0, 1) := by decide +kernel
theorem dL_law__2616 : decode cL_law_ 2616 = .ok (.iload 4, 2) := by decide +kernel
theorem dL_law__2618 : decode cL_law_ 2618 = .ok (.iconst 1, 1) := by decide +kernel
theorem dL_law__2619 : decode cL_law_ 2619 = .ok (.iadd, 1) := by decide +kernel
theorem dL_law__2620 : decode cL_law_ 2620 = .ok (.iaload, 1) := by decide +kernel
theorem dL_law__2621 : decode cL_law_ 2621 = .ok (.invokevirtual 278, 3) := by decide +kernel
theorem dL_law__2624 : decode cL_law_ 2624 = .ok (.istore 6, 2) := by decide +kernel
theorem dL_law__2626 : decode cL_law_ 2626 = .ok (.aload_n 2, 1) := by decide +kernel
theorem dL_law__2627 : decode cL_law_ 2627 = .ok (.invokevirtual 151, 3) := by decide +kernel
theorem dL_law__2630 : decode cL_law_ 2630 = .ok (.iload 5, 2) := by decide +kernel
theorem dL_law__2632 : decode cL_law_ 2632 = .ok (.if_icmp .eq 5, 3) := by decide +kernel
theorem dL_law__2635 : decode cL_law_ 2635 = .ok (.iconst 0, 1) := by decide +kernel
theorem dL_law__2636 : decode cL_law_ 2636 = .ok (.ireturn, 1) := by decide +kernel
theorem dL_law__2637 : decode cL_law_ 2637 = .ok (.iload 5, 2) := by decide +kernel
theorem dL_law__2639 : decode cL_law_ 2639 = .ok (.ifCond .ne 15, 3) := by decide +kernel
theorem dL_law__2642 : decode cL_law_ 2642 = .ok (.aload_n 3, 1) := by decide +kernel
theorem dL_law__2643 : decode cL_law_ 2643 = .ok (.iconst 0, 1) := by decide +kernel
theorem dL_law__2644 : decode cL_law_ 2644 = .ok (.laload, 1) := by decide +kernel
theorem dL_law__2645 : decode cL_law_ 2645 = .ok (.iload 6, 2) := by decide +kernel
theorem dL_law__2647 : decode cL_law_ 2647 = .ok (.i2l, 1) := by decide +kernel
theorem dL_law__2648 : decode cL_law_ 2648 = .ok (.lcmp, 1) := by decide +kernel
theorem dL_law__2649 : decode cL_law_ 2649 = .ok (.ifCond .eq 5, 3) := by decide +kernel
theorem dL_law__2652 : decode cL_law_ 2652 = .ok (.iconst 0, 1) := by decide +kernel
theorem dL_law__2653 : decode cL_law_ 2653 = .ok (.ireturn, 1) := by decide +kernel
theorem dL_law__2654 : decode cL_law_ 2654 = .ok (.goto 484, 3) := by decide +kernel
theorem dL_law__2657 : decode cL_law_ 2657 = .ok (.aload_n 1, 1) := by decide +kernel
theorem dL_law__2658 : decode cL_law_ 2658 = .ok (.aload_n 0, 1) := by decide +kernel
theorem dL_law__2659 : decode cL_law_ 2659 = .ok (.iload 4, 2) := by decide +kernel
theorem dL_law__2661 : decode cL_law_ 2661 = .ok (.iconst 1, 1) := by decide +kernel
theorem dL_law__2662 : decode cL_law_ 2662 = .ok (.iadd, 1) := by decide +kernel
theorem dL_law__2663 : decode cL_law_ 2663 = .ok (.iaload, 1) := by decide +kernel
theorem dL_law__2664 : decode cL_law_ 2664 = .ok (.aload_n 0, 1) := by decide +kernel
theorem dL_law__2665 : decode cL_law_ 2665 = .ok (.iload 4, 2) := by decide +kernel
theorem dL_law__2667 : decode cL_law_ 2667 = .ok (.iconst 2, 1) := by decide +kernel
theorem dL_law__2668 : decode cL_law_ 2668 = .ok (.iadd, 1) := by decide +kernel
theorem dL_law__2669 : decode cL_law_ 2669 = .ok (.iaload, 1) := by decide +kernel
theorem dL_law__2670 : decode cL_law_ 2670 = .ok (.aload_n 3, 1) := by decide +kernel
theorem dL_law__2671 : decode cL_law_ 2671 = .ok (.invokestatic 279, 3) := by decide +kernel
theorem dL_law__2674 : decode cL_law_ 2674 = .ok (.istore 5, 2) := by decide +kernel
theorem dL_law__2676 : decode cL_law_ 2676 = .ok (.aload_n 2, 1) := by decide +kernel
theorem dL_law__2677 : decode cL_law_ 2677 = .ok (.aload_n 0, 1) := by decide +kernel
theorem dL_law__2678 : decode cL_law_ 2678 = .ok (.iload 4, 2) := by decide +kernel
theorem dL_law__2680 : decode cL_law_ 2680 = .ok (.iconst 1, 1) := by decide +kernel
theorem dL_law__2681 : decode cL_law_ 2681 = .ok (.iadd, 1) := by decide +kernel
theorem dL_law__2682 : decode cL_law_ 2682 = .ok (.iaload, 1) := by decide +kernel
theorem dL_law__2683 : decode cL_law_ 2683 = .ok (.aload_n 0, 1) := by decide +kernel
theorem dL_law__2684 : decode cL_law_ 2684 = .ok (.iload 4, 2) := by decide +kernel
theorem dL_law__2686 : decode cL_law_ 2686 = .ok (.iconst 2, 1) := by decide +kernel
theorem dL_law__2687 : decode cL_law_ 2687 = .ok (.iadd, 1) := by decide +kernel
theorem dL_law__2688 : decode cL_law_ 2688 = .ok (.iaload, 1) := by decide +kernel
theorem dL_law__2689 : decode cL_law_ 2689 = .ok (.invokevirtual 281, 3) := by decide +kernel
theorem dL_law__2692 : decode cL_law_ 2692 = .ok (.istore 6, 2) := by decide +kernel
theorem dL_law__2694 : decode cL_law_ 2694 = .ok (.aload_n 2, 1) := by decide +kernel
theorem dL_law__2695 : decode cL_law_ 2695 = .ok (.invokevirtual 151, 3) := by decide +kernel
theorem dL_law__2698 : decode cL_law_ 2698 = .ok (.iload 5, 2) := by decide +kernel
theorem dL_law__2700 : decode cL_law_ 2700 = .ok (.if_icmp .eq 5, 3) := by decide +kernel
theorem dL_law__2703 : decode cL_law_ 2703 = .ok (.iconst 0, 1) := by decide +kernel
theorem dL_law__2704 : decode cL_law_ 2704 = .ok (.ireturn, 1) := by decide +kernel
theorem dL_law__2705 : decode cL_law_ 2705 = .ok (.iload 5, 2) := by decide +kernel
theorem dL_law__2707 : decode cL_law_ 2707 = .ok (.ifCond .ne 15, 3) := by decide +kernel
theorem dL_law__2710 : decode cL_law_ 2710 = .ok (.aload_n 3, 1) := by decide +kernel
theorem dL_law__2711 : decode cL_law_ 2711 = .ok (.iconst 0, 1) := by decide +kernel
theorem dL_law__2712 : decode cL_law_ 2712 = .ok (.laload, 1) := by decide +kernel
theorem dL_law__2713 : decode cL_law_ 2713 = .ok (.iload 6, 2) := by decide +kernel
theorem dL_law__2715 : decode cL_law_ 2715 = .ok (.i2l, 1) := by decide +kernel
theorem dL_law__2716 : decode cL_law_ 2716 = .ok (.lcmp, 1) := by decide +kernel
theorem dL_law__2717 : decode cL_law_ 2717 = .ok (.ifCond .eq 5, 3) := by decide +kernel
theorem dL_law__2720 : decode cL_law_ 2720 = .ok (.iconst 0, 1) := by decide +kernel
theorem dL_law__2721 : decode cL_law_ 2721 = .ok (.ireturn, 1) := by decide +kernel
theorem dL_law__2722 : decode cL_law_ 2722 = .ok (.goto 416, 3) := by decide +kernel
theorem dL_law__2725 : decode cL_law_ 2725 = .ok (.aload_n 1, 1) := by decide +kernel
theorem dL_law__2726 : decode cL_law_ 2726 = .ok (.aload_n 0, 1) := by decide +kernel
theorem dL_law__2727 : decode cL_law_ 2727 = .ok (.iload 4, 2) := by decide +kernel
theorem dL_law__2729 : decode cL_law_ 2729 = .ok (.iconst 1, 1) := by decide +kernel
theorem dL_law__2730 : decode cL_law_ 2730 = .ok (.iadd, 1) := by decide +kernel
theorem dL_law__2731 : decode cL_law_ 2731 = .ok (.iaload, 1) := by decide +kernel
theorem dL_law__2732 : decode cL_law_ 2732 = .ok (.aload_n 0, 1) := by decide +kernel
theorem dL_law__2733 : decode cL_law_ 2733 = .ok (.iload 4, 2) := by decide +kernel
theorem dL_law__2735 : decode cL_law_ 2735 = .ok (.iconst 2, 1) := by decide +kernel
theorem dL_law__2736 : decode cL_law_ 2736 = .ok (.iadd, 1) := by decide +kernel
theorem dL_law__2737 : decode cL_law_ 2737 = .ok (.iaload, 1) := by decide +kernel
theorem dL_law__2738 : decode cL_law_ 2738 = .ok (.aload_n 3, 1) := by decide +kernel
theorem dL_law__2739 : decode cL_law_ 2739 = .ok (.invokestatic 282, 3) := by decide +kernel
theorem dL_law__2742 : decode cL_law_ 2742 = .ok (.istore 5, 2) := by decide +kernel
theorem dL_law__2744 : decode cL_law_ 2744 = .ok (.aload_n 2, 1) := by decide +kernel
theorem dL_law__2745 : decode cL_law_ 2745 = .ok (.aload_n 0, 1) := by decide +kernel
theorem dL_law__2746 : decode cL_law_ 2746 = .ok (.iload 4, 2) := by decide +kernel
theorem dL_law__2748 : decode cL_law_ 2748 = .ok (.iconst 1, 1) := by decide +kernel
theorem dL_law__2749 : decode cL_law_ 2749 = .ok (.iadd, 1) := by decide +kernel
theorem dL_law__2750 : decode cL_law_ 2750 = .ok (.iaload, 1) := by decide +kernel
theorem dL_law__2751 : decode cL_law_ 2751 = .ok (.aload_n 0, 1) := by decide +kernel
theorem dL_law__2752 : decode cL_law_ 2752 = .ok (.iload 4, 2) := by decide +kernel
theorem dL_law__2754 : decode cL_law_ 2754 = .ok (.iconst 2, 1) := by decide +kernel
theorem dL_law__2755 : decode cL_law_ 2755 = .ok (.iadd, 1) := by decide +kernel
theorem dL_law__2756 : decode cL_law_ 2756 = .ok (.iaload, 1) := by decide +kernel
theorem dL_law__2757 : decode cL_law_ 2757 = .ok (.invokevirtual 284, 3) := by decide +kernel
theorem dL_law__2760 : decode cL_law_ 2760 = .ok (.istore 6, 2) := by decide +kernel
theorem dL_law__2762 : decode cL_law_ 2762 = .ok (.aload_n 2, 1) := by decide +kernel
theorem dL_law__2763 : decode cL_law_ 2763 = .ok (.invokevirtual 151, 3) := by decide +kernel
theorem dL_law__2766 : decode cL_law_ 2766 = .ok (.iload 5, 2) := by decide +kernel
theorem dL_law__2768 : decode cL_law_ 2768 = .ok (.if_icmp .eq 5, 3) := by decide +kernel
theorem dL_law__2771 : decode cL_law_ 2771 = .ok (.iconst 0, 1) := by decide +kernel
theorem dL_law__2772 : decode cL_law_ 2772 = .ok (.ireturn, 1) := by decide +kernel
theorem dL_law__2773 : decode cL_law_ 2773 = .ok (.iload 5, 2) := by decide +kernel
theorem dL_law__2775 : decode cL_law_ 2775 = .ok (.ifCond .ne 15, 3) := by decide +kernel
theorem dL_law__2778 : decode cL_law_ 2778 = .ok (.aload_n 3, 1) := by decide +kernel
theorem dL_law__2779 : decode cL_law_ 2779 = .ok (.iconst 0, 1) := by decide +kernel
theorem dL_law__2780 : decode cL_law_ 2780 = .ok (.laload, 1) := by decide +kernel
theorem dL_law__2781 : decode cL_law_ 2781 = .ok (.iload 6, 2) := by decide +kernel
theorem dL_law__2783 : decode cL_law_ 2783 = .ok (.i2l, 1) := by decide +kernel
theorem dL_law__2784 : decode cL_law_ 2784 = .ok (.lcmp, 1) := by decide +kernel
theorem dL_law__2785 : decode cL_law_ 2785 = .ok (.ifCond .eq 5, 3) := by decide +kernel
theorem dL_law__2788 : decode cL_law_ 2788 = .ok (.iconst 0, 1) := by decide +kernel
theorem dL_law__2789 : decode cL_law_ 2789 = .ok (.ireturn, 1) := by decide +kernel
theorem dL_law__2790 : decode cL_law_ 2790 = .ok (.goto 348, 3) := by decide +kernel
theorem dL_law__2793 : decode cL_law_ 2793 = .ok (.aload_n 1, 1) := by decide +kernel
theorem dL_law__2794 : decode cL_law_ 2794 = .ok (.aload_n 0, 1) := by decide +kernel
theorem dL_law__2795 : decode cL_law_ 2795 = .ok (.iload 4, 2) := by decide +kernel
theorem dL_law__2797 : decode cL_law_ 2797 = .ok (.iconst 1, 1) := by decide +kernel
theorem dL_law__2798 : decode cL_law_ 2798 = .ok (.iadd, 1) := by decide +kernel
theorem dL_law__2799 : decode cL_law_ 2799 = .ok (.iaload, 1) := by decide +kernel
theorem dL_law__2800 : decode cL_law_ 2800 = .ok (.aload_n 0, 1) := by decide +kernel
theorem dL_law__2801 : decode cL_law_ 2801 = .ok (.iload 4, 2) := by decide +kernel
theorem dL_law__2803 : decode cL_law_ 2803 = .ok (.iconst 2, 1) := by decide +kernel
theorem dL_law__2804 : decode cL_law_ 2804 = .ok (.iadd, 1) := by decide +kernel
theorem dL_law__2805 : decode cL_law_ 2805 = .ok (.iaload, 1) := by decide +kernel
theorem dL_law__2806 : decode cL_law_ 2806 = .ok (.aload_n 3, 1) := by decide +kernel
theorem dL_law__2807 : decode cL_law_ 2807 = .ok (.invokestatic 285, 3) := by decide +kernel
theorem dL_law__2810 : decode cL_law_ 2810 = .ok (.istore 5, 2) := by decide +kernel
theorem dL_law__2812 : decode cL_law_ 2812 = .ok (.aload_n 2, 1) := by decide +kernel
theorem dL_law__2813 : decode cL_law_ 2813 = .ok (.aload_n 0, 1) := by decide +kernel
theorem dL_law__2814 : decode cL_law_ 2814 = .ok (.iload 4, 2) := by decide +kernel
theorem dL_law__2816 : decode cL_law_ 2816 = .ok (.iconst 1, 1) := by decide +kernel
theorem dL_law__2817 : decode cL_law_ 2817 = .ok (.iadd, 1) := by decide +kernel
theorem dL_law__2818 : decode cL_law_ 2818 = .ok (.iaload, 1) := by decide +kernel
theorem dL_law__2819 : decode cL_law_ 2819 = .ok (.aload_n 0, 1) := by decide +kernel
theorem dL_law__2820 : decode cL_law_ 2820 = .ok (.iload 4, 2) := by decide +kernel
theorem dL_law__2822 : decode cL_law_ 2822 = .ok (.iconst 2, 1) := by decide +kernel
theorem dL_law__2823 : decode cL_law_ 2823 = .ok (.iadd, 1) := by decide +kernel
theorem dL_law__2824 : decode cL_law_ 2824 = .ok (.iaload, 1) := by decide +kernel
theorem dL_law__2825 : decode cL_law_ 2825 = .ok (.invokevirtual 287, 3) := by decide +kernel
theorem dL_law__2828 : decode cL_law_ 2828 = .ok (.istore 6, 2) := by decide +kernel
theorem dL_law__2830 : decode cL_law_ 2830 = .ok (.aload_n 2, 1) := by decide +kernel
theorem dL_law__2831 : decode cL_law_ 2831 = .ok (.invokevirtual 151, 3) := by decide +kernel
theorem dL_law__2834 : decode cL_law_ 2834 = .ok (.iload 5, 2) := by decide +kernel
theorem dL_law__2836 : decode cL_law_ 2836 = .ok (.if_icmp .eq 5, 3) := by decide +kernel
theorem dL_law__2839 : decode cL_law_ 2839 = .ok (.iconst 0, 1) := by decide +kernel
theorem dL_law__2840 : decode cL_law_ 2840 = .ok (.ireturn, 1) := by decide +kernel
theorem dL_law__2841 : decode cL_law_ 2841 = .ok (.iload 5, 2) := by decide +kernel
theorem dL_law__2843 : decode cL_law_ 2843 = .ok (.ifCond .ne 15, 3) := by decide +kernel
theorem dL_law__2846 : decode cL_law_ 2846 = .ok (.aload_n 3, 1) := by decide +kernel
theorem dL_law__2847 : decode cL_law_ 2847 = .ok (.iconst 0, 1) := by decide +kernel
theorem dL_law__2848 : decode cL_law_ 2848 = .ok (.laload, 1) := by decide +kernel
theorem dL_law__2849 : decode cL_law_ 2849 = .ok (.iload 6, 2) := by decide +kernel
theorem dL_law__2851 : decode cL_law_ 2851 = .ok (.i2l, 1) := by decide +kernel
theorem dL_law__2852 : decode cL_law_ 2852 = .ok (.lcmp, 1) := by decide +kernel
theorem dL_law__2853 : decode cL_law_ 2853 = .ok (.ifCond .eq 5, 3) := by decide +kernel
theorem dL_law__2856 : decode cL_law_ 2856 = .ok (.iconst 0, 1) := by decide +kernel
theorem dL_law__2857 : decode cL_law_ 2857 = .ok (.ireturn, 1) := by decide +kernel
theorem dL_law__2858 : decode cL_law_ 2858 = .ok (.goto 280, 3) := by decide +kernel
theorem dL_law__2861 : decode cL_law_ 2861 = .ok (.aload_n 1, 1) := by decide +kernel
theorem dL_law__2862 : decode cL_law_ 2862 = .ok (.aload_n 0, 1) := by decide +kernel
theorem dL_law__2863 : decode cL_law_ 2863 = .ok (.iload 4, 2) := by decide +kernel
theorem dL_law__2865 : decode cL_law_ 2865 = .ok (.iconst 1, 1) := by decide +kernel
theorem dL_law__2866 : decode cL_law_ 2866 = .ok (.iadd, 1) := by decide +kernel
theorem dL_law__2867 : decode cL_law_ 2867 = .ok (.iaload, 1) := by decide +kernel
theorem dL_law__2868 : decode cL_law_ 2868 = .ok (.aload_n 0, 1) := by decide +kernel
theorem dL_law__2869 : decode cL_law_ 2869 = .ok (.iload 4, 2) := by decide +kernel
theorem dL_law__2871 : decode cL_law_ 2871 = .ok (.iconst 2, 1) := by decide +kernel
theorem dL_law__2872 : decode cL_law_ 2872 = .ok (.iadd, 1) := by decide +kernel
theorem dL_law__2873 : decode cL_law_ 2873 = .ok (.iaload, 1) := by decide +kernel
theorem dL_law__2874 : decode cL_law_ 2874 = .ok (.aload_n 0, 1) := by decide +kernel
theorem dL_law__2875 : decode cL_law_ 2875 = .ok (.iload 4, 2) := by decide +kernel
theorem dL_law__2877 : decode cL_law_ 2877 = .ok (.iconst 3, 1) := by decide +kernel
theorem dL_law__2878 : decode cL_law_ 2878 = .ok (.iadd, 1) := by decide +kernel
theorem dL_law__2879 : decode cL_law_ 2879 = .ok (.iaload, 1) := by decide +kernel
theorem dL_law__2880 : decode cL_law_ 2880 = .ok (.aload_n 3, 1) := by decide +kernel
theorem dL_law__2881 : decode cL_law_ 2881 = .ok (.invokestatic 288, 3) := by decide +kernel
theorem dL_law__2884 : decode cL_law_ 2884 = .ok (.istore 5, 2) := by decide +kernel
theorem dL_law__2886 : decode cL_law_ 2886 = .ok (.aload_n 2, 1) := by decide +kernel
theorem dL_law__2887 : decode cL_law_ 2887 = .ok (.aload_n 0, 1) := by decide +kernel
theorem dL_law__2888 : decode cL_law_ 2888 = .ok (.iload 4, 2) := by decide +kernel
theorem dL_law__2890 : decode cL_law_ 2890 = .ok (.iconst 1, 1) := by decide +kernel
theorem dL_law__2891 : decode cL_law_ 2891 = .ok (.iadd, 1) := by decide +kernel
theorem dL_law__2892 : decode cL_law_ 2892 = .ok (.iaload, 1) := by decide +kernel
theorem dL_law__2893 : decode cL_law_ 2893 = .ok (.aload_n 0, 1) := by decide +kernel
theorem dL_law__2894 : decode cL_law_ 2894 = .ok (.iload 4, 2) := by decide +kernel
theorem dL_law__2896 : decode cL_law_ 2896 = .ok (.iconst 2, 1) := by decide +kernel
theorem dL_law__2897 : decode cL_law_ 2897 = .ok (.iadd, 1) := by decide +kernel
theorem dL_law__2898 : decode cL_law_ 2898 = .ok (.iaload, 1) := by decide +kernel
theorem dL_law__2899 : decode cL_law_ 2899 = .ok (.aload_n 0, 1) := by decide +kernel
theorem dL_law__2900 : decode cL_law_ 2900 = .ok (.iload 4, 2) := by decide +kernel
theorem dL_law__2902 : decode cL_law_ 2902 = .ok (.iconst 3, 1) := by decide +kernel
theorem dL_law__2903 : decode cL_law_ 2903 = .ok (.iadd, 1) := by decide +kernel
theorem dL_law__2904 : decode cL_law_ 2904 = .ok (.iaload, 1) := by decide +kernel
theorem dL_law__2905 : decode cL_law_ 2905 = .ok (.invokevirtual 290, 3) := by decide +kernel
theorem dL_law__2908 : decode cL_law_ 2908 = .ok (.istore 6, 2) := by decide +kernel
theorem dL_law__2910 : decode cL_law_ 2910 = .ok (.aload_n 2, 1) := by decide +kernel
theorem dL_law__2911 : decode cL_law_ 2911 = .ok (.invokevirtual 151, 3) := by decide +kernel
theorem dL_law__2914 : decode cL_law_ 2914 = .ok (.iload 5, 2) := by decide +kernel
theorem dL_law__2916 : decode cL_law_ 2916 = .ok (.if_icmp .eq 5, 3) := by decide +kernel
theorem dL_law__2919 : decode cL_law_ 2919 = .ok (.iconst 0, 1) := by decide +kernel
theorem dL_law__2920 : decode cL_law_ 2920 = .ok (.ireturn, 1) := by decide +kernel
theorem dL_law__2921 : decode cL_law_ 2921 = .ok (.iload 5, 2) := by decide +kernel
theorem dL_law__2923 : decode cL_law_ 2923 = .ok (.ifCond .ne 15, 3) := by decide +kernel
theorem dL_law__2926 : decode cL_law_ 2926 = .ok (.aload_n 3, 1) := by decide +kernel
theorem dL_law__2927 : decode cL_law_ 2927 = .ok (.iconst 0, 1) := by decide +kernel
theorem dL_law__2928 : decode cL_law_ 2928 = .ok (.laload, 1) := by decide +kernel
theorem dL_law__2929 : decode cL_law_ 2929 = .ok (.iload 6, 2) := by decide +kernel
theorem dL_law__2931 : decode cL_law_ 2931 = .ok (.i2l, 1) := by decide +kernel
theorem dL_law__2932 : decode cL_law_ 2932 = .ok (.lcmp, 1) := by decide +kernel
theorem dL_law__2933 : decode cL_law_ 2933 = .ok (.ifCond .eq 5, 3) := by decide +kernel
theorem dL_law__2936 : decode cL_law_ 2936 = .ok (.iconst 0, 1) := by decide +kernel
theorem dL_law__2937 : decode cL_law_ 2937 = .ok (.ireturn, 1) := by decide +kernel
theorem dL_law__2938 : decode cL_law_ 2938 = .ok (.goto 200, 3) := by decide +kernel
theorem dL_law__2941 : decode cL_law_ 2941 = .ok (.aload_n 1, 1) := by decide +kernel
theorem dL_law__2942 : decode cL_law_ 2942 = .ok (.aload_n 0, 1) := by decide +kernel
theorem dL_law__2943 : decode cL_law_ 2943 = .ok (.iload 4, 2) := by decide +kernel
theorem dL_law__2945 : decode cL_law_ 2945 = .ok (.iconst 1, 1) := by decide +kernel
theorem dL_law__2946 : decode cL_law_ 2946 = .ok (.iadd, 1) := by decide +kernel
theorem dL_law__2947 : decode cL_law_ 2947 = .ok (.iaload, 1) := by decide +kernel
theorem dL_law__2948 : decode cL_law_ 2948 = .ok (.aload_n 0, 1) := by decide +kernel
theorem dL_law__2949 : decode cL_law_ 2949 = .ok (.iload 4, 2) := by decide +kernel
theorem dL_law__2951 : decode cL_law_ 2951 = .ok (.iconst 2, 1) := by decide +kernel
theorem dL_law__2952 : decode cL_law_ 2952 = .ok (.iadd, 1) := by decide +kernel
theorem dL_law__2953 : decode cL_law_ 2953 = .ok (.iaload, 1) := by decide +kernel
theorem dL_law__2954 : decode cL_law_ 2954 = .ok (.aload_n 0, 1) := by decide +kernel
theorem dL_law__2955 : decode cL_law_ 2955 = .ok (.iload 4, 2) := by decide +kernel
theorem dL_law__2957 : decode cL_law_ 2957 = .ok (.iconst 3, 1) := by decide +kernel
theorem dL_law__2958 : decode cL_law_ 2958 = .ok (.iadd, 1) := by decide +kernel
theorem dL_law__2959 : decode cL_law_ 2959 = .ok (.iaload, 1) := by decide +kernel
theorem dL_law__2960 : decode cL_law_ 2960 = .ok (.aload_n 0, 1) := by decide +kernel
theorem dL_law__2961 : decode cL_law_ 2961 = .ok (.iload 4, 2) := by decide +kernel
theorem dL_law__2963 : decode cL_law_ 2963 = .ok (.iconst 4, 1) := by decide +kernel
theorem dL_law__2964 : decode cL_law_ 2964 = .ok (.iadd, 1) := by decide +kernel
theorem dL_law__2965 : decode cL_law_ 2965 = .ok (.iaload, 1) := by decide +kernel
theorem dL_law__2966 : decode cL_law_ 2966 = .ok (.aload_n 3, 1) := by decide +kernel
theorem dL_law__2967 : decode cL_law_ 2967 = .ok (.invokestatic 291, 3) := by decide +kernel
theorem dL_law__2970 : decode cL_law_ 2970 = .ok (.istore 5, 2) := by decide +kernel
theorem dL_law__2972 : decode cL_law_ 2972 = .ok (.aload_n 2, 1) := by decide +kernel
theorem dL_law__2973 : decode cL_law_ 2973 = .ok (.aload_n 0, 1) := by decide +kernel
theorem dL_law__2974 : decode cL_law_ 2974 = .ok (.iload 4, 2) := by decide +kernel
theorem dL_law__2976 : decode cL_law_ 2976 = .ok (.iconst 1, 1) := by decide +kernel
theorem dL_law__2977 : decode cL_law_ 2977 = .ok (.iadd, 1) := by decide +kernel
theorem dL_law__2978 : decode cL_law_ 2978 = .ok (.iaload, 1) := by decide +kernel
theorem dL_law__2979 : decode cL_law_ 2979 = .ok (.aload_n 0, 1) := by decide +kernel
theorem dL_law__2980 : decode cL_law_ 2980 = .ok (.iload 4, 2) := by decide +kernel
theorem dL_law__2982 : decode cL_law_ 2982 = .ok (.iconst 2, 1) := by decide +kernel
theorem dL_law__2983 : decode cL_law_ 2983 = .ok (.iadd, 1) := by decide +kernel
theorem dL_law__2984 : decode cL_law_ 2984 = .ok (.iaload, 1) := by decide +kernel
theorem dL_law__2985 : decode cL_law_ 2985 = .ok (.aload_n 0, 1) := by decide +kernel
theorem dL_law__2986 : decode cL_law_ 2986 = .ok (.iload 4, 2) := by decide +kernel
theorem dL_law__2988 : decode cL_law_ 2988 = .ok (.iconst 3, 1) := by decide +kernel
theorem dL_law__2989 : decode cL_law_ 2989 = .ok (.iadd, 1) := by decide +kernel
theorem dL_law__2990 : decode cL_law_ 2990 = .ok (.iaload, 1) := by decide +kernel
theorem dL_law__2991 : decode cL_law_ 2991 = .ok (.aload_n 0, 1) := by decide +kernel
theorem dL_law__2992 : decode cL_law_ 2992 = .ok (.iload 4, 2) := by decide +kernel
theorem dL_law__2994 : decode cL_law_ 2994 = .ok (.iconst 4, 1) := by decide +kernel
theorem dL_law__2995 : decode cL_law_ 2995 = .ok (.iadd, 1) := by decide +kernel
theorem dL_law__2996 : decode cL_law_ 2996 = .ok (.iaload, 1) := by decide +kernel
theorem dL_law__2997 : decode cL_law_ 2997 = .ok (.invokevirtual 293, 3) := by decide +kernel
theorem dL_law__3000 : decode cL_law_ 3000 = .ok (.istore 6, 2) := by decide +kernel
theorem dL_law__3002 : decode cL_law_ 3002 = .ok (.aload_n 2, 1) := by decide +kernel
theorem dL_law__3003 : decode cL_law_ 3003 = .ok (.invokevirtual 151, 3) := by decide +kernel
theorem dL_law__3006 : decode cL_law_ 3006 = .ok (.iload 5, 2) := by decide +kernel
theorem dL_law__3008 : decode cL_law_ 3008 = .ok (.if_icmp .eq 5, 3) := by decide +kernel
theorem dL_law__3011 : decode cL_law_ 3011 = .ok (.iconst 0, 1) := by decide +kernel
theorem dL_law__3012 : decode cL_law_ 3012 = .ok (.ireturn, 1) := by decide +kernel
theorem dL_law__3013 : decode cL_law_ 3013 = .ok (.iload 5, 2) := by decide +kernel
theorem dL_law__3015 : decode cL_law_ 3015 = .ok (.ifCond .ne 15, 3) := by decide +kernel
theorem dL_law__3018 : decode cL_law_ 3018 = .ok (.aload_n 3, 1) := by decide +kernel
theorem dL_law__3019 : decode cL_law_ 3019 = .ok (.iconst 0, 1) := by decide +kernel
theorem dL_law__3020 : decode cL_law_ 3020 = .ok (.laload, 1) := by decide +kernel
theorem dL_law__3021 : decode cL_law_ 3021 = .ok (.iload 6, 2) := by decide +kernel
theorem dL_law__3023 : decode cL_law_ 3023 = .ok (.i2l, 1) := by decide +kernel
theorem dL_law__3024 : decode cL_law_ 3024 = .ok (.lcmp, 1) := by decide +kernel
theorem dL_law__3025 : decode cL_law_ 3025 = .ok (.ifCond .eq 5, 3) := by decide +kernel
theorem dL_law__3028 : decode cL_law_ 3028 = .ok (.iconst 0, 1) := by decide +kernel
theorem dL_law__3029 : decode cL_law_ 3029 = .ok (.ireturn, 1) := by decide +kernel
theorem dL_law__3030 : decode cL_law_ 3030 = .ok (.goto 108, 3) := by decide +kernel
theorem dL_law__3033 : decode cL_law_ 3033 = .ok (.aload_n 1, 1) := by decide +kernel
theorem dL_law__3034 : decode cL_law_ 3034 = .ok (.aload_n 0, 1) := by decide +kernel
theorem dL_law__3035 : decode cL_law_ 3035 = .ok (.iload 4, 2) := by decide +kernel
theorem dL_law__3037 : decode cL_law_ 3037 = .ok (.iconst 1, 1) := by decide +kernel
theorem dL_law__3038 : decode cL_law_ 3038 = .ok (.iadd, 1) := by decide +kernel
theorem dL_law__3039 : decode cL_law_ 3039 = .ok (.iaload, 1) := by decide +kernel
theorem dL_law__3040 : decode cL_law_ 3040 = .ok (.aload_n 0, 1) := by decide +kernel
theorem dL_law__3041 : decode cL_law_ 3041 = .ok (.iload 4, 2) := by decide +kernel
theorem dL_law__3043 : decode cL_law_ 3043 = .ok (.iconst 2, 1) := by decide +kernel
theorem dL_law__3044 : decode cL_law_ 3044 = .ok (.iadd, 1) := by decide +kernel
theorem dL_law__3045 : decode cL_law_ 3045 = .ok (.iaload, 1) := by decide +kernel
theorem dL_law__3046 : decode cL_law_ 3046 = .ok (.aload_n 0, 1) := by decide +kernel
theorem dL_law__3047 : decode cL_law_ 3047 = .ok (.iload 4, 2) := by decide +kernel
theorem dL_law__3049 : decode cL_law_ 3049 = .ok (.iconst 3, 1) := by decide +kernel
theorem dL_law__3050 : decode cL_law_ 3050 = .ok (.iadd, 1) := by decide +kernel
theorem dL_law__3051 : decode cL_law_ 3051 = .ok (.iaload, 1) := by decide +kernel
theorem dL_law__3052 : decode cL_law_ 3052 = .ok (.aload_n 3, 1) := by decide +kernel
theorem dL_law__3053 : decode cL_law_ 3053 = .ok (.invokestatic 294, 3) := by decide +kernel
theorem dL_law__3056 : decode cL_law_ 3056 = .ok (.istore 5, 2) := by decide +kernel
theorem dL_law__3058 : decode cL_law_ 3058 = .ok (.aload_n 2, 1) := by decide +kernel
theorem dL_law__3059 : decode cL_law_ 3059 = .ok (.aload_n 0, 1) := by decide +kernel
theorem dL_law__3060 : decode cL_law_ 3060 = .ok (.iload 4, 2) := by decide +kernel
theorem dL_law__3062 : decode cL_law_ 3062 = .ok (.iconst 1, 1) := by decide +kernel
theorem dL_law__3063 : decode cL_law_ 3063 = .ok (.iadd, 1) := by decide +kernel
theorem dL_law__3064 : decode cL_law_ 3064 = .ok (.iaload, 1) := by decide +kernel
theorem dL_law__3065 : decode cL_law_ 3065 = .ok (.aload_n 0, 1) := by decide +kernel
theorem dL_law__3066 : decode cL_law_ 3066 = .ok (.iload 4, 2) := by decide +kernel
theorem dL_law__3068 : decode cL_law_ 3068 = .ok (.iconst 2, 1) := by decide +kernel
theorem dL_law__3069 : decode cL_law_ 3069 = .ok (.iadd, 1) := by decide +kernel
theorem dL_law__3070 : decode cL_law_ 3070 = .ok (.iaload, 1) := by decide +kernel
theorem dL_law__3071 : decode cL_law_ 3071 = .ok (.aload_n 0, 1) := by decide +kernel
theorem dL_law__3072 : decode cL_law_ 3072 = .ok (.iload 4, 2) := by decide +kernel
theorem dL_law__3074 : decode cL_law_ 3074 = .ok (.iconst 3, 1) := by decide +kernel
theorem dL_law__3075 : decode cL_law_ 3075 = .ok (.iadd, 1) := by decide +kernel
theorem dL_law__3076 : decode cL_law_ 3076 = .ok (.iaload, 1) := by decide +kernel
theorem dL_law__3077 : decode cL_law_ 3077 = .ok (.invokevirtual 296, 3) := by decide +kernel
theorem dL_law__3080 : decode cL_law_ 3080 = .ok (.istore 6, 2) := by decide +kernel
theorem dL_law__3082 : decode cL_law_ 3082 = .ok (.aload_n 2, 1) := by decide +kernel
theorem dL_law__3083 : decode cL_law_ 3083 = .ok (.invokevirtual 151, 3) := by decide +kernel
theorem dL_law__3086 : decode cL_law_ 3086 = .ok (.iload 5, 2) := by decide +kernel
theorem dL_law__3088 : decode cL_law_ 3088 = .ok (.if_icmp .eq 5, 3) := by decide +kernel
theorem dL_law__3091 : decode cL_law_ 3091 = .ok (.iconst 0, 1) := by decide +kernel
theorem dL_law__3092 : decode cL_law_ 3092 = .ok (.ireturn, 1) := by decide +kernel
theorem dL_law__3093 : decode cL_law_ 3093 = .ok (.iload 5, 2) := by decide +kernel
theorem dL_law__3095 : decode cL_law_ 3095 = .ok (.ifCond .ne 15, 3) := by decide +kernel
theorem dL_law__3098 : decode cL_law_ 3098 = .ok (.aload_n 3, 1) := by decide +kernel
theorem dL_law__3099 : decode cL_law_ 3099 = .ok (.iconst 0, 1) := by decide +kernel
theorem dL_law__3100 : decode cL_law_ 3100 = .ok (.laload, 1) := by decide +kernel
theorem dL_law__3101 : decode cL_law_ 3101 = .ok (.iload 6, 2) := by decide +kernel
theorem dL_law__3103 : decode cL_law_ 3103 = .ok (.i2l, 1) := by decide +kernel
theorem dL_law__3104 : decode cL_law_ 3104 = .ok (.lcmp, 1) := by decide +kernel
theorem dL_law__3105 : decode cL_law_ 3105 = .ok (.ifCond .eq 5, 3) := by decide +kernel
theorem dL_law__3108 : decode cL_law_ 3108 = .ok (.iconst 0, 1) := by decide +kernel
theorem dL_law__3109 : decode cL_law_ 3109 = .ok (.ireturn, 1) := by decide +kernel
theorem dL_law__3110 : decode cL_law_ 3110 = .ok (.goto 28, 3) := by decide +kernel
theorem dL_law__3113 : decode cL_law_ 3113 = .ok (.aload_n 1, 1) := by decide +kernel
theorem dL_law__3114 : decode cL_law_ 3114 = .ok (.aload_n 0, 1) := by decide +kernel
theorem dL_law__3115 : decode cL_law_ 3115 = .ok (.iload 4, 2) := by decide +kernel
theorem dL_law__3117 : decode cL_law_ 3117 = .ok (.iconst 1, 1) := by decide +kernel
theorem dL_law__3118 : decode cL_law_ 3118 = .ok (.iadd, 1) := by decide +kernel
theorem dL_law__3119 : decode cL_law_ 3119 = .ok (.iaload, 1) := by decide +kernel
theorem dL_law__3120 : decode cL_law_ 3120 = .ok (.invokevirtual 297, 3) := by decide +kernel
theorem dL_law__3123 : decode cL_law_ 3123 = .ok (.aload_n 2, 1) := by decide +kernel
theorem dL_law__3124 : decode cL_law_ 3124 = .ok (.aload_n 0, 1) := by decide +kernel
theorem dL_law__3125 : decode cL_law_ 3125 = .ok (.iload 4, 2) := by decide +kernel
theorem dL_law__3127 : decode cL_law_ 3127 = .ok (.iconst 1, 1) := by decide +kernel
theorem dL_law__3128 : decode cL_law_ 3128 = .ok (.iadd, 1) := by decide +kernel
theorem dL_law__3129 : decode cL_law_ 3129 = .ok (.iaload, 1) := by decide +kernel
theorem dL_law__3130 : decode cL_law_ 3130 = .ok (.invokevirtual 300, 3) := by decide +kernel
theorem dL_law__3133 : decode cL_law_ 3133 = .ok (.if_icmp .eq 5, 3) := by decide +kernel
theorem dL_law__3136 : decode cL_law_ 3136 = .ok (.iconst 0, 1) := by decide +kernel
theorem dL_law__3137 : decode cL_law_ 3137 = .ok (.ireturn, 1) := by decide +kernel
theorem dL_law__3138 : decode cL_law_ 3138 = .ok (.iinc 4 6, 3) := by decide +kernel
theorem dL_law__3141 : decode cL_law_ 3141 = .ok (.goto (-3118), 3) := by decide +kernel
theorem dL_law__3144 : decode cL_law_ 3144 = .ok (.iconst 1, 1) := by decide +kernel
theorem dL_law__3145 : decode cL_law_ 3145 = .ok (.ireturn, 1) := by decide +kernel
