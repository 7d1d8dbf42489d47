theorem qL_law_2485 : decode (mB mL_law) 2485 = .ok (.iadd, 1) := by decide +kernel
theorem qL_law_2486 : decode (mB mL_law) 2486 = .ok (.iaload, 1) := by decide +kernel
theorem qL_law_2487 : decode (mB mL_law) 2487 = .ok (.aload_n 3, 1) := by decide +kernel
theorem qL_law_2488 : decode (mB mL_law) 2488 = .ok (.invokestatic 325, 3) := by decide +kernel
theorem qL_law_2491 : decode (mB mL_law) 2491 = .ok (.istore 5, 2) := by decide +kernel
theorem qL_law_2493 : decode (mB mL_law) 2493 = .ok (.aload_n 2, 1) := by decide +kernel
theorem qL_law_2494 : decode (mB mL_law) 2494 = .ok (.aload_n 0, 1) := by decide +kernel
theorem qL_law_2495 : decode (mB mL_law) 2495 = .ok (.iload 4, 2) := by decide +kernel
theorem qL_law_2497 : decode (mB mL_law) 2497 = .ok (.iconst 1, 1) := by decide +kernel
theorem qL_law_2498 : decode (mB mL_law) 2498 = .ok (.iadd, 1) := by decide +kernel
theorem qL_law_2499 : decode (mB mL_law) 2499 = .ok (.iaload, 1) := by decide +kernel
theorem qL_law_2500 : decode (mB mL_law) 2500 = .ok (.invokevirtual 327, 3) := by decide +kernel
theorem qL_law_2503 : decode (mB mL_law) 2503 = .ok (.istore 6, 2) := by decide +kernel
theorem qL_law_2505 : decode (mB mL_law) 2505 = .ok (.aload_n 2, 1) := by decide +kernel
theorem qL_law_2506 : decode (mB mL_law) 2506 = .ok (.invokevirtual 180, 3) := by decide +kernel
theorem qL_law_2509 : decode (mB mL_law) 2509 = .ok (.iload 5, 2) := by decide +kernel
theorem qL_law_2511 : decode (mB mL_law) 2511 = .ok (.if_icmp .eq 5, 3) := by decide +kernel
theorem qL_law_2514 : decode (mB mL_law) 2514 = .ok (.iconst 0, 1) := by decide +kernel
theorem qL_law_2515 : decode (mB mL_law) 2515 = .ok (.ireturn, 1) := by decide +kernel
theorem qL_law_2516 : decode (mB mL_law) 2516 = .ok (.iload 5, 2) := by decide +kernel
theorem qL_law_2518 : decode (mB mL_law) 2518 = .ok (.ifCond .ne 15, 3) := by decide +kernel
theorem qL_law_2521 : decode (mB mL_law) 2521 = .ok (.aload_n 3, 1) := by decide +kernel
theorem qL_law_2522 : decode (mB mL_law) 2522 = .ok (.iconst 0, 1) := by decide +kernel
theorem qL_law_2523 : decode (mB mL_law) 2523 = .ok (.laload, 1) := by decide +kernel
theorem qL_law_2524 : decode (mB mL_law) 2524 = .ok (.iload 6, 2) := by decide +kernel
theorem qL_law_2526 : decode (mB mL_law) 2526 = .ok (.i2l, 1) := by decide +kernel
theorem qL_law_2527 : decode (mB mL_law) 2527 = .ok (.lcmp, 1) := by decide +kernel
theorem qL_law_2528 : decode (mB mL_law) 2528 = .ok (.ifCond .eq 5, 3) := by decide +kernel
theorem qL_law_2531 : decode (mB mL_law) 2531 = .ok (.iconst 0, 1) := by decide +kernel
theorem qL_law_2532 : decode (mB mL_law) 2532 = .ok (.ireturn, 1) := by decide +kernel
theorem qL_law_2533 : decode (mB mL_law) 2533 = .ok (.goto 1024, 3) := by decide +kernel
theorem qL_law_2536 : decode (mB mL_law) 2536 = .ok (.aload_n 1, 1) := by decide +kernel
theorem qL_law_2537 : decode (mB mL_law) 2537 = .ok (.aload_n 0, 1) := by decide +kernel
theorem qL_law_2538 : decode (mB mL_law) 2538 = .ok (.iload 4, 2) := by decide +kernel
theorem qL_law_2540 : decode (mB mL_law) 2540 = .ok (.iconst 1, 1) := by decide +kernel
theorem qL_law_2541 : decode (mB mL_law) 2541 = .ok (.iadd, 1) := by decide +kernel
theorem qL_law_2542 : decode (mB mL_law) 2542 = .ok (.iaload, 1) := by decide +kernel
theorem qL_law_2543 : decode (mB mL_law) 2543 = .ok (.aload_n 3, 1) := by decide +kernel
theorem qL_law_2544 : decode (mB mL_law) 2544 = .ok (.invokestatic 328, 3) := by decide +kernel
theorem qL_law_2547 : decode (mB mL_law) 2547 = .ok (.istore 5, 2) := by decide +kernel
theorem qL_law_2549 : decode (mB mL_law) 2549 = .ok (.aload_n 2, 1) := by decide +kernel
theorem qL_law_2550 : decode (mB mL_law) 2550 = .ok (.aload_n 0, 1) := by decide +kernel
theorem qL_law_2551 : decode (mB mL_law) 2551 = .ok (.iload 4, 2) := by decide +kernel
theorem qL_law_2553 : decode (mB mL_law) 2553 = .ok (.iconst 1, 1) := by decide +kernel
theorem qL_law_2554 : decode (mB mL_law) 2554 = .ok (.iadd, 1) := by decide +kernel
theorem qL_law_2555 : decode (mB mL_law) 2555 = .ok (.iaload, 1) := by decide +kernel
theorem qL_law_2556 : decode (mB mL_law) 2556 = .ok (.invokevirtual 330, 3) := by decide +kernel
theorem qL_law_2559 : decode (mB mL_law) 2559 = .ok (.istore 6, 2) := by decide +kernel
theorem qL_law_2561 : decode (mB mL_law) 2561 = .ok (.aload_n 2, 1) := by decide +kernel
theorem qL_law_2562 : decode (mB mL_law) 2562 = .ok (.invokevirtual 180, 3) := by decide +kernel
theorem qL_law_2565 : decode (mB mL_law) 2565 = .ok (.iload 5, 2) := by decide +kernel
theorem qL_law_2567 : decode (mB mL_law) 2567 = .ok (.if_icmp .eq 5, 3) := by decide +kernel
theorem qL_law_2570 : decode (mB mL_law) 2570 = .ok (.iconst 0, 1) := by decide +kernel
theorem qL_law_2571 : decode (mB mL_law) 2571 = .ok (.ireturn, 1) := by decide +kernel
theorem qL_law_2572 : decode (mB mL_law) 2572 = .ok (.iload 5, 2) := by decide +kernel
theorem qL_law_2574 : decode (mB mL_law) 2574 = .ok (.ifCond .ne 15, 3) := by decide +kernel
theorem qL_law_2577 : decode (mB mL_law) 2577 = .ok (.aload_n 3, 1) := by decide +kernel
theorem qL_law_2578 : decode (mB mL_law) 2578 = .ok (.iconst 0, 1) := by decide +kernel
theorem qL_law_2579 : decode (mB mL_law) 2579 = .ok (.laload, 1) := by decide +kernel
theorem qL_law_2580 : decode (mB mL_law) 2580 = .ok (.iload 6, 2) := by decide +kernel
theorem qL_law_2582 : decode (mB mL_law) 2582 = .ok (.i2l, 1) := by decide +kernel
theorem qL_law_2583 : decode (mB mL_law) 2583 = .ok (.lcmp, 1) := by decide +kernel
theorem qL_law_2584 : decode (mB mL_law) 2584 = .ok (.ifCond .eq 5, 3) := by decide +kernel
theorem qL_law_2587 : decode (mB mL_law) 2587 = .ok (.iconst 0, 1) := by decide +kernel
theorem qL_law_2588 : decode (mB mL_law) 2588 = .ok (.ireturn, 1) := by decide +kernel
theorem qL_law_2589 : decode (mB mL_law) 2589 = .ok (.goto 968, 3) := by decide +kernel
theorem qL_law_2592 : decode (mB mL_law) 2592 = .ok (.aload_n 1, 1) := by decide +kernel
theorem qL_law_2593 : decode (mB mL_law) 2593 = .ok (.invokevirtual 331, 3) := by decide +kernel
theorem qL_law_2596 : decode (mB mL_law) 2596 = .ok (.aload_n 2, 1) := by decide +kernel
theorem qL_law_2597 : decode (mB mL_law) 2597 = .ok (.invokevirtual 334, 3) := by decide +kernel
theorem qL_law_2600 : decode (mB mL_law) 2600 = .ok (.if_icmp .eq 957, 3) := by decide +kernel
theorem qL_law_2603 : decode (mB mL_law) 2603 = .ok (.iconst 0, 1) := by decide +kernel
theorem qL_law_2604 : decode (mB mL_law) 2604 = .ok (.ireturn, 1) := by decide +kernel
theorem qL_law_2605 : decode (mB mL_law) 2605 = .ok (.aload_n 1, 1) := by decide +kernel
theorem qL_law_2606 : decode (mB mL_law) 2606 = .ok (.invokevirtual 335, 3) := by decide +kernel
theorem qL_law_2609 : decode (mB mL_law) 2609 = .ok (.aload_n 2, 1) := by decide +kernel
theorem qL_law_2610 : decode (mB mL_law) 2610 = .ok (.invokevirtual 338, 3) := by decide +kernel
theorem qL_law_2613 : decode (mB mL_law) 2613 = .ok (.if_icmp .eq 944, 3) := by decide +kernel
theorem qL_law_2616 : decode (mB mL_law) 2616 = .ok (.iconst 0, 1) := by decide +kernel
theorem qL_law_2617 : decode (mB mL_law) 2617 = .ok (.ireturn, 1) := by decide +kernel
theorem qL_law_2618 : decode (mB mL_law) 2618 = .ok (.aload_n 1, 1) := by decide +kernel
theorem qL_law_2619 : decode (mB mL_law) 2619 = .ok (.invokevirtual 339, 3) := by decide +kernel
theorem qL_law_2622 : decode (mB mL_law) 2622 = .ok (.f2d, 1) := by decide +kernel
theorem qL_law_2623 : decode (mB mL_law) 2623 = .ok (.dstore 5, 2) := by decide +kernel
theorem qL_law_2625 : decode (mB mL_law) 2625 = .ok (.aload_n 2, 1) := by decide +kernel
theorem qL_law_2626 : decode (mB mL_law) 2626 = .ok (.invokevirtual 343, 3) := by decide +kernel
theorem qL_law_2629 : decode (mB mL_law) 2629 = .ok (.f2d, 1) := by decide +kernel
theorem qL_law_2630 : decode (mB mL_law) 2630 = .ok (.dstore 7, 2) := by decide +kernel
theorem qL_law_2632 : decode (mB mL_law) 2632 = .ok (.dload 5, 2) := by decide +kernel
theorem qL_law_2634 : decode (mB mL_law) 2634 = .ok (.dload 7, 2) := by decide +kernel
theorem qL_law_2636 : decode (mB mL_law) 2636 = .ok (.dcmp .l, 1) := by decide +kernel
theorem qL_law_2637 : decode (mB mL_law) 2637 = .ok (.ifCond .eq 21, 3) := by decide +kernel
theorem qL_law_2640 : decode (mB mL_law) 2640 = .ok (.dload 5, 2) := by decide +kernel
theorem qL_law_2642 : decode (mB mL_law) 2642 = .ok (.dload 5, 2) := by decide +kernel
theorem qL_law_2644 : decode (mB mL_law) 2644 = .ok (.dcmp .l, 1) := by decide +kernel
theorem qL_law_2645 : decode (mB mL_law) 2645 = .ok (.ifCond .eq 11, 3) := by decide +kernel
theorem qL_law_2648 : decode (mB mL_law) 2648 = .ok (.dload 7, 2) := by decide +kernel
theorem qL_law_2650 : decode (mB mL_law) 2650 = .ok (.dload 7, 2) := by decide +kernel
theorem qL_law_2652 : decode (mB mL_law) 2652 = .ok (.dcmp .l, 1) := by decide +kernel
theorem qL_law_2653 : decode (mB mL_law) 2653 = .ok (.ifCond .ne 5, 3) := by decide +kernel
theorem qL_law_2656 : decode (mB mL_law) 2656 = .ok (.iconst 0, 1) := by decide +kernel
theorem qL_law_2657 : decode (mB mL_law) 2657 = .ok (.ireturn, 1) := by decide +kernel
theorem qL_law_2658 : decode (mB mL_law) 2658 = .ok (.goto 899, 3) := by decide +kernel
theorem qL_law_2661 : decode (mB mL_law) 2661 = .ok (.aload_n 1, 1) := by decide +kernel
theorem qL_law_2662 : decode (mB mL_law) 2662 = .ok (.invokevirtual 344, 3) := by decide +kernel
theorem qL_law_2665 : decode (mB mL_law) 2665 = .ok (.dstore 5, 2) := by decide +kernel
theorem qL_law_2667 : decode (mB mL_law) 2667 = .ok (.aload_n 2, 1) := by decide +kernel
theorem qL_law_2668 : decode (mB mL_law) 2668 = .ok (.invokevirtual 348, 3) := by decide +kernel
theorem qL_law_2671 : decode (mB mL_law) 2671 = .ok (.dstore 7, 2) := by decide +kernel
theorem qL_law_2673 : decode (mB mL_law) 2673 = .ok (.dload 5, 2) := by decide +kernel
theorem qL_law_2675 : decode (mB mL_law) 2675 = .ok (.dload 7, 2) := by decide +kernel
theorem qL_law_2677 : decode (mB mL_law) 2677 = .ok (.dcmp .l, 1) := by decide +kernel
theorem qL_law_2678 : decode (mB mL_law) 2678 = .ok (.ifCond .eq 21, 3) := by decide +kernel
theorem qL_law_2681 : decode (mB mL_law) 2681 = .ok (.dload 5, 2) := by decide +kernel
theorem qL_law_2683 : decode (mB mL_law) 2683 = .ok (.dload 5, 2) := by decide +kernel
theorem qL_law_2685 : decode (mB mL_law) 2685 = .ok (.dcmp .l, 1) := by decide +kernel
theorem qL_law_2686 : decode (mB mL_law) 2686 = .ok (.ifCond .eq 11, 3) := by decide +kernel
theorem qL_law_2689 : decode (mB mL_law) 2689 = .ok (.dload 7, 2) := by decide +kernel
theorem qL_law_2691 : decode (mB mL_law) 2691 = .ok (.dload 7, 2) := by decide +kernel
theorem qL_law_2693 : decode (mB mL_law) 2693 = .ok (.dcmp .l, 1) := by decide +kernel
theorem qL_law_2694 : decode (mB mL_law) 2694 = .ok (.ifCond .ne 5, 3) := by decide +kernel
theorem qL_law_2697 : decode (mB mL_law) 2697 = .ok (.iconst 0, 1) := by decide +kernel
theorem qL_law_2698 : decode (mB mL_law) 2698 = .ok (.ireturn, 1) := by decide +kernel
theorem qL_law_2699 : decode (mB mL_law) 2699 = .ok (.goto 858, 3) := by decide +kernel
theorem qL_law_2702 : decode (mB mL_law) 2702 = .ok (.aload_n 1, 1) := by decide +kernel
theorem qL_law_2703 : decode (mB mL_law) 2703 = .ok (.aload_n 0, 1) := by decide +kernel
theorem qL_law_2704 : decode (mB mL_law) 2704 = .ok (.iload 4, 2) := by decide +kernel
theorem qL_law_2706 : decode (mB mL_law) 2706 = .ok (.iconst 1, 1) := by decide +kernel
theorem qL_law_2707 : decode (mB mL_law) 2707 = .ok (.iadd, 1) := by decide +kernel
theorem qL_law_2708 : decode (mB mL_law) 2708 = .ok (.iaload, 1) := by decide +kernel
theorem qL_law_2709 : decode (mB mL_law) 2709 = .ok (.aload_n 0, 1) := by decide +kernel
theorem qL_law_2710 : decode (mB mL_law) 2710 = .ok (.iload 4, 2) := by decide +kernel
theorem qL_law_2712 : decode (mB mL_law) 2712 = .ok (.iconst 2, 1) := by decide +kernel
theorem qL_law_2713 : decode (mB mL_law) 2713 = .ok (.iadd, 1) := by decide +kernel
theorem qL_law_2714 : decode (mB mL_law) 2714 = .ok (.iaload, 1) := by decide +kernel
theorem qL_law_2715 : decode (mB mL_law) 2715 = .ok (.aload_n 3, 1) := by decide +kernel
theorem qL_law_2716 : decode (mB mL_law) 2716 = .ok (.invokestatic 349, 3) := by decide +kernel
theorem qL_law_2719 : decode (mB mL_law) 2719 = .ok (.istore 5, 2) := by decide +kernel
theorem qL_law_2721 : decode (mB mL_law) 2721 = .ok (.aload_n 2, 1) := by decide +kernel
theorem qL_law_2722 : decode (mB mL_law) 2722 = .ok (.aload_n 0, 1) := by decide +kernel
theorem qL_law_2723 : decode (mB mL_law) 2723 = .ok (.iload 4, 2) := by decide +kernel
theorem qL_law_2725 : decode (mB mL_law) 2725 = .ok (.iconst 1, 1) := by decide +kernel
theorem qL_law_2726 : decode (mB mL_law) 2726 = .ok (.iadd, 1) := by decide +kernel
theorem qL_law_2727 : decode (mB mL_law) 2727 = .ok (.iaload, 1) := by decide +kernel
theorem qL_law_2728 : decode (mB mL_law) 2728 = .ok (.aload_n 0, 1) := by decide +kernel
theorem qL_law_2729 : decode (mB mL_law) 2729 = .ok (.iload 4, 2) := by decide +kernel
theorem qL_law_2731 : decode (mB mL_law) 2731 = .ok (.iconst 2, 1) := by decide +kernel
theorem qL_law_2732 : decode (mB mL_law) 2732 = .ok (.iadd, 1) := by decide +kernel
theorem qL_law_2733 : decode (mB mL_law) 2733 = .ok (.iaload, 1) := by decide +kernel
theorem qL_law_2734 : decode (mB mL_law) 2734 = .ok (.invokevirtual 351, 3) := by decide +kernel
theorem qL_law_2737 : decode (mB mL_law) 2737 = .ok (.istore 6, 2) := by decide +kernel
theorem qL_law_2739 : decode (mB mL_law) 2739 = .ok (.aload_n 2, 1) := by decide +kernel
theorem qL_law_2740 : decode (mB mL_law) 2740 = .ok (.invokevirtual 180, 3) := by decide +kernel
theorem qL_law_2743 : decode (mB mL_law) 2743 = .ok (.iload 5, 2) := by decide +kernel
theorem qL_law_2745 : decode (mB mL_law) 2745 = .ok (.if_icmp .eq 5, 3) := by decide +kernel
theorem qL_law_2748 : decode (mB mL_law) 2748 = .ok (.iconst 0, 1) := by decide +kernel
theorem qL_law_2749 : decode (mB mL_law) 2749 = .ok (.ireturn, 1) := by decide +kernel
theorem qL_law_2750 : decode (mB mL_law) 2750 = .ok (.iload 5, 2) := by decide +kernel
theorem qL_law_2752 : decode (mB mL_law) 2752 = .ok (.ifCond .ne 15, 3) := by decide +kernel
theorem qL_law_2755 : decode (mB mL_law) 2755 = .ok (.aload_n 3, 1) := by decide +kernel
theorem qL_law_2756 : decode (mB mL_law) 2756 = .ok (.iconst 0, 1) := by decide +kernel
theorem qL_law_2757 : decode (mB mL_law) 2757 = .ok (.laload, 1) := by decide +kernel
theorem qL_law_2758 : decode (mB mL_law) 2758 = .ok (.iload 6, 2) := by decide +kernel
theorem qL_law_2760 : decode (mB mL_law) 2760 = .ok (.i2l, 1) := by decide +kernel
theorem qL_law_2761 : decode (mB mL_law) 2761 = .ok (.lcmp, 1) := by decide +kernel
theorem qL_law_2762 : decode (mB mL_law) 2762 = .ok (.ifCond .eq 5, 3) := by decide +kernel
theorem qL_law_2765 : decode (mB mL_law) 2765 = .ok (.iconst 0, 1) := by decide +kernel
theorem qL_law_2766 : decode (mB mL_law) 2766 = .ok (.ireturn, 1) := by decide +kernel
theorem qL_law_2767 : decode (mB mL_law) 2767 = .ok (.goto 790, 3) := by decide +kernel
theorem qL_law_2770 : decode (mB mL_law) 2770 = .ok (.aload_n 1, 1) := by decide +kernel
theorem qL_law_2771 : decode (mB mL_law) 2771 = .ok (.aload_n 0, 1) := by decide +kernel
theorem qL_law_2772 : decode (mB mL_law) 2772 = .ok (.iload 4, 2) := by decide +kernel
theorem qL_law_2774 : decode (mB mL_law) 2774 = .ok (.iconst 1, 1) := by decide +kernel
theorem qL_law_2775 : decode (mB mL_law) 2775 = .ok (.iadd, 1) := by decide +kernel
theorem qL_law_2776 : decode (mB mL_law) 2776 = .ok (.iaload, 1) := by decide +kernel
theorem qL_law_2777 : decode (mB mL_law) 2777 = .ok (.aload_n 3, 1) := by decide +kernel
theorem qL_law_2778 : decode (mB mL_law) 2778 = .ok (.invokestatic 352, 3) := by decide +kernel
theorem qL_law_2781 : decode (mB mL_law) 2781 = .ok (.istore 5, 2) := by decide +kernel
theorem qL_law_2783 : decode (mB mL_law) 2783 = .ok (.aload_n 2, 1) := by decide +kernel
theorem qL_law_2784 : decode (mB mL_law) 2784 = .ok (.aload_n 0, 1) := by decide +kernel
theorem qL_law_2785 : decode (mB mL_law) 2785 = .ok (.iload 4, 2) := by decide +kernel
theorem qL_law_2787 : decode (mB mL_law) 2787 = .ok (.iconst 1, 1) := by decide +kernel
theorem qL_law_2788 : decode (mB mL_law) 2788 = .ok (.iadd, 1) := by decide +kernel
theorem qL_law_2789 : decode (mB mL_law) 2789 = .ok (.iaload, 1) := by decide +kernel
theorem qL_law_2790 : decode (mB mL_law) 2790 = .ok (.invokevirtual 354, 3) := by decide +kernel
theorem qL_law_2793 : decode (mB mL_law) 2793 = .ok (.istore 6, 2) := by decide +kernel
theorem qL_law_2795 : decode (mB mL_law) 2795 = .ok (.aload_n 2, 1) := by decide +kernel
theorem qL_law_2796 : decode (mB mL_law) 2796 = .ok (.invokevirtual 180, 3) := by decide +kernel
theorem qL_law_2799 : decode (mB mL_law) 2799 = .ok (.iload 5, 2) := by decide +kernel
theorem qL_law_2801 : decode (mB mL_law) 2801 = .ok (.if_icmp .eq 5, 3) := by decide +kernel
theorem qL_law_2804 : decode (mB mL_law) 2804 = .ok (.iconst 0, 1) := by decide +kernel
theorem qL_law_2805 : decode (mB mL_law) 2805 = .ok (.ireturn, 1) := by decide +kernel
theorem qL_law_2806 : decode (mB mL_law) 2806 = .ok (.iload 5, 2) := by decide +kernel
theorem qL_law_2808 : decode (mB mL_law) 2808 = .ok (.ifCond .ne 15, 3) := by decide +kernel
theorem qL_law_2811 : decode (mB mL_law) 2811 = .ok (.aload_n 3, 1) := by decide +kernel
theorem qL_law_2812 : decode (mB mL_law) 2812 = .ok (.iconst 0, 1) := by decide +kernel
theorem qL_law_2813 : decode (mB mL_law) 2813 = .ok (.laload, 1) := by decide +kernel
theorem qL_law_2814 : decode (mB mL_law) 2814 = .ok (.iload 6, 2) := by decide +kernel
theorem qL_law_2816 : decode (mB mL_law) 2816 = .ok (.i2l, 1) := by decide +kernel
theorem qL_law_2817 : decode (mB mL_law) 2817 = .ok (.lcmp, 1) := by decide +kernel
theorem qL_law_2818 : decode (mB mL_law) 2818 = .ok (.ifCond .eq 5, 3) := by decide +kernel
theorem qL_law_2821 : decode (mB mL_law) 2821 = .ok (.iconst 0, 1) := by decide +kernel
theorem qL_law_2822 : decode (mB mL_law) 2822 = .ok (.ireturn, 1) := by decide +kernel
theorem qL_law_2823 : decode (mB mL_law) 2823 = .ok (.goto 734, 3) := by decide +kernel
theorem qL_law_2826 : decode (mB mL_law) 2826 = .ok (.aload_n 1, 1) := by decide +kernel
theorem qL_law_2827 : decode (mB mL_law) 2827 = .ok (.aload_n 0, 1) := by decide +kernel
theorem qL_law_2828 : decode (mB mL_law) 2828 = .ok (.iload 4, 2) := by decide +kernel
theorem qL_law_2830 : decode (mB mL_law) 2830 = .ok (.iconst 1, 1) := by decide +kernel
theorem qL_law_2831 : decode (mB mL_law) 2831 = .ok (.iadd, 1) := by decide +kernel
theorem qL_law_2832 : decode (mB mL_law) 2832 = .ok (.iaload, 1) := by decide +kernel
theorem qL_law_2833 : decode (mB mL_law) 2833 = .ok (.aload_n 3, 1) := by decide +kernel
theorem qL_law_2834 : decode (mB mL_law) 2834 = .ok (.invokestatic 355, 3) := by decide +kernel
theorem qL_law_2837 : decode (mB mL_law) 2837 = .ok (.istore 5, 2) := by decide +kernel
theorem qL_law_2839 : decode (mB mL_law) 2839 = .ok (.aload_n 2, 1) := by decide +kernel
theorem qL_law_2840 : decode (mB mL_law) 2840 = .ok (.aload_n 0, 1) := by decide +kernel
theorem qL_law_2841 : decode (mB mL_law) 2841 = .ok (.iload 4, 2) := by decide +kernel
theorem qL_law_2843 : decode (mB mL_law) 2843 = .ok (.iconst 1, 1) := by decide +kernel
theorem qL_law_2844 : decode (mB mL_law) 2844 = .ok (.iadd, 1) := by decide +kernel
theorem qL_law_2845 : decode (mB mL_law) 2845 = .ok (.iaload, 1) := by decide +kernel
theorem qL_law_2846 : decode (mB mL_law) 2846 = .ok (.invokevirtual 357, 3) := by decide +kernel
theorem qL_law_2849 : decode (mB mL_law) 2849 = .ok (.istore 6, 2) := by decide +kernel
theorem qL_law_2851 : decode (mB mL_law) 2851 = .ok (.aload_n 2, 1) := by decide +kernel
theorem qL_law_2852 : decode (mB mL_law) 2852 = .ok (.invokevirtual 180, 3) := by decide +kernel
theorem qL_law_2855 : decode (mB mL_law) 2855 = .ok (.iload 5, 2) := by decide +kernel
theorem qL_law_2857 : decode (mB mL_law) 2857 = .ok (.if_icmp .eq 5, 3) := by decide +kernel
theorem qL_law_2860 : decode (mB mL_law) 2860 = .ok (.iconst 0, 1) := by decide +kernel
theorem qL_law_2861 : decode (mB mL_law) 2861 = .ok (.ireturn, 1) := by decide +kernel
theorem qL_law_2862 : decode (mB mL_law) 2862 = .ok (.iload 5, 2) := by decide +kernel
theorem qL_law_2864 : decode (mB mL_law) 2864 = .ok (.ifCond .ne 15, 3) := by decide +kernel
theorem qL_law_2867 : decode (mB mL_law) 2867 = .ok (.aload_n 3, 1) := by decide +kernel
theorem qL_law_2868 : decode (mB mL_law) 2868 = .ok (.iconst 0, 1) := by decide +kernel
theorem qL_law_2869 : decode (mB mL_law) 2869 = .ok (.laload, 1) := by decide +kernel
theorem qL_law_2870 : decode (mB mL_law) 2870 = .ok (.iload 6, 2) := by decide +kernel
theorem qL_law_2872 : decode (mB mL_law) 2872 = .ok (.i2l, 1) := by decide +kernel
theorem qL_law_2873 : decode (mB mL_law) 2873 = .ok (.lcmp, 1) := by decide +kernel
theorem qL_law_2874 : decode (mB mL_law) 2874 = .ok (.ifCond .eq 5, 3) := by decide +kernel
theorem qL_law_2877 : decode (mB mL_law) 2877 = .ok (.iconst 0, 1) := by decide +kernel
theorem qL_law_2878 : decode (mB mL_law) 2878 = .ok (.ireturn, 1) := by decide +kernel
theorem qL_law_2879 : decode (mB mL_law) 2879 = .ok (.goto 678, 3) := by decide +kernel
theorem qL_law_2882 : decode (mB mL_law) 2882 = .ok (.aload_n 1, 1) := by decide +kernel
theorem qL_law_2883 : decode (mB mL_law) 2883 = .ok (.aload_n 0, 1) := by decide +kernel
theorem qL_law_2884 : decode (mB mL_law) 2884 = .ok (.iload 4, 2) := by decide +kernel
theorem qL_law_2886 : decode (mB mL_law) 2886 = .ok (.iconst 1, 1) := by decide +kernel
theorem qL_law_2887 : decode (mB mL_law) 2887 = .ok (.iadd, 1) := by decide +kernel
theorem qL_law_2888 : decode (mB mL_law) 2888 = .ok (.iaload, 1) := by decide +kernel
theorem qL_law_2889 : decode (mB mL_law) 2889 = .ok (.aload_n 0, 1) := by decide +kernel
theorem qL_law_2890 : decode (mB mL_law) 2890 = .ok (.iload 4, 2) := by decide +kernel
theorem qL_law_2892 : decode (mB mL_law) 2892 = .ok (.iconst 2, 1) := by decide +kernel
theorem qL_law_2893 : decode (mB mL_law) 2893 = .ok (.iadd, 1) := by decide +kernel
theorem qL_law_2894 : decode (mB mL_law) 2894 = .ok (.iaload, 1) := by decide +kernel
theorem qL_law_2895 : decode (mB mL_law) 2895 = .ok (.aload_n 3, 1) := by decide +kernel
theorem qL_law_2896 : decode (mB mL_law) 2896 = .ok (.invokestatic 358, 3) := by decide +kernel
theorem qL_law_2899 : decode (mB mL_law) 2899 = .ok (.istore 5, 2) := by decide +kernel
theorem qL_law_2901 : decode (mB mL_law) 2901 = .ok (.aload_n 2, 1) := by decide +kernel
theorem qL_law_2902 : decode (mB mL_law) 2902 = .ok (.aload_n 0, 1) := by decide +kernel
theorem qL_law_2903 : decode (mB mL_law) 2903 = .ok (.iload 4, 2) := by decide +kernel
theorem qL_law_2905 : decode (mB mL_law) 2905 = .ok (.iconst 1, 1) := by decide +kernel
theorem qL_law_2906 : decode (mB mL_law) 2906 = .ok (.iadd, 1) := by decide +kernel
theorem qL_law_2907 : decode (mB mL_law) 2907 = .ok (.iaload, 1) := by decide +kernel
theorem qL_law_2908 : decode (mB mL_law) 2908 = .ok (.aload_n 0, 1) := by decide +kernel
theorem qL_law_2909 : decode (mB mL_law) 2909 = .ok (.iload 4, 2) := by decide +kernel
theorem qL_law_2911 : decode (mB mL_law) 2911 = .ok (.iconst 2, 1) := by decide +kernel
theorem qL_law_2912 : decode (mB mL_law) 2912 = .ok (.iadd, 1) := by decide +kernel
theorem qL_law_2913 : decode (mB mL_law) 2913 = .ok (.iaload, 1) := by decide +kernel
theorem qL_law_2914 : decode (mB mL_law) 2914 = .ok (.invokevirtual 360, 3) := by decide +kernel
theorem qL_law_2917 : decode (mB mL_law) 2917 = .ok (.istore 6, 2) := by decide +kernel
theorem qL_law_2919 : decode (mB mL_law) 2919 = .ok (.aload_n 2, 1) := by decide +kernel
theorem qL_law_2920 : decode (mB mL_law) 2920 = .ok (.invokevirtual 180, 3) := by decide +kernel
theorem qL_law_2923 : decode (mB mL_law) 2923 = .ok (.iload 5, 2) := by decide +kernel
theorem qL_law_2925 : decode (mB mL_law) 2925 = .ok (.if_icmp .eq 5, 3) := by decide +kernel
theorem qL_law_2928 : decode (mB mL_law) 2928 = .ok (.iconst 0, 1) := by decide +kernel
theorem qL_law_2929 : decode (mB mL_law) 2929 = .ok (.ireturn, 1) := by decide +kernel
theorem qL_law_2930 : decode (mB mL_law) 2930 = .ok (.iload 5, 2) := by decide +kernel
theorem qL_law_2932 : decode (mB mL_law) 2932 = .ok (.ifCond .ne 15, 3) := by decide +kernel
theorem qL_law_2935 : decode (mB mL_law) 2935 = .ok (.aload_n 3, 1) := by decide +kernel
theorem qL_law_2936 : decode (mB mL_law) 2936 = .ok (.iconst 0, 1) := by decide +kernel
theorem qL_law_2937 : decode (mB mL_law) 2937 = .ok (.laload, 1) := by decide +kernel
theorem qL_law_2938 : decode (mB mL_law) 2938 = .ok (.iload 6, 2) := by decide +kernel
theorem qL_law_2940 : decode (mB mL_law) 2940 = .ok (.i2l, 1) := by decide +kernel
theorem qL_law_2941 : decode (mB mL_law) 2941 = .ok (.lcmp, 1) := by decide +kernel
theorem qL_law_2942 : decode (mB mL_law) 2942 = .ok (.ifCond .eq 5, 3) := by decide +kernel
theorem qL_law_2945 : decode (mB mL_law) 2945 = .ok (.iconst 0, 1) := by decide +kernel
theorem qL_law_2946 : decode (mB mL_law) 2946 = .ok (.ireturn, 1) := by decide +kernel
theorem qL_law_2947 : decode (mB mL_law) 2947 = .ok (.goto 610, 3) := by decide +kernel
theorem qL_law_2950 : decode (mB mL_law) 2950 = .ok (.aload_n 1, 1) := by decide +kernel
theorem qL_law_2951 : decode (mB mL_law) 2951 = .ok (.aload_n 0, 1) := by decide +kernel
theorem qL_law_2952 : decode (mB mL_law) 2952 = .ok (.iload 4, 2) := by decide +kernel
theorem qL_law_2954 : decode (mB mL_law) 2954 = .ok (.iconst 1, 1) := by decide +kernel
theorem qL_law_2955 : decode (mB mL_law) 2955 = .ok (.iadd, 1) := by decide +kernel
theorem qL_law_2956 : decode (mB mL_law) 2956 = .ok (.iaload, 1) := by decide +kernel
theorem qL_law_2957 : decode (mB mL_law) 2957 = .ok (.aload_n 0, 1) := by decide +kernel
theorem qL_law_2958 : decode (mB mL_law) 2958 = .ok (.iload 4, 2) := by decide +kernel
theorem qL_law_2960 : decode (mB mL_law) 2960 = .ok (.iconst 2, 1) := by decide +kernel
theorem qL_law_2961 : decode (mB mL_law) 2961 = .ok (.iadd, 1) := by decide +kernel
theorem qL_law_2962 : decode (mB mL_law) 2962 = .ok (.iaload, 1) := by decide +kernel
theorem qL_law_2963 : decode (mB mL_law) 2963 = .ok (.aload_n 3, 1) := by decide +kernel
theorem qL_law_2964 : decode (mB mL_law) 2964 = .ok (.invokestatic 361, 3) := by decide +kernel
theorem qL_law_2967 : decode (mB mL_law) 2967 = .ok (.istore 5, 2) := by decide +kernel
theorem qL_law_2969 : decode (mB mL_law) 2969 = .ok (.aload_n 2, 1) := by decide +kernel
theorem qL_law_2970 : decode (mB mL_law) 2970 = .ok (.aload_n 0, 1) := by decide +kernel
theorem qL_law_2971 : decode (mB mL_law) 2971 = .ok (.iload 4, 2) := by decide +kernel
theorem qL_law_2973 : decode (mB mL_law) 2973 = .ok (.iconst 1, 1) := by decide +kernel
theorem qL_law_2974 : decode (mB mL_law) 2974 = .ok (.iadd, 1) := by decide +kernel
theorem qL_law_2975 : decode (mB mL_law) 2975 = .ok (.iaload, 1) := by decide +kernel
theorem qL_law_2976 : decode (mB mL_law) 2976 = .ok (.aload_n 0, 1) := by decide +kernel
theorem qL_law_2977 : decode (mB mL_law) 2977 = .ok (.iload 4, 2) := by decide +kernel
theorem qL_law_2979 : decode (mB mL_law) 2979 = .ok (.iconst 2, 1) := by decide +kernel
theorem qL_law_2980 : decode (mB mL_law) 2980 = .ok (.iadd, 1) := by decide +kernel
theorem qL_law_2981 : decode (mB mL_law) 2981 = .ok (.iaload, 1) := by decide +kernel
theorem qL_law_2982 : decode (mB mL_law) 2982 = .ok (.invokevirtual 363, 3) := by decide +kernel
theorem qL_law_2985 : decode (mB mL_law) 2985 = .ok (.istore 6, 2) := by decide +kernel
theorem qL_law_2987 : decode (mB mL_law) 2987 = .ok (.aload_n 2, 1) := by decide +kernel
theorem qL_law_2988 : decode (mB mL_law) 2988 = .ok (.invokevirtual 180, 3) := by decide +kernel
theorem qL_law_2991 : decode (mB mL_law) 2991 = .ok (.iload 5, 2) := by decide +kernel
theorem qL_law_2993 : decode (mB mL_law) 2993 = .ok (.if_icmp .eq 5, 3) := by decide +kernel
theorem qL_law_2996 : decode (mB mL_law) 2996 = .ok (.iconst 0, 1) := by decide +kernel
theorem qL_law_2997 : decode (mB mL_law) 2997 = .ok (.ireturn, 1) := by decide +kernel
theorem qL_law_2998 : decode (mB mL_law) 2998 = .ok (.iload 5, 2) := by decide +kernel
theorem qL_law_3000 : decode (mB mL_law) 3000 = .ok (.ifCond .ne 15, 3) := by decide +kernel
theorem qL_law_3003 : decode (mB mL_law) 3003 = .ok (.aload_n 3, 1) := by decide +kernel
theorem qL_law_3004 : decode (mB mL_law) 3004 = .ok (.iconst 0, 1) := by decide +kernel
theorem qL_law_3005 : decode (mB mL_law) 3005 = .ok (.laload, 1) := by decide +kernel
theorem qL_law_3006 : decode (mB mL_law) 3006 = .ok (.iload 6, 2) := by decide +kernel
theorem qL_law_3008 : decode (mB mL_law) 3008 = .ok (.i2l, 1) := by decide +kernel
theorem qL_law_3009 : decode (mB mL_law) 3009 = .ok (.lcmp, 1) := by decide +kernel
theorem qL_law_3010 : decode (mB mL_law) 3010 = .ok (.ifCond .eq 5, 3) := by decide +kernel
theorem qL_law_3013 : decode (mB mL_law) 3013 = .ok (.iconst 0, 1) := by decide +kernel
theorem qL_law_3014 : decode (mB mL_law) 3014 = .ok (.ireturn, 1) := by decide +kernel
theorem qL_law_3015 : decode (mB mL_law) 3015 = .ok (.goto 542, 3) := by decide +kernel
theorem qL_law_3018 : decode (mB mL_law) 3018 = .ok (.aload_n 1, 1) := by decide +kernel
theorem qL_law_3019 : decode (mB mL_law) 3019 = .ok (.aload_n 0, 1) := by decide +kernel
theorem qL_law_3020 : decode (mB mL_law) 3020 = .ok (.iload 4, 2) := by decide +kernel
theorem qL_law_3022 : decode (mB mL_law) 3022 = .ok (.iconst 1, 1) := by decide +kernel
theorem qL_law_3023 : decode (mB mL_law) 3023 = .ok (.iadd, 1) := by decide +kernel
theorem qL_law_3024 : decode (mB mL_law) 3024 = .ok (.iaload, 1) := by decide +kernel
theorem qL_law_3025 : decode (mB mL_law) 3025 = .ok (.aload_n 0, 1) := by decide +kernel
theorem qL_law_3026 : decode (mB mL_law) 3026 = .ok (.iload 4, 2) := by decide +kernel
theorem qL_law_3028 : decode (mB mL_law) 3028 = .ok (.iconst 2, 1) := by decide +kernel
theorem qL_law_3029 : decode (mB mL_law) 3029 = .ok (.iadd, 1) := by decide +kernel
theorem qL_law_3030 : decode (mB mL_law) 3030 = .ok (.iaload, 1) := by decide +kernel
theorem qL_law_3031 : decode (mB mL_law) 3031 = .ok (.aload_n 3, 1) := by decide +kernel
theorem qL_law_3032 : decode (mB mL_law) 3032 = .ok (.invokestatic 364, 3) := by decide +kernel
theorem qL_law_3035 : decode (mB mL_law) 3035 = .ok (.istore 5, 2) := by decide +kernel
theorem qL_law_3037 : decode (mB mL_law) 3037 = .ok (.aload_n 2, 1) := by decide +kernel
theorem qL_law_3038 : decode (mB mL_law) 3038 = .ok (.aload_n 0, 1) := by decide +kernel
theorem qL_law_3039 : decode (mB mL_law) 3039 = .ok (.iload 4, 2) := by decide +kernel
theorem qL_law_3041 : decode (mB mL_law) 3041 = .ok (.iconst 1, 1) := by decide +kernel
theorem qL_law_3042 : decode (mB mL_law) 3042 = .ok (.iadd, 1) := by decide +kernel
theorem qL_law_3043 : decode (mB mL_law) 3043 = .ok (.iaload, 1) := by decide +kernel
theorem qL_law_3044 : decode (mB mL_law) 3044 = .ok (.aload_n 0, 1) := by decide +kernel

