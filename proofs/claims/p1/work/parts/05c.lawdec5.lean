theorem ydb_5_0 : (decode cL_law 2606 = .ok (.iload 5, 2)) ∧ (decode cL_law 2608 = .ok (.iconst 2, 1)) ∧ (decode cL_law 2609 = .ok (.iadd, 1)) ∧ (decode cL_law 2610 = .ok (.iaload, 1)) ∧ (decode cL_law 2611 = .ok (.invokevirtual 295, 3)) ∧ (decode cL_law 2614 = .ok (.istore 7, 2)) ∧ (decode cL_law 2616 = .ok (.aload_n 2, 1)) ∧ (decode cL_law 2617 = .ok (.invokevirtual 165, 3)) ∧ (decode cL_law 2620 = .ok (.iload 6, 2)) ∧ (decode cL_law 2622 = .ok (.if_icmp .eq 5, 3)) ∧ (decode cL_law 2627 = .ok (.iload 6, 2)) ∧ (decode cL_law 2629 = .ok (.ifCond .ne 15, 3)) := by decide +kernel
theorem dL_law_2606 : decode cL_law 2606 = .ok (.iload 5, 2) := ydb_5_0.1
theorem dL_law_2608 : decode cL_law 2608 = .ok (.iconst 2, 1) := ydb_5_0.2.1
theorem dL_law_2609 : decode cL_law 2609 = .ok (.iadd, 1) := ydb_5_0.2.2.1
theorem dL_law_2610 : decode cL_law 2610 = .ok (.iaload, 1) := ydb_5_0.2.2.2.1
theorem dL_law_2611 : decode cL_law 2611 = .ok (.invokevirtual 295, 3) := ydb_5_0.2.2.2.2.1
theorem dL_law_2614 : decode cL_law 2614 = .ok (.istore 7, 2) := ydb_5_0.2.2.2.2.2.1
theorem dL_law_2616 : decode cL_law 2616 = .ok (.aload_n 2, 1) := ydb_5_0.2.2.2.2.2.2.1
theorem dL_law_2617 : decode cL_law 2617 = .ok (.invokevirtual 165, 3) := ydb_5_0.2.2.2.2.2.2.2.1
theorem dL_law_2620 : decode cL_law 2620 = .ok (.iload 6, 2) := ydb_5_0.2.2.2.2.2.2.2.2.1
theorem dL_law_2622 : decode cL_law 2622 = .ok (.if_icmp .eq 5, 3) := ydb_5_0.2.2.2.2.2.2.2.2.2.1
theorem dL_law_2627 : decode cL_law 2627 = .ok (.iload 6, 2) := ydb_5_0.2.2.2.2.2.2.2.2.2.2.1
theorem dL_law_2629 : decode cL_law 2629 = .ok (.ifCond .ne 15, 3) := ydb_5_0.2.2.2.2.2.2.2.2.2.2.2
theorem ydb_5_12 : (decode cL_law 2644 = .ok (.goto 493, 3)) ∧ (decode cL_law 2647 = .ok (.aload_n 1, 1)) ∧ (decode cL_law 2648 = .ok (.aload_n 0, 1)) ∧ (decode cL_law 2649 = .ok (.iload 5, 2)) ∧ (decode cL_law 2651 = .ok (.iconst 1, 1)) ∧ (decode cL_law 2652 = .ok (.iadd, 1)) ∧ (decode cL_law 2653 = .ok (.iaload, 1)) ∧ (decode cL_law 2654 = .ok (.i2c, 1)) ∧ (decode cL_law 2655 = .ok (.aload_n 0, 1)) ∧ (decode cL_law 2656 = .ok (.iload 5, 2)) ∧ (decode cL_law 2658 = .ok (.iconst 2, 1)) ∧ (decode cL_law 2659 = .ok (.iadd, 1)) := by decide +kernel
theorem dL_law_2644 : decode cL_law 2644 = .ok (.goto 493, 3) := ydb_5_12.1
theorem dL_law_2647 : decode cL_law 2647 = .ok (.aload_n 1, 1) := ydb_5_12.2.1
theorem dL_law_2648 : decode cL_law 2648 = .ok (.aload_n 0, 1) := ydb_5_12.2.2.1
theorem dL_law_2649 : decode cL_law 2649 = .ok (.iload 5, 2) := ydb_5_12.2.2.2.1
theorem dL_law_2651 : decode cL_law 2651 = .ok (.iconst 1, 1) := ydb_5_12.2.2.2.2.1
theorem dL_law_2652 : decode cL_law 2652 = .ok (.iadd, 1) := ydb_5_12.2.2.2.2.2.1
theorem dL_law_2653 : decode cL_law 2653 = .ok (.iaload, 1) := ydb_5_12.2.2.2.2.2.2.1
theorem dL_law_2654 : decode cL_law 2654 = .ok (.i2c, 1) := ydb_5_12.2.2.2.2.2.2.2.1
theorem dL_law_2655 : decode cL_law 2655 = .ok (.aload_n 0, 1) := ydb_5_12.2.2.2.2.2.2.2.2.1
theorem dL_law_2656 : decode cL_law 2656 = .ok (.iload 5, 2) := ydb_5_12.2.2.2.2.2.2.2.2.2.1
theorem dL_law_2658 : decode cL_law 2658 = .ok (.iconst 2, 1) := ydb_5_12.2.2.2.2.2.2.2.2.2.2.1
theorem dL_law_2659 : decode cL_law 2659 = .ok (.iadd, 1) := ydb_5_12.2.2.2.2.2.2.2.2.2.2.2
theorem ydb_5_24 : (decode cL_law 2660 = .ok (.iaload, 1)) ∧ (decode cL_law 2661 = .ok (.aload_n 0, 1)) ∧ (decode cL_law 2662 = .ok (.iload 5, 2)) ∧ (decode cL_law 2664 = .ok (.iconst 3, 1)) ∧ (decode cL_law 2665 = .ok (.iadd, 1)) ∧ (decode cL_law 2666 = .ok (.iaload, 1)) ∧ (decode cL_law 2667 = .ok (.aload_n 3, 1)) ∧ (decode cL_law 2668 = .ok (.invokestatic 296, 3)) ∧ (decode cL_law 2671 = .ok (.istore 6, 2)) ∧ (decode cL_law 2673 = .ok (.aload_n 2, 1)) ∧ (decode cL_law 2674 = .ok (.aload_n 0, 1)) ∧ (decode cL_law 2675 = .ok (.iload 5, 2)) := by decide +kernel
theorem dL_law_2660 : decode cL_law 2660 = .ok (.iaload, 1) := ydb_5_24.1
theorem dL_law_2661 : decode cL_law 2661 = .ok (.aload_n 0, 1) := ydb_5_24.2.1
theorem dL_law_2662 : decode cL_law 2662 = .ok (.iload 5, 2) := ydb_5_24.2.2.1
theorem dL_law_2664 : decode cL_law 2664 = .ok (.iconst 3, 1) := ydb_5_24.2.2.2.1
theorem dL_law_2665 : decode cL_law 2665 = .ok (.iadd, 1) := ydb_5_24.2.2.2.2.1
theorem dL_law_2666 : decode cL_law 2666 = .ok (.iaload, 1) := ydb_5_24.2.2.2.2.2.1
theorem dL_law_2667 : decode cL_law 2667 = .ok (.aload_n 3, 1) := ydb_5_24.2.2.2.2.2.2.1
theorem dL_law_2668 : decode cL_law 2668 = .ok (.invokestatic 296, 3) := ydb_5_24.2.2.2.2.2.2.2.1
theorem dL_law_2671 : decode cL_law 2671 = .ok (.istore 6, 2) := ydb_5_24.2.2.2.2.2.2.2.2.1
theorem dL_law_2673 : decode cL_law 2673 = .ok (.aload_n 2, 1) := ydb_5_24.2.2.2.2.2.2.2.2.2.1
theorem dL_law_2674 : decode cL_law 2674 = .ok (.aload_n 0, 1) := ydb_5_24.2.2.2.2.2.2.2.2.2.2.1
theorem dL_law_2675 : decode cL_law 2675 = .ok (.iload 5, 2) := ydb_5_24.2.2.2.2.2.2.2.2.2.2.2
theorem ydb_5_36 : (decode cL_law 2677 = .ok (.iconst 1, 1)) ∧ (decode cL_law 2678 = .ok (.iadd, 1)) ∧ (decode cL_law 2679 = .ok (.iaload, 1)) ∧ (decode cL_law 2680 = .ok (.i2c, 1)) ∧ (decode cL_law 2681 = .ok (.aload_n 0, 1)) ∧ (decode cL_law 2682 = .ok (.iload 5, 2)) ∧ (decode cL_law 2684 = .ok (.iconst 2, 1)) ∧ (decode cL_law 2685 = .ok (.iadd, 1)) ∧ (decode cL_law 2686 = .ok (.iaload, 1)) ∧ (decode cL_law 2687 = .ok (.aload_n 0, 1)) ∧ (decode cL_law 2688 = .ok (.iload 5, 2)) ∧ (decode cL_law 2690 = .ok (.iconst 3, 1)) := by decide +kernel
theorem dL_law_2677 : decode cL_law 2677 = .ok (.iconst 1, 1) := ydb_5_36.1
theorem dL_law_2678 : decode cL_law 2678 = .ok (.iadd, 1) := ydb_5_36.2.1
theorem dL_law_2679 : decode cL_law 2679 = .ok (.iaload, 1) := ydb_5_36.2.2.1
theorem dL_law_2680 : decode cL_law 2680 = .ok (.i2c, 1) := ydb_5_36.2.2.2.1
theorem dL_law_2681 : decode cL_law 2681 = .ok (.aload_n 0, 1) := ydb_5_36.2.2.2.2.1
theorem dL_law_2682 : decode cL_law 2682 = .ok (.iload 5, 2) := ydb_5_36.2.2.2.2.2.1
theorem dL_law_2684 : decode cL_law 2684 = .ok (.iconst 2, 1) := ydb_5_36.2.2.2.2.2.2.1
theorem dL_law_2685 : decode cL_law 2685 = .ok (.iadd, 1) := ydb_5_36.2.2.2.2.2.2.2.1
theorem dL_law_2686 : decode cL_law 2686 = .ok (.iaload, 1) := ydb_5_36.2.2.2.2.2.2.2.2.1
theorem dL_law_2687 : decode cL_law 2687 = .ok (.aload_n 0, 1) := ydb_5_36.2.2.2.2.2.2.2.2.2.1
theorem dL_law_2688 : decode cL_law 2688 = .ok (.iload 5, 2) := ydb_5_36.2.2.2.2.2.2.2.2.2.2.1
theorem dL_law_2690 : decode cL_law 2690 = .ok (.iconst 3, 1) := ydb_5_36.2.2.2.2.2.2.2.2.2.2.2
theorem ydb_5_48 : (decode cL_law 2691 = .ok (.iadd, 1)) ∧ (decode cL_law 2692 = .ok (.iaload, 1)) ∧ (decode cL_law 2693 = .ok (.invokevirtual 298, 3)) ∧ (decode cL_law 2696 = .ok (.istore 7, 2)) ∧ (decode cL_law 2698 = .ok (.aload_n 2, 1)) ∧ (decode cL_law 2699 = .ok (.invokevirtual 165, 3)) ∧ (decode cL_law 2702 = .ok (.iload 6, 2)) ∧ (decode cL_law 2704 = .ok (.if_icmp .eq 5, 3)) ∧ (decode cL_law 2709 = .ok (.iload 6, 2)) ∧ (decode cL_law 2711 = .ok (.ifCond .ne 15, 3)) ∧ (decode cL_law 2726 = .ok (.goto 411, 3)) ∧ (decode cL_law 2729 = .ok (.aload_n 1, 1)) := by decide +kernel
theorem dL_law_2691 : decode cL_law 2691 = .ok (.iadd, 1) := ydb_5_48.1
theorem dL_law_2692 : decode cL_law 2692 = .ok (.iaload, 1) := ydb_5_48.2.1
theorem dL_law_2693 : decode cL_law 2693 = .ok (.invokevirtual 298, 3) := ydb_5_48.2.2.1
theorem dL_law_2696 : decode cL_law 2696 = .ok (.istore 7, 2) := ydb_5_48.2.2.2.1
theorem dL_law_2698 : decode cL_law 2698 = .ok (.aload_n 2, 1) := ydb_5_48.2.2.2.2.1
theorem dL_law_2699 : decode cL_law 2699 = .ok (.invokevirtual 165, 3) := ydb_5_48.2.2.2.2.2.1
theorem dL_law_2702 : decode cL_law 2702 = .ok (.iload 6, 2) := ydb_5_48.2.2.2.2.2.2.1
theorem dL_law_2704 : decode cL_law 2704 = .ok (.if_icmp .eq 5, 3) := ydb_5_48.2.2.2.2.2.2.2.1
theorem dL_law_2709 : decode cL_law 2709 = .ok (.iload 6, 2) := ydb_5_48.2.2.2.2.2.2.2.2.1
theorem dL_law_2711 : decode cL_law 2711 = .ok (.ifCond .ne 15, 3) := ydb_5_48.2.2.2.2.2.2.2.2.2.1
theorem dL_law_2726 : decode cL_law 2726 = .ok (.goto 411, 3) := ydb_5_48.2.2.2.2.2.2.2.2.2.2.1
theorem dL_law_2729 : decode cL_law 2729 = .ok (.aload_n 1, 1) := ydb_5_48.2.2.2.2.2.2.2.2.2.2.2
theorem ydb_5_60 : (decode cL_law 2730 = .ok (.aload_n 0, 1)) ∧ (decode cL_law 2731 = .ok (.iload 5, 2)) ∧ (decode cL_law 2733 = .ok (.iconst 1, 1)) ∧ (decode cL_law 2734 = .ok (.iadd, 1)) ∧ (decode cL_law 2735 = .ok (.iaload, 1)) ∧ (decode cL_law 2736 = .ok (.i2c, 1)) ∧ (decode cL_law 2737 = .ok (.aload_n 0, 1)) ∧ (decode cL_law 2738 = .ok (.iload 5, 2)) ∧ (decode cL_law 2740 = .ok (.iconst 2, 1)) ∧ (decode cL_law 2741 = .ok (.iadd, 1)) ∧ (decode cL_law 2742 = .ok (.iaload, 1)) ∧ (decode cL_law 2743 = .ok (.aload_n 3, 1)) := by decide +kernel
theorem dL_law_2730 : decode cL_law 2730 = .ok (.aload_n 0, 1) := ydb_5_60.1
theorem dL_law_2731 : decode cL_law 2731 = .ok (.iload 5, 2) := ydb_5_60.2.1
theorem dL_law_2733 : decode cL_law 2733 = .ok (.iconst 1, 1) := ydb_5_60.2.2.1
theorem dL_law_2734 : decode cL_law 2734 = .ok (.iadd, 1) := ydb_5_60.2.2.2.1
theorem dL_law_2735 : decode cL_law 2735 = .ok (.iaload, 1) := ydb_5_60.2.2.2.2.1
theorem dL_law_2736 : decode cL_law 2736 = .ok (.i2c, 1) := ydb_5_60.2.2.2.2.2.1
theorem dL_law_2737 : decode cL_law 2737 = .ok (.aload_n 0, 1) := ydb_5_60.2.2.2.2.2.2.1
theorem dL_law_2738 : decode cL_law 2738 = .ok (.iload 5, 2) := ydb_5_60.2.2.2.2.2.2.2.1
theorem dL_law_2740 : decode cL_law 2740 = .ok (.iconst 2, 1) := ydb_5_60.2.2.2.2.2.2.2.2.1
theorem dL_law_2741 : decode cL_law 2741 = .ok (.iadd, 1) := ydb_5_60.2.2.2.2.2.2.2.2.2.1
theorem dL_law_2742 : decode cL_law 2742 = .ok (.iaload, 1) := ydb_5_60.2.2.2.2.2.2.2.2.2.2.1
theorem dL_law_2743 : decode cL_law 2743 = .ok (.aload_n 3, 1) := ydb_5_60.2.2.2.2.2.2.2.2.2.2.2
theorem ydb_5_72 : (decode cL_law 2744 = .ok (.invokestatic 299, 3)) ∧ (decode cL_law 2747 = .ok (.istore 6, 2)) ∧ (decode cL_law 2749 = .ok (.aload_n 2, 1)) ∧ (decode cL_law 2750 = .ok (.aload_n 0, 1)) ∧ (decode cL_law 2751 = .ok (.iload 5, 2)) ∧ (decode cL_law 2753 = .ok (.iconst 1, 1)) ∧ (decode cL_law 2754 = .ok (.iadd, 1)) ∧ (decode cL_law 2755 = .ok (.iaload, 1)) ∧ (decode cL_law 2756 = .ok (.i2c, 1)) ∧ (decode cL_law 2757 = .ok (.aload_n 0, 1)) ∧ (decode cL_law 2758 = .ok (.iload 5, 2)) ∧ (decode cL_law 2760 = .ok (.iconst 2, 1)) := by decide +kernel
theorem dL_law_2744 : decode cL_law 2744 = .ok (.invokestatic 299, 3) := ydb_5_72.1
theorem dL_law_2747 : decode cL_law 2747 = .ok (.istore 6, 2) := ydb_5_72.2.1
theorem dL_law_2749 : decode cL_law 2749 = .ok (.aload_n 2, 1) := ydb_5_72.2.2.1
theorem dL_law_2750 : decode cL_law 2750 = .ok (.aload_n 0, 1) := ydb_5_72.2.2.2.1
theorem dL_law_2751 : decode cL_law 2751 = .ok (.iload 5, 2) := ydb_5_72.2.2.2.2.1
theorem dL_law_2753 : decode cL_law 2753 = .ok (.iconst 1, 1) := ydb_5_72.2.2.2.2.2.1
theorem dL_law_2754 : decode cL_law 2754 = .ok (.iadd, 1) := ydb_5_72.2.2.2.2.2.2.1
theorem dL_law_2755 : decode cL_law 2755 = .ok (.iaload, 1) := ydb_5_72.2.2.2.2.2.2.2.1
theorem dL_law_2756 : decode cL_law 2756 = .ok (.i2c, 1) := ydb_5_72.2.2.2.2.2.2.2.2.1
theorem dL_law_2757 : decode cL_law 2757 = .ok (.aload_n 0, 1) := ydb_5_72.2.2.2.2.2.2.2.2.2.1
theorem dL_law_2758 : decode cL_law 2758 = .ok (.iload 5, 2) := ydb_5_72.2.2.2.2.2.2.2.2.2.2.1
theorem dL_law_2760 : decode cL_law 2760 = .ok (.iconst 2, 1) := ydb_5_72.2.2.2.2.2.2.2.2.2.2.2
theorem ydb_5_84 : (decode cL_law 2761 = .ok (.iadd, 1)) ∧ (decode cL_law 2762 = .ok (.iaload, 1)) ∧ (decode cL_law 2763 = .ok (.invokevirtual 301, 3)) ∧ (decode cL_law 2766 = .ok (.istore 7, 2)) ∧ (decode cL_law 2768 = .ok (.aload_n 2, 1)) ∧ (decode cL_law 2769 = .ok (.invokevirtual 165, 3)) ∧ (decode cL_law 2772 = .ok (.iload 6, 2)) ∧ (decode cL_law 2774 = .ok (.if_icmp .eq 5, 3)) ∧ (decode cL_law 2779 = .ok (.iload 6, 2)) ∧ (decode cL_law 2781 = .ok (.ifCond .ne 15, 3)) ∧ (decode cL_law 2796 = .ok (.goto 341, 3)) ∧ (decode cL_law 2799 = .ok (.aload_n 1, 1)) := by decide +kernel
theorem dL_law_2761 : decode cL_law 2761 = .ok (.iadd, 1) := ydb_5_84.1
theorem dL_law_2762 : decode cL_law 2762 = .ok (.iaload, 1) := ydb_5_84.2.1
theorem dL_law_2763 : decode cL_law 2763 = .ok (.invokevirtual 301, 3) := ydb_5_84.2.2.1
theorem dL_law_2766 : decode cL_law 2766 = .ok (.istore 7, 2) := ydb_5_84.2.2.2.1
theorem dL_law_2768 : decode cL_law 2768 = .ok (.aload_n 2, 1) := ydb_5_84.2.2.2.2.1
theorem dL_law_2769 : decode cL_law 2769 = .ok (.invokevirtual 165, 3) := ydb_5_84.2.2.2.2.2.1
theorem dL_law_2772 : decode cL_law 2772 = .ok (.iload 6, 2) := ydb_5_84.2.2.2.2.2.2.1
theorem dL_law_2774 : decode cL_law 2774 = .ok (.if_icmp .eq 5, 3) := ydb_5_84.2.2.2.2.2.2.2.1
theorem dL_law_2779 : decode cL_law 2779 = .ok (.iload 6, 2) := ydb_5_84.2.2.2.2.2.2.2.2.1
theorem dL_law_2781 : decode cL_law 2781 = .ok (.ifCond .ne 15, 3) := ydb_5_84.2.2.2.2.2.2.2.2.2.1
theorem dL_law_2796 : decode cL_law 2796 = .ok (.goto 341, 3) := ydb_5_84.2.2.2.2.2.2.2.2.2.2.1
theorem dL_law_2799 : decode cL_law 2799 = .ok (.aload_n 1, 1) := ydb_5_84.2.2.2.2.2.2.2.2.2.2.2
theorem ydb_5_96 : (decode cL_law 2800 = .ok (.aload_n 0, 1)) ∧ (decode cL_law 2801 = .ok (.iload 5, 2)) ∧ (decode cL_law 2803 = .ok (.iconst 1, 1)) ∧ (decode cL_law 2804 = .ok (.iadd, 1)) ∧ (decode cL_law 2805 = .ok (.iaload, 1)) ∧ (decode cL_law 2806 = .ok (.aload_n 3, 1)) ∧ (decode cL_law 2807 = .ok (.invokestatic 302, 3)) ∧ (decode cL_law 2810 = .ok (.istore 6, 2)) ∧ (decode cL_law 2812 = .ok (.aload_n 2, 1)) ∧ (decode cL_law 2813 = .ok (.aload_n 0, 1)) ∧ (decode cL_law 2814 = .ok (.iload 5, 2)) ∧ (decode cL_law 2816 = .ok (.iconst 1, 1)) := by decide +kernel
theorem dL_law_2800 : decode cL_law 2800 = .ok (.aload_n 0, 1) := ydb_5_96.1
theorem dL_law_2801 : decode cL_law 2801 = .ok (.iload 5, 2) := ydb_5_96.2.1
theorem dL_law_2803 : decode cL_law 2803 = .ok (.iconst 1, 1) := ydb_5_96.2.2.1
theorem dL_law_2804 : decode cL_law 2804 = .ok (.iadd, 1) := ydb_5_96.2.2.2.1
theorem dL_law_2805 : decode cL_law 2805 = .ok (.iaload, 1) := ydb_5_96.2.2.2.2.1
theorem dL_law_2806 : decode cL_law 2806 = .ok (.aload_n 3, 1) := ydb_5_96.2.2.2.2.2.1
theorem dL_law_2807 : decode cL_law 2807 = .ok (.invokestatic 302, 3) := ydb_5_96.2.2.2.2.2.2.1
theorem dL_law_2810 : decode cL_law 2810 = .ok (.istore 6, 2) := ydb_5_96.2.2.2.2.2.2.2.1
theorem dL_law_2812 : decode cL_law 2812 = .ok (.aload_n 2, 1) := ydb_5_96.2.2.2.2.2.2.2.2.1
theorem dL_law_2813 : decode cL_law 2813 = .ok (.aload_n 0, 1) := ydb_5_96.2.2.2.2.2.2.2.2.2.1
theorem dL_law_2814 : decode cL_law 2814 = .ok (.iload 5, 2) := ydb_5_96.2.2.2.2.2.2.2.2.2.2.1
theorem dL_law_2816 : decode cL_law 2816 = .ok (.iconst 1, 1) := ydb_5_96.2.2.2.2.2.2.2.2.2.2.2
theorem ydb_5_108 : (decode cL_law 2817 = .ok (.iadd, 1)) ∧ (decode cL_law 2818 = .ok (.iaload, 1)) ∧ (decode cL_law 2819 = .ok (.invokevirtual 304, 3)) ∧ (decode cL_law 2822 = .ok (.istore 7, 2)) ∧ (decode cL_law 2824 = .ok (.aload_n 2, 1)) ∧ (decode cL_law 2825 = .ok (.invokevirtual 165, 3)) ∧ (decode cL_law 2828 = .ok (.iload 6, 2)) ∧ (decode cL_law 2830 = .ok (.if_icmp .eq 5, 3)) ∧ (decode cL_law 2835 = .ok (.iload 6, 2)) ∧ (decode cL_law 2837 = .ok (.ifCond .ne 15, 3)) ∧ (decode cL_law 2852 = .ok (.goto 285, 3)) ∧ (decode cL_law 2855 = .ok (.aload_n 1, 1)) := by decide +kernel
theorem dL_law_2817 : decode cL_law 2817 = .ok (.iadd, 1) := ydb_5_108.1
theorem dL_law_2818 : decode cL_law 2818 = .ok (.iaload, 1) := ydb_5_108.2.1
theorem dL_law_2819 : decode cL_law 2819 = .ok (.invokevirtual 304, 3) := ydb_5_108.2.2.1
theorem dL_law_2822 : decode cL_law 2822 = .ok (.istore 7, 2) := ydb_5_108.2.2.2.1
theorem dL_law_2824 : decode cL_law 2824 = .ok (.aload_n 2, 1) := ydb_5_108.2.2.2.2.1
theorem dL_law_2825 : decode cL_law 2825 = .ok (.invokevirtual 165, 3) := ydb_5_108.2.2.2.2.2.1
theorem dL_law_2828 : decode cL_law 2828 = .ok (.iload 6, 2) := ydb_5_108.2.2.2.2.2.2.1
theorem dL_law_2830 : decode cL_law 2830 = .ok (.if_icmp .eq 5, 3) := ydb_5_108.2.2.2.2.2.2.2.1
theorem dL_law_2835 : decode cL_law 2835 = .ok (.iload 6, 2) := ydb_5_108.2.2.2.2.2.2.2.2.1
theorem dL_law_2837 : decode cL_law 2837 = .ok (.ifCond .ne 15, 3) := ydb_5_108.2.2.2.2.2.2.2.2.2.1
theorem dL_law_2852 : decode cL_law 2852 = .ok (.goto 285, 3) := ydb_5_108.2.2.2.2.2.2.2.2.2.2.1
theorem dL_law_2855 : decode cL_law 2855 = .ok (.aload_n 1, 1) := ydb_5_108.2.2.2.2.2.2.2.2.2.2.2
theorem ydb_5_120 : (decode cL_law 2856 = .ok (.aload_n 0, 1)) ∧ (decode cL_law 2857 = .ok (.iload 5, 2)) ∧ (decode cL_law 2859 = .ok (.iconst 1, 1)) ∧ (decode cL_law 2860 = .ok (.iadd, 1)) ∧ (decode cL_law 2861 = .ok (.iaload, 1)) ∧ (decode cL_law 2862 = .ok (.aload_n 0, 1)) ∧ (decode cL_law 2863 = .ok (.iload 5, 2)) ∧ (decode cL_law 2865 = .ok (.iconst 2, 1)) ∧ (decode cL_law 2866 = .ok (.iadd, 1)) ∧ (decode cL_law 2867 = .ok (.iaload, 1)) ∧ (decode cL_law 2868 = .ok (.aload_n 3, 1)) ∧ (decode cL_law 2869 = .ok (.invokestatic 305, 3)) := by decide +kernel
theorem dL_law_2856 : decode cL_law 2856 = .ok (.aload_n 0, 1) := ydb_5_120.1
theorem dL_law_2857 : decode cL_law 2857 = .ok (.iload 5, 2) := ydb_5_120.2.1
theorem dL_law_2859 : decode cL_law 2859 = .ok (.iconst 1, 1) := ydb_5_120.2.2.1
theorem dL_law_2860 : decode cL_law 2860 = .ok (.iadd, 1) := ydb_5_120.2.2.2.1
theorem dL_law_2861 : decode cL_law 2861 = .ok (.iaload, 1) := ydb_5_120.2.2.2.2.1
theorem dL_law_2862 : decode cL_law 2862 = .ok (.aload_n 0, 1) := ydb_5_120.2.2.2.2.2.1
theorem dL_law_2863 : decode cL_law 2863 = .ok (.iload 5, 2) := ydb_5_120.2.2.2.2.2.2.1
theorem dL_law_2865 : decode cL_law 2865 = .ok (.iconst 2, 1) := ydb_5_120.2.2.2.2.2.2.2.1
theorem dL_law_2866 : decode cL_law 2866 = .ok (.iadd, 1) := ydb_5_120.2.2.2.2.2.2.2.2.1
theorem dL_law_2867 : decode cL_law 2867 = .ok (.iaload, 1) := ydb_5_120.2.2.2.2.2.2.2.2.2.1
theorem dL_law_2868 : decode cL_law 2868 = .ok (.aload_n 3, 1) := ydb_5_120.2.2.2.2.2.2.2.2.2.2.1
theorem dL_law_2869 : decode cL_law 2869 = .ok (.invokestatic 305, 3) := ydb_5_120.2.2.2.2.2.2.2.2.2.2.2
theorem ydb_5_132 : (decode cL_law 2872 = .ok (.istore 6, 2)) ∧ (decode cL_law 2874 = .ok (.aload_n 2, 1)) ∧ (decode cL_law 2875 = .ok (.aload_n 0, 1)) ∧ (decode cL_law 2876 = .ok (.iload 5, 2)) ∧ (decode cL_law 2878 = .ok (.iconst 1, 1)) ∧ (decode cL_law 2879 = .ok (.iadd, 1)) ∧ (decode cL_law 2880 = .ok (.iaload, 1)) ∧ (decode cL_law 2881 = .ok (.aload_n 0, 1)) ∧ (decode cL_law 2882 = .ok (.iload 5, 2)) ∧ (decode cL_law 2884 = .ok (.iconst 2, 1)) ∧ (decode cL_law 2885 = .ok (.iadd, 1)) ∧ (decode cL_law 2886 = .ok (.iaload, 1)) := by decide +kernel
theorem dL_law_2872 : decode cL_law 2872 = .ok (.istore 6, 2) := ydb_5_132.1
theorem dL_law_2874 : decode cL_law 2874 = .ok (.aload_n 2, 1) := ydb_5_132.2.1
theorem dL_law_2875 : decode cL_law 2875 = .ok (.aload_n 0, 1) := ydb_5_132.2.2.1
theorem dL_law_2876 : decode cL_law 2876 = .ok (.iload 5, 2) := ydb_5_132.2.2.2.1
theorem dL_law_2878 : decode cL_law 2878 = .ok (.iconst 1, 1) := ydb_5_132.2.2.2.2.1
theorem dL_law_2879 : decode cL_law 2879 = .ok (.iadd, 1) := ydb_5_132.2.2.2.2.2.1
theorem dL_law_2880 : decode cL_law 2880 = .ok (.iaload, 1) := ydb_5_132.2.2.2.2.2.2.1
theorem dL_law_2881 : decode cL_law 2881 = .ok (.aload_n 0, 1) := ydb_5_132.2.2.2.2.2.2.2.1
theorem dL_law_2882 : decode cL_law 2882 = .ok (.iload 5, 2) := ydb_5_132.2.2.2.2.2.2.2.2.1
theorem dL_law_2884 : decode cL_law 2884 = .ok (.iconst 2, 1) := ydb_5_132.2.2.2.2.2.2.2.2.2.1
theorem dL_law_2885 : decode cL_law 2885 = .ok (.iadd, 1) := ydb_5_132.2.2.2.2.2.2.2.2.2.2.1
theorem dL_law_2886 : decode cL_law 2886 = .ok (.iaload, 1) := ydb_5_132.2.2.2.2.2.2.2.2.2.2.2
theorem ydb_5_144 : (decode cL_law 2887 = .ok (.invokevirtual 307, 3)) ∧ (decode cL_law 2890 = .ok (.istore 7, 2)) ∧ (decode cL_law 2892 = .ok (.aload_n 2, 1)) ∧ (decode cL_law 2893 = .ok (.invokevirtual 165, 3)) ∧ (decode cL_law 2896 = .ok (.iload 6, 2)) ∧ (decode cL_law 2898 = .ok (.if_icmp .eq 5, 3)) ∧ (decode cL_law 2903 = .ok (.iload 6, 2)) ∧ (decode cL_law 2905 = .ok (.ifCond .ne 15, 3)) ∧ (decode cL_law 2920 = .ok (.goto 217, 3)) ∧ (decode cL_law 2923 = .ok (.aload_n 1, 1)) ∧ (decode cL_law 2924 = .ok (.aload_n 0, 1)) ∧ (decode cL_law 2925 = .ok (.iload 5, 2)) := by decide +kernel
theorem dL_law_2887 : decode cL_law 2887 = .ok (.invokevirtual 307, 3) := ydb_5_144.1
theorem dL_law_2890 : decode cL_law 2890 = .ok (.istore 7, 2) := ydb_5_144.2.1
theorem dL_law_2892 : decode cL_law 2892 = .ok (.aload_n 2, 1) := ydb_5_144.2.2.1
theorem dL_law_2893 : decode cL_law 2893 = .ok (.invokevirtual 165, 3) := ydb_5_144.2.2.2.1
theorem dL_law_2896 : decode cL_law 2896 = .ok (.iload 6, 2) := ydb_5_144.2.2.2.2.1
theorem dL_law_2898 : decode cL_law 2898 = .ok (.if_icmp .eq 5, 3) := ydb_5_144.2.2.2.2.2.1
theorem dL_law_2903 : decode cL_law 2903 = .ok (.iload 6, 2) := ydb_5_144.2.2.2.2.2.2.1
theorem dL_law_2905 : decode cL_law 2905 = .ok (.ifCond .ne 15, 3) := ydb_5_144.2.2.2.2.2.2.2.1
theorem dL_law_2920 : decode cL_law 2920 = .ok (.goto 217, 3) := ydb_5_144.2.2.2.2.2.2.2.2.1
theorem dL_law_2923 : decode cL_law 2923 = .ok (.aload_n 1, 1) := ydb_5_144.2.2.2.2.2.2.2.2.2.1
theorem dL_law_2924 : decode cL_law 2924 = .ok (.aload_n 0, 1) := ydb_5_144.2.2.2.2.2.2.2.2.2.2.1
theorem dL_law_2925 : decode cL_law 2925 = .ok (.iload 5, 2) := ydb_5_144.2.2.2.2.2.2.2.2.2.2.2
theorem ydb_5_156 : (decode cL_law 2927 = .ok (.iconst 1, 1)) ∧ (decode cL_law 2928 = .ok (.iadd, 1)) ∧ (decode cL_law 2929 = .ok (.iaload, 1)) ∧ (decode cL_law 2930 = .ok (.aload_n 3, 1)) ∧ (decode cL_law 2931 = .ok (.invokestatic 308, 3)) ∧ (decode cL_law 2934 = .ok (.istore 6, 2)) ∧ (decode cL_law 2936 = .ok (.aload_n 2, 1)) ∧ (decode cL_law 2937 = .ok (.aload_n 0, 1)) ∧ (decode cL_law 2938 = .ok (.iload 5, 2)) ∧ (decode cL_law 2940 = .ok (.iconst 1, 1)) ∧ (decode cL_law 2941 = .ok (.iadd, 1)) ∧ (decode cL_law 2942 = .ok (.iaload, 1)) := by decide +kernel
theorem dL_law_2927 : decode cL_law 2927 = .ok (.iconst 1, 1) := ydb_5_156.1
theorem dL_law_2928 : decode cL_law 2928 = .ok (.iadd, 1) := ydb_5_156.2.1
theorem dL_law_2929 : decode cL_law 2929 = .ok (.iaload, 1) := ydb_5_156.2.2.1
theorem dL_law_2930 : decode cL_law 2930 = .ok (.aload_n 3, 1) := ydb_5_156.2.2.2.1
theorem dL_law_2931 : decode cL_law 2931 = .ok (.invokestatic 308, 3) := ydb_5_156.2.2.2.2.1
theorem dL_law_2934 : decode cL_law 2934 = .ok (.istore 6, 2) := ydb_5_156.2.2.2.2.2.1
theorem dL_law_2936 : decode cL_law 2936 = .ok (.aload_n 2, 1) := ydb_5_156.2.2.2.2.2.2.1
theorem dL_law_2937 : decode cL_law 2937 = .ok (.aload_n 0, 1) := ydb_5_156.2.2.2.2.2.2.2.1
theorem dL_law_2938 : decode cL_law 2938 = .ok (.iload 5, 2) := ydb_5_156.2.2.2.2.2.2.2.2.1
theorem dL_law_2940 : decode cL_law 2940 = .ok (.iconst 1, 1) := ydb_5_156.2.2.2.2.2.2.2.2.2.1
theorem dL_law_2941 : decode cL_law 2941 = .ok (.iadd, 1) := ydb_5_156.2.2.2.2.2.2.2.2.2.2.1
theorem dL_law_2942 : decode cL_law 2942 = .ok (.iaload, 1) := ydb_5_156.2.2.2.2.2.2.2.2.2.2.2
theorem ydb_5_168 : (decode cL_law 2943 = .ok (.invokevirtual 310, 3)) ∧ (decode cL_law 2946 = .ok (.istore 7, 2)) ∧ (decode cL_law 2948 = .ok (.aload_n 2, 1)) ∧ (decode cL_law 2949 = .ok (.invokevirtual 165, 3)) ∧ (decode cL_law 2952 = .ok (.iload 6, 2)) ∧ (decode cL_law 2954 = .ok (.if_icmp .eq 5, 3)) ∧ (decode cL_law 2959 = .ok (.iload 6, 2)) ∧ (decode cL_law 2961 = .ok (.ifCond .ne 15, 3)) ∧ (decode cL_law 2964 = .ok (.aload_n 3, 1)) ∧ (decode cL_law 2965 = .ok (.iconst 0, 1)) ∧ (decode cL_law 2966 = .ok (.laload, 1)) ∧ (decode cL_law 2967 = .ok (.iload 7, 2)) := by decide +kernel
theorem dL_law_2943 : decode cL_law 2943 = .ok (.invokevirtual 310, 3) := ydb_5_168.1
theorem dL_law_2946 : decode cL_law 2946 = .ok (.istore 7, 2) := ydb_5_168.2.1
theorem dL_law_2948 : decode cL_law 2948 = .ok (.aload_n 2, 1) := ydb_5_168.2.2.1
theorem dL_law_2949 : decode cL_law 2949 = .ok (.invokevirtual 165, 3) := ydb_5_168.2.2.2.1
theorem dL_law_2952 : decode cL_law 2952 = .ok (.iload 6, 2) := ydb_5_168.2.2.2.2.1
theorem dL_law_2954 : decode cL_law 2954 = .ok (.if_icmp .eq 5, 3) := ydb_5_168.2.2.2.2.2.1
theorem dL_law_2959 : decode cL_law 2959 = .ok (.iload 6, 2) := ydb_5_168.2.2.2.2.2.2.1
theorem dL_law_2961 : decode cL_law 2961 = .ok (.ifCond .ne 15, 3) := ydb_5_168.2.2.2.2.2.2.2.1
theorem dL_law_2964 : decode cL_law 2964 = .ok (.aload_n 3, 1) := ydb_5_168.2.2.2.2.2.2.2.2.1
theorem dL_law_2965 : decode cL_law 2965 = .ok (.iconst 0, 1) := ydb_5_168.2.2.2.2.2.2.2.2.2.1
theorem dL_law_2966 : decode cL_law 2966 = .ok (.laload, 1) := ydb_5_168.2.2.2.2.2.2.2.2.2.2.1
theorem dL_law_2967 : decode cL_law 2967 = .ok (.iload 7, 2) := ydb_5_168.2.2.2.2.2.2.2.2.2.2.2
theorem ydb_5_180 : (decode cL_law 2969 = .ok (.i2l, 1)) ∧ (decode cL_law 2970 = .ok (.lcmp, 1)) ∧ (decode cL_law 2971 = .ok (.ifCond .eq 5, 3)) ∧ (decode cL_law 2976 = .ok (.goto 161, 3)) ∧ (decode cL_law 2979 = .ok (.aload_n 1, 1)) ∧ (decode cL_law 2980 = .ok (.aload 4, 2)) ∧ (decode cL_law 2982 = .ok (.invokestatic 311, 3)) ∧ (decode cL_law 2985 = .ok (.istore 6, 2)) ∧ (decode cL_law 2987 = .ok (.aload_n 2, 1)) ∧ (decode cL_law 2988 = .ok (.invokevirtual 314, 3)) ∧ (decode cL_law 2991 = .ok (.fstore 7, 2)) ∧ (decode cL_law 2993 = .ok (.aload_n 2, 1)) := by decide +kernel
theorem dL_law_2969 : decode cL_law 2969 = .ok (.i2l, 1) := ydb_5_180.1
theorem dL_law_2970 : decode cL_law 2970 = .ok (.lcmp, 1) := ydb_5_180.2.1
theorem dL_law_2971 : decode cL_law 2971 = .ok (.ifCond .eq 5, 3) := ydb_5_180.2.2.1
theorem dL_law_2976 : decode cL_law 2976 = .ok (.goto 161, 3) := ydb_5_180.2.2.2.1
theorem dL_law_2979 : decode cL_law 2979 = .ok (.aload_n 1, 1) := ydb_5_180.2.2.2.2.1
theorem dL_law_2980 : decode cL_law 2980 = .ok (.aload 4, 2) := ydb_5_180.2.2.2.2.2.1
theorem dL_law_2982 : decode cL_law 2982 = .ok (.invokestatic 311, 3) := ydb_5_180.2.2.2.2.2.2.1
theorem dL_law_2985 : decode cL_law 2985 = .ok (.istore 6, 2) := ydb_5_180.2.2.2.2.2.2.2.1
theorem dL_law_2987 : decode cL_law 2987 = .ok (.aload_n 2, 1) := ydb_5_180.2.2.2.2.2.2.2.2.1
theorem dL_law_2988 : decode cL_law 2988 = .ok (.invokevirtual 314, 3) := ydb_5_180.2.2.2.2.2.2.2.2.2.1
theorem dL_law_2991 : decode cL_law 2991 = .ok (.fstore 7, 2) := ydb_5_180.2.2.2.2.2.2.2.2.2.2.1
theorem dL_law_2993 : decode cL_law 2993 = .ok (.aload_n 2, 1) := ydb_5_180.2.2.2.2.2.2.2.2.2.2.2
theorem ydb_5_192 : (decode cL_law 2994 = .ok (.invokevirtual 165, 3)) ∧ (decode cL_law 2997 = .ok (.iload 6, 2)) ∧ (decode cL_law 2999 = .ok (.if_icmp .eq 5, 3)) ∧ (decode cL_law 3004 = .ok (.iload 6, 2)) ∧ (decode cL_law 3006 = .ok (.ifCond .ne 36, 3)) ∧ (decode cL_law 3042 = .ok (.goto 95, 3)) ∧ (decode cL_law 3045 = .ok (.aload_n 1, 1)) ∧ (decode cL_law 3046 = .ok (.aload 4, 2)) ∧ (decode cL_law 3048 = .ok (.invokestatic 315, 3)) ∧ (decode cL_law 3051 = .ok (.istore 6, 2)) ∧ (decode cL_law 3053 = .ok (.aload_n 2, 1)) ∧ (decode cL_law 3054 = .ok (.invokevirtual 317, 3)) := by decide +kernel
theorem dL_law_2994 : decode cL_law 2994 = .ok (.invokevirtual 165, 3) := ydb_5_192.1
theorem dL_law_2997 : decode cL_law 2997 = .ok (.iload 6, 2) := ydb_5_192.2.1
theorem dL_law_2999 : decode cL_law 2999 = .ok (.if_icmp .eq 5, 3) := ydb_5_192.2.2.1
theorem dL_law_3004 : decode cL_law 3004 = .ok (.iload 6, 2) := ydb_5_192.2.2.2.1
theorem dL_law_3006 : decode cL_law 3006 = .ok (.ifCond .ne 36, 3) := ydb_5_192.2.2.2.2.1
theorem dL_law_3042 : decode cL_law 3042 = .ok (.goto 95, 3) := ydb_5_192.2.2.2.2.2.1
theorem dL_law_3045 : decode cL_law 3045 = .ok (.aload_n 1, 1) := ydb_5_192.2.2.2.2.2.2.1
theorem dL_law_3046 : decode cL_law 3046 = .ok (.aload 4, 2) := ydb_5_192.2.2.2.2.2.2.2.1
theorem dL_law_3048 : decode cL_law 3048 = .ok (.invokestatic 315, 3) := ydb_5_192.2.2.2.2.2.2.2.2.1
theorem dL_law_3051 : decode cL_law 3051 = .ok (.istore 6, 2) := ydb_5_192.2.2.2.2.2.2.2.2.2.1
theorem dL_law_3053 : decode cL_law 3053 = .ok (.aload_n 2, 1) := ydb_5_192.2.2.2.2.2.2.2.2.2.2.1
theorem dL_law_3054 : decode cL_law 3054 = .ok (.invokevirtual 317, 3) := ydb_5_192.2.2.2.2.2.2.2.2.2.2.2
theorem ydb_5_204 : (decode cL_law 3057 = .ok (.dstore 7, 2)) ∧ (decode cL_law 3059 = .ok (.aload_n 2, 1)) ∧ (decode cL_law 3060 = .ok (.invokevirtual 165, 3)) ∧ (decode cL_law 3063 = .ok (.iload 6, 2)) ∧ (decode cL_law 3065 = .ok (.if_icmp .eq 5, 3)) ∧ (decode cL_law 3070 = .ok (.iload 6, 2)) ∧ (decode cL_law 3072 = .ok (.ifCond .ne 35, 3)) ∧ (decode cL_law 3107 = .ok (.goto 30, 3)) ∧ (decode cL_law 3110 = .ok (.aload_n 1, 1)) ∧ (decode cL_law 3111 = .ok (.invokevirtual 318, 3)) ∧ (decode cL_law 3114 = .ok (.aload_n 2, 1)) ∧ (decode cL_law 3115 = .ok (.invokevirtual 322, 3)) := by decide +kernel
theorem dL_law_3057 : decode cL_law 3057 = .ok (.dstore 7, 2) := ydb_5_204.1
theorem dL_law_3059 : decode cL_law 3059 = .ok (.aload_n 2, 1) := ydb_5_204.2.1
theorem dL_law_3060 : decode cL_law 3060 = .ok (.invokevirtual 165, 3) := ydb_5_204.2.2.1
theorem dL_law_3063 : decode cL_law 3063 = .ok (.iload 6, 2) := ydb_5_204.2.2.2.1
theorem dL_law_3065 : decode cL_law 3065 = .ok (.if_icmp .eq 5, 3) := ydb_5_204.2.2.2.2.1
theorem dL_law_3070 : decode cL_law 3070 = .ok (.iload 6, 2) := ydb_5_204.2.2.2.2.2.1
theorem dL_law_3072 : decode cL_law 3072 = .ok (.ifCond .ne 35, 3) := ydb_5_204.2.2.2.2.2.2.1
theorem dL_law_3107 : decode cL_law 3107 = .ok (.goto 30, 3) := ydb_5_204.2.2.2.2.2.2.2.1
theorem dL_law_3110 : decode cL_law 3110 = .ok (.aload_n 1, 1) := ydb_5_204.2.2.2.2.2.2.2.2.1
theorem dL_law_3111 : decode cL_law 3111 = .ok (.invokevirtual 318, 3) := ydb_5_204.2.2.2.2.2.2.2.2.2.1
theorem dL_law_3114 : decode cL_law 3114 = .ok (.aload_n 2, 1) := ydb_5_204.2.2.2.2.2.2.2.2.2.2.1
theorem dL_law_3115 : decode cL_law 3115 = .ok (.invokevirtual 322, 3) := ydb_5_204.2.2.2.2.2.2.2.2.2.2.2
theorem ydb_5_216 : (decode cL_law 3118 = .ok (.lcmp, 1)) ∧ (decode cL_law 3119 = .ok (.ifCond .eq 18, 3)) ∧ (decode cL_law 3124 = .ok (.aload_n 1, 1)) ∧ (decode cL_law 3125 = .ok (.invokevirtual 323, 3)) ∧ (decode cL_law 3128 = .ok (.aload_n 2, 1)) ∧ (decode cL_law 3129 = .ok (.invokevirtual 327, 3)) ∧ (decode cL_law 3132 = .ok (.if_icmp .eq 5, 3)) ∧ (decode cL_law 3137 = .ok (.iinc 5 5, 3)) ∧ (decode cL_law 3140 = .ok (.goto (-3112), 3)) ∧ (decode cL_law 3143 = .ok (.iconst 1, 1)) ∧ (decode cL_law 3144 = .ok (.ireturn, 1)) := by decide +kernel
theorem dL_law_3118 : decode cL_law 3118 = .ok (.lcmp, 1) := ydb_5_216.1
theorem dL_law_3119 : decode cL_law 3119 = .ok (.ifCond .eq 18, 3) := ydb_5_216.2.1
theorem dL_law_3124 : decode cL_law 3124 = .ok (.aload_n 1, 1) := ydb_5_216.2.2.1
theorem dL_law_3125 : decode cL_law 3125 = .ok (.invokevirtual 323, 3) := ydb_5_216.2.2.2.1
theorem dL_law_3128 : decode cL_law 3128 = .ok (.aload_n 2, 1) := ydb_5_216.2.2.2.2.1
theorem dL_law_3129 : decode cL_law 3129 = .ok (.invokevirtual 327, 3) := ydb_5_216.2.2.2.2.2.1
theorem dL_law_3132 : decode cL_law 3132 = .ok (.if_icmp .eq 5, 3) := ydb_5_216.2.2.2.2.2.2.1
theorem dL_law_3137 : decode cL_law 3137 = .ok (.iinc 5 5, 3) := ydb_5_216.2.2.2.2.2.2.2.1
theorem dL_law_3140 : decode cL_law 3140 = .ok (.goto (-3112), 3) := ydb_5_216.2.2.2.2.2.2.2.2.1
theorem dL_law_3143 : decode cL_law 3143 = .ok (.iconst 1, 1) := ydb_5_216.2.2.2.2.2.2.2.2.2.1
theorem dL_law_3144 : decode cL_law 3144 = .ok (.ireturn, 1) := ydb_5_216.2.2.2.2.2.2.2.2.2.2
