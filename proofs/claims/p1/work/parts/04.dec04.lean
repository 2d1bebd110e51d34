theorem dL_law_2609 : decode cL_law 2609 = .ok (.aload_n 0, 1) := by decide +kernel
theorem dL_law_2610 : decode cL_law 2610 = .ok (.iload_n 3, 1) := by decide +kernel
theorem dL_law_2611 : decode cL_law 2611 = .ok (.iconst 2, 1) := by decide +kernel
theorem dL_law_2612 : decode cL_law 2612 = .ok (.iadd, 1) := by decide +kernel
theorem dL_law_2613 : decode cL_law 2613 = .ok (.iaload, 1) := by decide +kernel
theorem dL_law_2614 : decode cL_law 2614 = .ok (.aload_n 0, 1) := by decide +kernel
theorem dL_law_2615 : decode cL_law 2615 = .ok (.iload_n 3, 1) := by decide +kernel
theorem dL_law_2616 : decode cL_law 2616 = .ok (.iconst 3, 1) := by decide +kernel
theorem dL_law_2617 : decode cL_law 2617 = .ok (.iadd, 1) := by decide +kernel
theorem dL_law_2618 : decode cL_law 2618 = .ok (.iaload, 1) := by decide +kernel
theorem dL_law_2619 : decode cL_law 2619 = .ok (.aload_n 0, 1) := by decide +kernel
theorem dL_law_2620 : decode cL_law 2620 = .ok (.iload_n 3, 1) := by decide +kernel
theorem dL_law_2621 : decode cL_law 2621 = .ok (.iconst 4, 1) := by decide +kernel
theorem dL_law_2622 : decode cL_law 2622 = .ok (.iadd, 1) := by decide +kernel
theorem dL_law_2623 : decode cL_law 2623 = .ok (.iaload, 1) := by decide +kernel
theorem dL_law_2624 : decode cL_law 2624 = .ok (.aload_n 0, 1) := by decide +kernel
theorem dL_law_2625 : decode cL_law 2625 = .ok (.iload_n 3, 1) := by decide +kernel
theorem dL_law_2626 : decode cL_law 2626 = .ok (.iconst 5, 1) := by decide +kernel
theorem dL_law_2627 : decode cL_law 2627 = .ok (.iadd, 1) := by decide +kernel
theorem dL_law_2628 : decode cL_law 2628 = .ok (.iaload, 1) := by decide +kernel
theorem dL_law_2629 : decode cL_law 2629 = .ok (.invokevirtual 364, 3) := by decide +kernel
theorem dL_law_2632 : decode cL_law 2632 = .ok (.aload_n 2, 1) := by decide +kernel
theorem dL_law_2633 : decode cL_law 2633 = .ok (.aload_n 0, 1) := by decide +kernel
theorem dL_law_2634 : decode cL_law 2634 = .ok (.iload_n 3, 1) := by decide +kernel
theorem dL_law_2635 : decode cL_law 2635 = .ok (.iconst 1, 1) := by decide +kernel
theorem dL_law_2636 : decode cL_law 2636 = .ok (.iadd, 1) := by decide +kernel
theorem dL_law_2637 : decode cL_law 2637 = .ok (.iaload, 1) := by decide +kernel
theorem dL_law_2638 : decode cL_law 2638 = .ok (.aload_n 0, 1) := by decide +kernel
theorem dL_law_2639 : decode cL_law 2639 = .ok (.iload_n 3, 1) := by decide +kernel
theorem dL_law_2640 : decode cL_law 2640 = .ok (.iconst 2, 1) := by decide +kernel
theorem dL_law_2641 : decode cL_law 2641 = .ok (.iadd, 1) := by decide +kernel
theorem dL_law_2642 : decode cL_law 2642 = .ok (.iaload, 1) := by decide +kernel
theorem dL_law_2643 : decode cL_law 2643 = .ok (.aload_n 0, 1) := by decide +kernel
theorem dL_law_2644 : decode cL_law 2644 = .ok (.iload_n 3, 1) := by decide +kernel
theorem dL_law_2645 : decode cL_law 2645 = .ok (.iconst 3, 1) := by decide +kernel
theorem dL_law_2646 : decode cL_law 2646 = .ok (.iadd, 1) := by decide +kernel
theorem dL_law_2647 : decode cL_law 2647 = .ok (.iaload, 1) := by decide +kernel
theorem dL_law_2648 : decode cL_law 2648 = .ok (.aload_n 0, 1) := by decide +kernel
theorem dL_law_2649 : decode cL_law 2649 = .ok (.iload_n 3, 1) := by decide +kernel
theorem dL_law_2650 : decode cL_law 2650 = .ok (.iconst 4, 1) := by decide +kernel
theorem dL_law_2651 : decode cL_law 2651 = .ok (.iadd, 1) := by decide +kernel
theorem dL_law_2652 : decode cL_law 2652 = .ok (.iaload, 1) := by decide +kernel
theorem dL_law_2653 : decode cL_law 2653 = .ok (.aload_n 0, 1) := by decide +kernel
theorem dL_law_2654 : decode cL_law 2654 = .ok (.iload_n 3, 1) := by decide +kernel
theorem dL_law_2655 : decode cL_law 2655 = .ok (.iconst 5, 1) := by decide +kernel
theorem dL_law_2656 : decode cL_law 2656 = .ok (.iadd, 1) := by decide +kernel
theorem dL_law_2657 : decode cL_law 2657 = .ok (.iaload, 1) := by decide +kernel
theorem dL_law_2658 : decode cL_law 2658 = .ok (.invokevirtual 367, 3) := by decide +kernel
theorem dL_law_2661 : decode cL_law 2661 = .ok (.if_icmp .eq 5, 3) := by decide +kernel
theorem dL_law_2666 : decode cL_law 2666 = .ok (.iinc 3 6, 3) := by decide +kernel
theorem dL_law_2669 : decode cL_law 2669 = .ok (.goto (-2651), 3) := by decide +kernel
theorem dL_law_2672 : decode cL_law 2672 = .ok (.iconst 1, 1) := by decide +kernel
theorem dL_law_2673 : decode cL_law 2673 = .ok (.ireturn, 1) := by decide +kernel
theorem dX0_init_0 : decode cX0_init 0 = .ok (.aload_n 0, 1) := by decide +kernel
theorem dX0_init_1 : decode cX0_init 1 = .ok (.invokespecial 3, 3) := by decide +kernel
theorem dX0_init_4 : decode cX0_init 4 = .ok (.aload_n 0, 1) := by decide +kernel
theorem dX0_init_5 : decode cX0_init 5 = .ok (.lconst 0, 1) := by decide +kernel
theorem dX0_init_6 : decode cX0_init 6 = .ok (.putfield 9, 3) := by decide +kernel
theorem dX0_init_9 : decode cX0_init 9 = .ok (.aload_n 0, 1) := by decide +kernel
theorem dX0_init_10 : decode cX0_init 10 = .ok (.lconst 1, 1) := by decide +kernel
theorem dX0_init_11 : decode cX0_init 11 = .ok (.putfield 15, 3) := by decide +kernel
theorem dX0_init_14 : decode cX0_init 14 = .ok (.return_, 1) := by decide +kernel
theorem dX1_init_0 : decode cX1_init 0 = .ok (.aload_n 0, 1) := by decide +kernel
theorem dX1_init_1 : decode cX1_init 1 = .ok (.invokespecial 3, 3) := by decide +kernel
theorem dX1_init_4 : decode cX1_init 4 = .ok (.aload_n 0, 1) := by decide +kernel
theorem dX1_init_5 : decode cX1_init 5 = .ok (.iconst 0, 1) := by decide +kernel
theorem dX1_init_6 : decode cX1_init 6 = .ok (.putfield 9, 3) := by decide +kernel
theorem dX1_init_9 : decode cX1_init 9 = .ok (.aload_n 0, 1) := by decide +kernel
theorem dX1_init_10 : decode cX1_init 10 = .ok (.lconst 1, 1) := by decide +kernel
theorem dX1_init_11 : decode cX1_init 11 = .ok (.putfield 15, 3) := by decide +kernel
theorem dX1_init_14 : decode cX1_init 14 = .ok (.aload_n 0, 1) := by decide +kernel
theorem dX1_init_15 : decode cX1_init 15 = .ok (.iconst 5, 1) := by decide +kernel
theorem dX1_init_16 : decode cX1_init 16 = .ok (.newarray .int, 2) := by decide +kernel
theorem dX1_init_18 : decode cX1_init 18 = .ok (.putfield 19, 3) := by decide +kernel
theorem dX1_init_21 : decode cX1_init 21 = .ok (.aload_n 0, 1) := by decide +kernel
theorem dX1_init_22 : decode cX1_init 22 = .ok (.iconst 5, 1) := by decide +kernel
theorem dX1_init_23 : decode cX1_init 23 = .ok (.newarray .long, 2) := by decide +kernel
theorem dX1_init_25 : decode cX1_init 25 = .ok (.putfield 23, 3) := by decide +kernel
theorem dX1_init_28 : decode cX1_init 28 = .ok (.aload_n 0, 1) := by decide +kernel
theorem dX1_init_29 : decode cX1_init 29 = .ok (.iconst 5, 1) := by decide +kernel
theorem dX1_init_30 : decode cX1_init 30 = .ok (.newarray .long, 2) := by decide +kernel
theorem dX1_init_32 : decode cX1_init 32 = .ok (.putfield 27, 3) := by decide +kernel
theorem dX1_init_35 : decode cX1_init 35 = .ok (.return_, 1) := by decide +kernel
theorem dX2_init_0 : decode cX2_init 0 = .ok (.aload_n 0, 1) := by decide +kernel
theorem dX2_init_1 : decode cX2_init 1 = .ok (.invokespecial 3, 3) := by decide +kernel
theorem dX2_init_4 : decode cX2_init 4 = .ok (.aload_n 0, 1) := by decide +kernel
theorem dX2_init_5 : decode cX2_init 5 = .ok (.iconst 0, 1) := by decide +kernel
theorem dX2_init_6 : decode cX2_init 6 = .ok (.putfield 9, 3) := by decide +kernel
theorem dX2_init_9 : decode cX2_init 9 = .ok (.aload_n 0, 1) := by decide +kernel
theorem dX2_init_10 : decode cX2_init 10 = .ok (.iconst 0, 1) := by decide +kernel
theorem dX2_init_11 : decode cX2_init 11 = .ok (.putfield 15, 3) := by decide +kernel
theorem dX2_init_14 : decode cX2_init 14 = .ok (.aload_n 0, 1) := by decide +kernel
theorem dX2_init_15 : decode cX2_init 15 = .ok (.iconst 0, 1) := by decide +kernel
theorem dX2_init_16 : decode cX2_init 16 = .ok (.putfield 18, 3) := by decide +kernel
theorem dX2_init_19 : decode cX2_init 19 = .ok (.aload_n 0, 1) := by decide +kernel
theorem dX2_init_20 : decode cX2_init 20 = .ok (.iconst 0, 1) := by decide +kernel
theorem dX2_init_21 : decode cX2_init 21 = .ok (.putfield 21, 3) := by decide +kernel
theorem dX2_init_24 : decode cX2_init 24 = .ok (.aload_n 0, 1) := by decide +kernel
theorem dX2_init_25 : decode cX2_init 25 = .ok (.iconst 0, 1) := by decide +kernel
theorem dX2_init_26 : decode cX2_init 26 = .ok (.putfield 24, 3) := by decide +kernel
theorem dX2_init_29 : decode cX2_init 29 = .ok (.aload_n 0, 1) := by decide +kernel
theorem dX2_init_30 : decode cX2_init 30 = .ok (.iconst 0, 1) := by decide +kernel
theorem dX2_init_31 : decode cX2_init 31 = .ok (.putfield 27, 3) := by decide +kernel
theorem dX2_init_34 : decode cX2_init 34 = .ok (.aload_n 0, 1) := by decide +kernel
theorem dX2_init_35 : decode cX2_init 35 = .ok (.iconst 0, 1) := by decide +kernel
theorem dX2_init_36 : decode cX2_init 36 = .ok (.putfield 30, 3) := by decide +kernel
theorem dX2_init_39 : decode cX2_init 39 = .ok (.aload_n 0, 1) := by decide +kernel
theorem dX2_init_40 : decode cX2_init 40 = .ok (.iconst 0, 1) := by decide +kernel
theorem dX2_init_41 : decode cX2_init 41 = .ok (.putfield 33, 3) := by decide +kernel
theorem dX2_init_44 : decode cX2_init 44 = .ok (.aload_n 0, 1) := by decide +kernel
theorem dX2_init_45 : decode cX2_init 45 = .ok (.iconst 0, 1) := by decide +kernel
theorem dX2_init_46 : decode cX2_init 46 = .ok (.putfield 36, 3) := by decide +kernel
theorem dX2_init_49 : decode cX2_init 49 = .ok (.aload_n 0, 1) := by decide +kernel
theorem dX2_init_50 : decode cX2_init 50 = .ok (.iconst 5, 1) := by decide +kernel
theorem dX2_init_51 : decode cX2_init 51 = .ok (.newarray .int, 2) := by decide +kernel
theorem dX2_init_53 : decode cX2_init 53 = .ok (.putfield 39, 3) := by decide +kernel
theorem dX2_init_56 : decode cX2_init 56 = .ok (.aload_n 0, 1) := by decide +kernel
theorem dX2_init_57 : decode cX2_init 57 = .ok (.iconst 5, 1) := by decide +kernel
theorem dX2_init_58 : decode cX2_init 58 = .ok (.newarray .int, 2) := by decide +kernel
theorem dX2_init_60 : decode cX2_init 60 = .ok (.putfield 43, 3) := by decide +kernel
theorem dX2_init_63 : decode cX2_init 63 = .ok (.aload_n 0, 1) := by decide +kernel
theorem dX2_init_64 : decode cX2_init 64 = .ok (.iconst 5, 1) := by decide +kernel
theorem dX2_init_65 : decode cX2_init 65 = .ok (.newarray .int, 2) := by decide +kernel
theorem dX2_init_67 : decode cX2_init 67 = .ok (.putfield 46, 3) := by decide +kernel
theorem dX2_init_70 : decode cX2_init 70 = .ok (.aload_n 0, 1) := by decide +kernel
theorem dX2_init_71 : decode cX2_init 71 = .ok (.bipush 30, 2) := by decide +kernel
theorem dX2_init_73 : decode cX2_init 73 = .ok (.newarray .int, 2) := by decide +kernel
theorem dX2_init_75 : decode cX2_init 75 = .ok (.putfield 49, 3) := by decide +kernel
theorem dX2_init_78 : decode cX2_init 78 = .ok (.aload_n 0, 1) := by decide +kernel
theorem dX2_init_79 : decode cX2_init 79 = .ok (.bipush 30, 2) := by decide +kernel
theorem dX2_init_81 : decode cX2_init 81 = .ok (.newarray .int, 2) := by decide +kernel
theorem dX2_init_83 : decode cX2_init 83 = .ok (.putfield 52, 3) := by decide +kernel
theorem dX2_init_86 : decode cX2_init 86 = .ok (.aload_n 0, 1) := by decide +kernel
theorem dX2_init_87 : decode cX2_init 87 = .ok (.bipush 30, 2) := by decide +kernel
theorem dX2_init_89 : decode cX2_init 89 = .ok (.newarray .int, 2) := by decide +kernel
theorem dX2_init_91 : decode cX2_init 91 = .ok (.putfield 55, 3) := by decide +kernel
theorem dX2_init_94 : decode cX2_init 94 = .ok (.aload_n 0, 1) := by decide +kernel
theorem dX2_init_95 : decode cX2_init 95 = .ok (.iconst 5, 1) := by decide +kernel
theorem dX2_init_96 : decode cX2_init 96 = .ok (.newarray .int, 2) := by decide +kernel
theorem dX2_init_98 : decode cX2_init 98 = .ok (.putfield 58, 3) := by decide +kernel
theorem dX2_init_101 : decode cX2_init 101 = .ok (.aload_n 0, 1) := by decide +kernel
theorem dX2_init_102 : decode cX2_init 102 = .ok (.iconst 5, 1) := by decide +kernel
theorem dX2_init_103 : decode cX2_init 103 = .ok (.newarray .int, 2) := by decide +kernel
theorem dX2_init_105 : decode cX2_init 105 = .ok (.putfield 61, 3) := by decide +kernel
theorem dX2_init_108 : decode cX2_init 108 = .ok (.return_, 1) := by decide +kernel
theorem dX2_keepActs_0 : decode cX2_keepActs 0 = .ok (.aload_n 0, 1) := by decide +kernel
theorem dX2_keepActs_1 : decode cX2_keepActs 1 = .ok (.iload_n 1, 1) := by decide +kernel
theorem dX2_keepActs_2 : decode cX2_keepActs 2 = .ok (.bipush 30, 2) := by decide +kernel
theorem dX2_keepActs_4 : decode cX2_keepActs 4 = .ok (.invokestatic 74, 3) := by decide +kernel
theorem dX2_keepActs_7 : decode cX2_keepActs 7 = .ok (.putfield 36, 3) := by decide +kernel
theorem dX2_keepActs_10 : decode cX2_keepActs 10 = .ok (.aload_n 0, 1) := by decide +kernel
theorem dX2_keepActs_11 : decode cX2_keepActs 11 = .ok (.getfield 58, 3) := by decide +kernel
theorem dX2_keepActs_14 : decode cX2_keepActs 14 = .ok (.iconst 0, 1) := by decide +kernel
theorem dX2_keepActs_15 : decode cX2_keepActs 15 = .ok (.invokestatic 80, 3) := by decide +kernel
theorem dX2_keepActs_18 : decode cX2_keepActs 18 = .ok (.aload_n 0, 1) := by decide +kernel
theorem dX2_keepActs_19 : decode cX2_keepActs 19 = .ok (.getfield 61, 3) := by decide +kernel
theorem dX2_keepActs_22 : decode cX2_keepActs 22 = .ok (.iconst 0, 1) := by decide +kernel
theorem dX2_keepActs_23 : decode cX2_keepActs 23 = .ok (.invokestatic 80, 3) := by decide +kernel
theorem dX2_keepActs_26 : decode cX2_keepActs 26 = .ok (.iconst 0, 1) := by decide +kernel
theorem dX2_keepActs_27 : decode cX2_keepActs 27 = .ok (.istore_n 2, 1) := by decide +kernel
theorem dX2_keepActs_28 : decode cX2_keepActs 28 = .ok (.iload_n 2, 1) := by decide +kernel
theorem dX2_keepActs_29 : decode cX2_keepActs 29 = .ok (.aload_n 0, 1) := by decide +kernel
theorem dX2_keepActs_30 : decode cX2_keepActs 30 = .ok (.getfield 36, 3) := by decide +kernel
theorem dX2_keepActs_33 : decode cX2_keepActs 33 = .ok (.if_icmp .ge 49, 3) := by decide +kernel
theorem dX2_keepActs_82 : decode cX2_keepActs 82 = .ok (.return_, 1) := by decide +kernel
theorem dX2_take_0 : decode cX2_take 0 = .ok (.aload_n 0, 1) := by decide +kernel
theorem dX2_take_1 : decode cX2_take 1 = .ok (.aload_n 1, 1) := by decide +kernel
theorem dX2_take_2 : decode cX2_take 2 = .ok (.getfield 9, 3) := by decide +kernel
theorem dX2_take_5 : decode cX2_take 5 = .ok (.putfield 9, 3) := by decide +kernel
theorem dX2_take_8 : decode cX2_take 8 = .ok (.aload_n 0, 1) := by decide +kernel
theorem dX2_take_9 : decode cX2_take 9 = .ok (.aload_n 1, 1) := by decide +kernel
theorem dX2_take_10 : decode cX2_take 10 = .ok (.getfield 15, 3) := by decide +kernel
theorem dX2_take_13 : decode cX2_take 13 = .ok (.putfield 15, 3) := by decide +kernel
theorem dX2_take_16 : decode cX2_take 16 = .ok (.aload_n 0, 1) := by decide +kernel
theorem dX2_take_17 : decode cX2_take 17 = .ok (.aload_n 1, 1) := by decide +kernel
theorem dX2_take_18 : decode cX2_take 18 = .ok (.getfield 18, 3) := by decide +kernel
theorem dX2_take_21 : decode cX2_take 21 = .ok (.putfield 18, 3) := by decide +kernel
theorem dX2_take_24 : decode cX2_take 24 = .ok (.aload_n 0, 1) := by decide +kernel
theorem dX2_take_25 : decode cX2_take 25 = .ok (.aload_n 1, 1) := by decide +kernel
theorem dX2_take_26 : decode cX2_take 26 = .ok (.getfield 21, 3) := by decide +kernel
theorem dX2_take_29 : decode cX2_take 29 = .ok (.putfield 21, 3) := by decide +kernel
theorem dX2_take_32 : decode cX2_take 32 = .ok (.aload_n 0, 1) := by decide +kernel
theorem dX2_take_33 : decode cX2_take 33 = .ok (.aload_n 1, 1) := by decide +kernel
theorem dX2_take_34 : decode cX2_take 34 = .ok (.getfield 24, 3) := by decide +kernel
theorem dX2_take_37 : decode cX2_take 37 = .ok (.putfield 24, 3) := by decide +kernel
theorem dX2_take_40 : decode cX2_take 40 = .ok (.aload_n 0, 1) := by decide +kernel
theorem dX2_take_41 : decode cX2_take 41 = .ok (.aload_n 1, 1) := by decide +kernel
theorem dX2_take_42 : decode cX2_take 42 = .ok (.getfield 27, 3) := by decide +kernel
theorem dX2_take_45 : decode cX2_take 45 = .ok (.putfield 27, 3) := by decide +kernel
theorem dX2_take_48 : decode cX2_take 48 = .ok (.aload_n 0, 1) := by decide +kernel
theorem dX2_take_49 : decode cX2_take 49 = .ok (.aload_n 1, 1) := by decide +kernel
theorem dX2_take_50 : decode cX2_take 50 = .ok (.getfield 30, 3) := by decide +kernel
theorem dX2_take_53 : decode cX2_take 53 = .ok (.putfield 30, 3) := by decide +kernel
theorem dX2_take_56 : decode cX2_take 56 = .ok (.aload_n 0, 1) := by decide +kernel
theorem dX2_take_57 : decode cX2_take 57 = .ok (.aload_n 1, 1) := by decide +kernel
theorem dX2_take_58 : decode cX2_take 58 = .ok (.getfield 33, 3) := by decide +kernel
theorem dX2_take_61 : decode cX2_take 61 = .ok (.putfield 33, 3) := by decide +kernel
theorem dX2_take_64 : decode cX2_take 64 = .ok (.aload_n 1, 1) := by decide +kernel
theorem dX2_take_65 : decode cX2_take 65 = .ok (.getfield 39, 3) := by decide +kernel
theorem dX2_take_68 : decode cX2_take 68 = .ok (.iconst 0, 1) := by decide +kernel
theorem dX2_take_69 : decode cX2_take 69 = .ok (.aload_n 0, 1) := by decide +kernel
theorem dX2_take_70 : decode cX2_take 70 = .ok (.getfield 39, 3) := by decide +kernel
theorem dX2_take_73 : decode cX2_take 73 = .ok (.iconst 0, 1) := by decide +kernel
theorem dX2_take_74 : decode cX2_take 74 = .ok (.iconst 5, 1) := by decide +kernel
theorem dX2_take_75 : decode cX2_take 75 = .ok (.invokestatic 68, 3) := by decide +kernel
theorem dX2_take_78 : decode cX2_take 78 = .ok (.aload_n 1, 1) := by decide +kernel
theorem dX2_take_79 : decode cX2_take 79 = .ok (.getfield 43, 3) := by decide +kernel
theorem dX2_take_82 : decode cX2_take 82 = .ok (.iconst 0, 1) := by decide +kernel
theorem dX2_take_83 : decode cX2_take 83 = .ok (.aload_n 0, 1) := by decide +kernel
theorem dX2_take_84 : decode cX2_take 84 = .ok (.getfield 43, 3) := by decide +kernel
theorem dX2_take_87 : decode cX2_take 87 = .ok (.iconst 0, 1) := by decide +kernel
theorem dX2_take_88 : decode cX2_take 88 = .ok (.iconst 5, 1) := by decide +kernel
theorem dX2_take_89 : decode cX2_take 89 = .ok (.invokestatic 68, 3) := by decide +kernel
theorem dX2_take_92 : decode cX2_take 92 = .ok (.aload_n 1, 1) := by decide +kernel
theorem dX2_take_93 : decode cX2_take 93 = .ok (.getfield 46, 3) := by decide +kernel
theorem dX2_take_96 : decode cX2_take 96 = .ok (.iconst 0, 1) := by decide +kernel
theorem dX2_take_97 : decode cX2_take 97 = .ok (.aload_n 0, 1) := by decide +kernel
theorem dX2_take_98 : decode cX2_take 98 = .ok (.getfield 46, 3) := by decide +kernel
theorem dX2_take_101 : decode cX2_take 101 = .ok (.iconst 0, 1) := by decide +kernel
theorem dX2_take_102 : decode cX2_take 102 = .ok (.iconst 5, 1) := by decide +kernel
theorem dX2_take_103 : decode cX2_take 103 = .ok (.invokestatic 68, 3) := by decide +kernel
theorem dX2_take_106 : decode cX2_take 106 = .ok (.aload_n 1, 1) := by decide +kernel
theorem dX2_take_107 : decode cX2_take 107 = .ok (.getfield 49, 3) := by decide +kernel
theorem dX2_take_110 : decode cX2_take 110 = .ok (.iconst 0, 1) := by decide +kernel
theorem dX2_take_111 : decode cX2_take 111 = .ok (.aload_n 0, 1) := by decide +kernel
theorem dX2_take_112 : decode cX2_take 112 = .ok (.getfield 49, 3) := by decide +kernel
theorem dX2_take_115 : decode cX2_take 115 = .ok (.iconst 0, 1) := by decide +kernel
theorem dX2_take_116 : decode cX2_take 116 = .ok (.bipush 30, 2) := by decide +kernel
theorem dX2_take_118 : decode cX2_take 118 = .ok (.invokestatic 68, 3) := by decide +kernel
theorem dX2_take_121 : decode cX2_take 121 = .ok (.aload_n 1, 1) := by decide +kernel
theorem dX2_take_122 : decode cX2_take 122 = .ok (.getfield 52, 3) := by decide +kernel
theorem dX2_take_125 : decode cX2_take 125 = .ok (.iconst 0, 1) := by decide +kernel
theorem dX2_take_126 : decode cX2_take 126 = .ok (.aload_n 0, 1) := by decide +kernel
theorem dX2_take_127 : decode cX2_take 127 = .ok (.getfield 52, 3) := by decide +kernel
theorem dX2_take_130 : decode cX2_take 130 = .ok (.iconst 0, 1) := by decide +kernel
theorem dX2_take_131 : decode cX2_take 131 = .ok (.bipush 30, 2) := by decide +kernel
theorem dX2_take_133 : decode cX2_take 133 = .ok (.invokestatic 68, 3) := by decide +kernel
theorem dX2_take_136 : decode cX2_take 136 = .ok (.aload_n 1, 1) := by decide +kernel
theorem dX2_take_137 : decode cX2_take 137 = .ok (.getfield 55, 3) := by decide +kernel
theorem dX2_take_140 : decode cX2_take 140 = .ok (.iconst 0, 1) := by decide +kernel
theorem dX2_take_141 : decode cX2_take 141 = .ok (.aload_n 0, 1) := by decide +kernel
theorem dX2_take_142 : decode cX2_take 142 = .ok (.getfield 55, 3) := by decide +kernel
theorem dX2_take_145 : decode cX2_take 145 = .ok (.iconst 0, 1) := by decide +kernel
theorem dX2_take_146 : decode cX2_take 146 = .ok (.bipush 30, 2) := by decide +kernel
theorem dX2_take_148 : decode cX2_take 148 = .ok (.invokestatic 68, 3) := by decide +kernel
theorem dX2_take_151 : decode cX2_take 151 = .ok (.aload_n 0, 1) := by decide +kernel
theorem dX2_take_152 : decode cX2_take 152 = .ok (.aload_n 1, 1) := by decide +kernel
theorem dX2_take_153 : decode cX2_take 153 = .ok (.getfield 36, 3) := by decide +kernel
theorem dX2_take_156 : decode cX2_take 156 = .ok (.invokevirtual 64, 3) := by decide +kernel
theorem dX2_take_159 : decode cX2_take 159 = .ok (.return_, 1) := by decide +kernel
theorem dX2_wipe_0 : decode cX2_wipe 0 = .ok (.aload_n 0, 1) := by decide +kernel
theorem dX2_wipe_1 : decode cX2_wipe 1 = .ok (.iconst 0, 1) := by decide +kernel
theorem dX2_wipe_2 : decode cX2_wipe 2 = .ok (.putfield 9, 3) := by decide +kernel
theorem dX2_wipe_5 : decode cX2_wipe 5 = .ok (.aload_n 0, 1) := by decide +kernel
theorem dX2_wipe_6 : decode cX2_wipe 6 = .ok (.iconst 0, 1) := by decide +kernel
theorem dX2_wipe_7 : decode cX2_wipe 7 = .ok (.putfield 15, 3) := by decide +kernel
theorem dX2_wipe_10 : decode cX2_wipe 10 = .ok (.aload_n 0, 1) := by decide +kernel
theorem dX2_wipe_11 : decode cX2_wipe 11 = .ok (.iconst 0, 1) := by decide +kernel
theorem dX2_wipe_12 : decode cX2_wipe 12 = .ok (.putfield 18, 3) := by decide +kernel
theorem dX2_wipe_15 : decode cX2_wipe 15 = .ok (.aload_n 0, 1) := by decide +kernel
theorem dX2_wipe_16 : decode cX2_wipe 16 = .ok (.iconst 0, 1) := by decide +kernel
theorem dX2_wipe_17 : decode cX2_wipe 17 = .ok (.putfield 21, 3) := by decide +kernel
theorem dX2_wipe_20 : decode cX2_wipe 20 = .ok (.aload_n 0, 1) := by decide +kernel
theorem dX2_wipe_21 : decode cX2_wipe 21 = .ok (.iconst 0, 1) := by decide +kernel
theorem dX2_wipe_22 : decode cX2_wipe 22 = .ok (.putfield 24, 3) := by decide +kernel
theorem dX2_wipe_25 : decode cX2_wipe 25 = .ok (.aload_n 0, 1) := by decide +kernel
theorem dX2_wipe_26 : decode cX2_wipe 26 = .ok (.iconst 0, 1) := by decide +kernel
theorem dX2_wipe_27 : decode cX2_wipe 27 = .ok (.putfield 27, 3) := by decide +kernel
theorem dX2_wipe_30 : decode cX2_wipe 30 = .ok (.aload_n 0, 1) := by decide +kernel
theorem dX2_wipe_31 : decode cX2_wipe 31 = .ok (.iconst 0, 1) := by decide +kernel
theorem dX2_wipe_32 : decode cX2_wipe 32 = .ok (.putfield 30, 3) := by decide +kernel
theorem dX2_wipe_35 : decode cX2_wipe 35 = .ok (.aload_n 0, 1) := by decide +kernel
theorem dX2_wipe_36 : decode cX2_wipe 36 = .ok (.iconst 0, 1) := by decide +kernel
theorem dX2_wipe_37 : decode cX2_wipe 37 = .ok (.putfield 33, 3) := by decide +kernel
theorem dX2_wipe_40 : decode cX2_wipe 40 = .ok (.aload_n 0, 1) := by decide +kernel
theorem dX2_wipe_41 : decode cX2_wipe 41 = .ok (.iconst 0, 1) := by decide +kernel
theorem dX2_wipe_42 : decode cX2_wipe 42 = .ok (.invokevirtual 64, 3) := by decide +kernel
theorem dX2_wipe_45 : decode cX2_wipe 45 = .ok (.return_, 1) := by decide +kernel
theorem dX3_has_0 : decode cX3_has 0 = .ok (.aload_n 0, 1) := by decide +kernel
theorem dX3_has_1 : decode cX3_has 1 = .ok (.getfield 19, 3) := by decide +kernel
theorem dX3_has_4 : decode cX3_has 4 = .ok (.iload_n 1, 1) := by decide +kernel
theorem dX3_has_5 : decode cX3_has 5 = .ok (.iaload, 1) := by decide +kernel
theorem dX3_has_6 : decode cX3_has 6 = .ok (.iconst (-1), 1) := by decide +kernel
theorem dX3_has_7 : decode cX3_has 7 = .ok (.if_icmp .eq 7, 3) := by decide +kernel
theorem dX3_has_14 : decode cX3_has 14 = .ok (.iconst 0, 1) := by decide +kernel
theorem dX3_has_15 : decode cX3_has 15 = .ok (.ireturn, 1) := by decide +kernel
theorem dX3_init_0 : decode cX3_init 0 = .ok (.aload_n 0, 1) := by decide +kernel
theorem dX3_init_1 : decode cX3_init 1 = .ok (.invokespecial 3, 3) := by decide +kernel
theorem dX3_init_4 : decode cX3_init 4 = .ok (.aload_n 0, 1) := by decide +kernel
theorem dX3_init_5 : decode cX3_init 5 = .ok (.sipush 240, 3) := by decide +kernel
theorem dX3_init_8 : decode cX3_init 8 = .ok (.newarray .long, 2) := by decide +kernel
theorem dX3_init_10 : decode cX3_init 10 = .ok (.putfield 9, 3) := by decide +kernel
theorem dX3_init_13 : decode cX3_init 13 = .ok (.aload_n 0, 1) := by decide +kernel
theorem dX3_init_14 : decode cX3_init 14 = .ok (.iconst 4, 1) := by decide +kernel
theorem dX3_init_15 : decode cX3_init 15 = .ok (.newarray .int, 2) := by decide +kernel
theorem dX3_init_17 : decode cX3_init 17 = .ok (.putfield 15, 3) := by decide +kernel
theorem dX3_init_20 : decode cX3_init 20 = .ok (.aload_n 0, 1) := by decide +kernel
theorem dX3_init_21 : decode cX3_init 21 = .ok (.iconst 4, 1) := by decide +kernel
theorem dX3_init_22 : decode cX3_init 22 = .ok (.newarray .int, 2) := by decide +kernel
theorem dX3_init_24 : decode cX3_init 24 = .ok (.dup, 1) := by decide +kernel
theorem dX3_init_25 : decode cX3_init 25 = .ok (.iconst 0, 1) := by decide +kernel
theorem dX3_init_26 : decode cX3_init 26 = .ok (.iconst (-1), 1) := by decide +kernel
theorem dX3_init_27 : decode cX3_init 27 = .ok (.iastore, 1) := by decide +kernel
theorem dX3_init_28 : decode cX3_init 28 = .ok (.dup, 1) := by decide +kernel
theorem dX3_init_29 : decode cX3_init 29 = .ok (.iconst 1, 1) := by decide +kernel
theorem dX3_init_30 : decode cX3_init 30 = .ok (.iconst (-1), 1) := by decide +kernel
theorem dX3_init_31 : decode cX3_init 31 = .ok (.iastore, 1) := by decide +kernel
theorem dX3_init_32 : decode cX3_init 32 = .ok (.dup, 1) := by decide +kernel
theorem dX3_init_33 : decode cX3_init 33 = .ok (.iconst 2, 1) := by decide +kernel
theorem dX3_init_34 : decode cX3_init 34 = .ok (.iconst (-1), 1) := by decide +kernel
theorem dX3_init_35 : decode cX3_init 35 = .ok (.iastore, 1) := by decide +kernel
theorem dX3_init_36 : decode cX3_init 36 = .ok (.dup, 1) := by decide +kernel
theorem dX3_init_37 : decode cX3_init 37 = .ok (.iconst 3, 1) := by decide +kernel
theorem dX3_init_38 : decode cX3_init 38 = .ok (.iconst (-1), 1) := by decide +kernel
theorem dX3_init_39 : decode cX3_init 39 = .ok (.iastore, 1) := by decide +kernel
theorem dX3_init_40 : decode cX3_init 40 = .ok (.putfield 19, 3) := by decide +kernel
theorem dX3_init_43 : decode cX3_init 43 = .ok (.return_, 1) := by decide +kernel
theorem dX3_lay_0 : decode cX3_lay 0 = .ok (.aload_n 0, 1) := by decide +kernel
theorem dX3_lay_1 : decode cX3_lay 1 = .ok (.getfield 15, 3) := by decide +kernel
theorem dX3_lay_4 : decode cX3_lay 4 = .ok (.iload_n 1, 1) := by decide +kernel
theorem dX3_lay_5 : decode cX3_lay 5 = .ok (.iload_n 2, 1) := by decide +kernel
theorem dX3_lay_6 : decode cX3_lay 6 = .ok (.iastore, 1) := by decide +kernel
theorem dX3_lay_7 : decode cX3_lay 7 = .ok (.aload_n 0, 1) := by decide +kernel
theorem dX3_lay_8 : decode cX3_lay 8 = .ok (.getfield 19, 3) := by decide +kernel
theorem dX3_lay_11 : decode cX3_lay 11 = .ok (.iload_n 1, 1) := by decide +kernel
theorem dX3_lay_12 : decode cX3_lay 12 = .ok (.iload_n 3, 1) := by decide +kernel
theorem dX3_lay_13 : decode cX3_lay 13 = .ok (.iastore, 1) := by decide +kernel
theorem dX3_lay_14 : decode cX3_lay 14 = .ok (.aload_n 0, 1) := by decide +kernel
theorem dX3_lay_15 : decode cX3_lay 15 = .ok (.getfield 9, 3) := by decide +kernel
theorem dX3_lay_18 : decode cX3_lay 18 = .ok (.iload_n 1, 1) := by decide +kernel
theorem dX3_lay_19 : decode cX3_lay 19 = .ok (.bipush 60, 2) := by decide +kernel
theorem dX3_lay_21 : decode cX3_lay 21 = .ok (.imul, 1) := by decide +kernel
theorem dX3_lay_22 : decode cX3_lay 22 = .ok (.iload_n 1, 1) := by decide +kernel
theorem dX3_lay_23 : decode cX3_lay 23 = .ok (.iconst 1, 1) := by decide +kernel
theorem dX3_lay_24 : decode cX3_lay 24 = .ok (.iadd, 1) := by decide +kernel
theorem dX3_lay_25 : decode cX3_lay 25 = .ok (.bipush 60, 2) := by decide +kernel
theorem dX3_lay_27 : decode cX3_lay 27 = .ok (.imul, 1) := by decide +kernel
theorem dX3_lay_28 : decode cX3_lay 28 = .ok (.lconst 0, 1) := by decide +kernel
theorem dX3_lay_29 : decode cX3_lay 29 = .ok (.invokestatic 26, 3) := by decide +kernel
theorem dX3_lay_32 : decode cX3_lay 32 = .ok (.return_, 1) := by decide +kernel
theorem dX3_used_0 : decode cX3_used 0 = .ok (.iconst 0, 1) := by decide +kernel
theorem dX3_used_1 : decode cX3_used 1 = .ok (.istore_n 1, 1) := by decide +kernel
theorem dX3_used_2 : decode cX3_used 2 = .ok (.iconst 0, 1) := by decide +kernel
theorem dX3_used_3 : decode cX3_used 3 = .ok (.istore_n 2, 1) := by decide +kernel
theorem dX3_used_4 : decode cX3_used 4 = .ok (.iload_n 2, 1) := by decide +kernel
theorem dX3_used_5 : decode cX3_used 5 = .ok (.iconst 4, 1) := by decide +kernel
theorem dX3_used_6 : decode cX3_used 6 = .ok (.if_icmp .ge 20, 3) := by decide +kernel
theorem dX3_used_9 : decode cX3_used 9 = .ok (.aload_n 0, 1) := by decide +kernel
theorem dX3_used_10 : decode cX3_used 10 = .ok (.iload_n 2, 1) := by decide +kernel
theorem dX3_used_11 : decode cX3_used 11 = .ok (.invokevirtual 22, 3) := by decide +kernel
theorem dX3_used_14 : decode cX3_used 14 = .ok (.ifCond .eq 6, 3) := by decide +kernel
theorem dX3_used_20 : decode cX3_used 20 = .ok (.iinc 2 1, 3) := by decide +kernel
theorem dX3_used_23 : decode cX3_used 23 = .ok (.goto (-19), 3) := by decide +kernel
theorem dX3_used_26 : decode cX3_used 26 = .ok (.iload_n 1, 1) := by decide +kernel
theorem dX3_used_27 : decode cX3_used 27 = .ok (.ireturn, 1) := by decide +kernel
theorem dX4_init_0 : decode cX4_init 0 = .ok (.aload_n 0, 1) := by decide +kernel
theorem dX4_init_1 : decode cX4_init 1 = .ok (.invokespecial 3, 3) := by decide +kernel
theorem dX4_init_4 : decode cX4_init 4 = .ok (.aload_n 0, 1) := by decide +kernel
theorem dX4_init_5 : decode cX4_init 5 = .ok (.iconst 0, 1) := by decide +kernel
theorem dX4_init_6 : decode cX4_init 6 = .ok (.putfield 9, 3) := by decide +kernel
theorem dX4_init_9 : decode cX4_init 9 = .ok (.aload_n 0, 1) := by decide +kernel
theorem dX4_init_10 : decode cX4_init 10 = .ok (.iconst 0, 1) := by decide +kernel
theorem dX4_init_11 : decode cX4_init 11 = .ok (.putfield 15, 3) := by decide +kernel
theorem dX4_init_14 : decode cX4_init 14 = .ok (.aload_n 0, 1) := by decide +kernel
theorem dX4_init_15 : decode cX4_init 15 = .ok (.iconst 0, 1) := by decide +kernel
theorem dX4_init_16 : decode cX4_init 16 = .ok (.putfield 18, 3) := by decide +kernel
theorem dX4_init_19 : decode cX4_init 19 = .ok (.aload_n 0, 1) := by decide +kernel
theorem dX4_init_20 : decode cX4_init 20 = .ok (.iconst (-1), 1) := by decide +kernel
theorem dX4_init_21 : decode cX4_init 21 = .ok (.putfield 21, 3) := by decide +kernel
theorem dX4_init_24 : decode cX4_init 24 = .ok (.aload_n 0, 1) := by decide +kernel
theorem dX4_init_25 : decode cX4_init 25 = .ok (.iconst 5, 1) := by decide +kernel
theorem dX4_init_26 : decode cX4_init 26 = .ok (.newarray .int, 2) := by decide +kernel
theorem dX4_init_28 : decode cX4_init 28 = .ok (.putfield 24, 3) := by decide +kernel
theorem dX4_init_31 : decode cX4_init 31 = .ok (.aload_n 0, 1) := by decide +kernel
theorem dX4_init_32 : decode cX4_init 32 = .ok (.iconst 5, 1) := by decide +kernel
theorem dX4_init_33 : decode cX4_init 33 = .ok (.newarray .int, 2) := by decide +kernel
theorem dX4_init_35 : decode cX4_init 35 = .ok (.putfield 28, 3) := by decide +kernel
theorem dX4_init_38 : decode cX4_init 38 = .ok (.return_, 1) := by decide +kernel
theorem dX5_append_0 : decode cX5_append 0 = .ok (.bipush 24, 2) := by decide +kernel
theorem dX5_append_2 : decode cX5_append 2 = .ok (.istore_n 2, 1) := by decide +kernel
theorem dX5_append_3 : decode cX5_append 3 = .ok (.iload_n 2, 1) := by decide +kernel
theorem dX5_append_4 : decode cX5_append 4 = .ok (.ifCond .lt 42, 3) := by decide +kernel
theorem dX5_append_7 : decode cX5_append 7 = .ok (.aload_n 0, 1) := by decide +kernel
theorem dX5_append_8 : decode cX5_append 8 = .ok (.getfield 15, 3) := by decide +kernel
theorem dX5_append_11 : decode cX5_append 11 = .ok (.sipush 500, 3) := by decide +kernel
theorem dX5_append_14 : decode cX5_append 14 = .ok (.if_icmp .ge 32, 3) := by decide +kernel
theorem dX5_append_17 : decode cX5_append 17 = .ok (.aload_n 0, 1) := by decide +kernel
theorem dX5_append_18 : decode cX5_append 18 = .ok (.getfield 9, 3) := by decide +kernel
theorem dX5_append_21 : decode cX5_append 21 = .ok (.aload_n 0, 1) := by decide +kernel
theorem dX5_append_22 : decode cX5_append 22 = .ok (.getfield 15, 3) := by decide +kernel
theorem dX5_append_25 : decode cX5_append 25 = .ok (.iload_n 1, 1) := by decide +kernel
theorem dX5_append_26 : decode cX5_append 26 = .ok (.iload_n 2, 1) := by decide +kernel
theorem dX5_append_27 : decode cX5_append 27 = .ok (.ishr, 1) := by decide +kernel
theorem dX5_append_28 : decode cX5_append 28 = .ok (.i2b, 1) := by decide +kernel
theorem dX5_append_29 : decode cX5_append 29 = .ok (.bastore, 1) := by decide +kernel
theorem dX5_append_30 : decode cX5_append 30 = .ok (.aload_n 0, 1) := by decide +kernel
theorem dX5_append_31 : decode cX5_append 31 = .ok (.dup, 1) := by decide +kernel
theorem dX5_append_32 : decode cX5_append 32 = .ok (.getfield 15, 3) := by decide +kernel
theorem dX5_append_35 : decode cX5_append 35 = .ok (.iconst 1, 1) := by decide +kernel
theorem dX5_append_36 : decode cX5_append 36 = .ok (.iadd, 1) := by decide +kernel
