theorem dX2_firstSnap_14 : decode cX2_firstSnap 14 = .ok (.getfield 61, 3) := by decide +kernel
theorem dX2_firstSnap_17 : decode cX2_firstSnap 17 = .ok (.iload_n 1, 1) := by decide +kernel
theorem dX2_firstSnap_18 : decode cX2_firstSnap 18 = .ok (.iaload, 1) := by decide +kernel
theorem dX2_firstSnap_19 : decode cX2_firstSnap 19 = .ok (.invokestatic 92, 3) := by decide +kernel
theorem dX2_firstSnap_22 : decode cX2_firstSnap 22 = .ok (.ireturn, 1) := by decide +kernel
theorem dX2_isBroken_0 : decode cX2_isBroken 0 = .ok (.aload_n 0, 1) := by decide +kernel
theorem dX2_isBroken_1 : decode cX2_isBroken 1 = .ok (.getfield 61, 3) := by decide +kernel
theorem dX2_isBroken_4 : decode cX2_isBroken 4 = .ok (.iload_n 1, 1) := by decide +kernel
theorem dX2_isBroken_5 : decode cX2_isBroken 5 = .ok (.iaload, 1) := by decide +kernel
theorem dX2_isBroken_6 : decode cX2_isBroken 6 = .ok (.iconst 2, 1) := by decide +kernel
theorem dX2_isBroken_7 : decode cX2_isBroken 7 = .ok (.iload_n 2, 1) := by decide +kernel
theorem dX2_isBroken_8 : decode cX2_isBroken 8 = .ok (.ishl, 1) := by decide +kernel
theorem dX2_isBroken_9 : decode cX2_isBroken 9 = .ok (.iconst 1, 1) := by decide +kernel
theorem dX2_isBroken_10 : decode cX2_isBroken 10 = .ok (.isub, 1) := by decide +kernel
theorem dX2_isBroken_11 : decode cX2_isBroken 11 = .ok (.iand, 1) := by decide +kernel
theorem dX2_isBroken_12 : decode cX2_isBroken 12 = .ok (.ifCond .eq 7, 3) := by decide +kernel
theorem dX2_isBroken_15 : decode cX2_isBroken 15 = .ok (.iconst 1, 1) := by decide +kernel
theorem dX2_isBroken_16 : decode cX2_isBroken 16 = .ok (.goto 4, 3) := by decide +kernel
theorem dX2_isBroken_19 : decode cX2_isBroken 19 = .ok (.iconst 0, 1) := by decide +kernel
theorem dX2_isBroken_20 : decode cX2_isBroken 20 = .ok (.ireturn, 1) := by decide +kernel
theorem dX2_latestCup_0 : decode cX2_latestCup 0 = .ok (.aload_n 0, 1) := by decide +kernel
theorem dX2_latestCup_1 : decode cX2_latestCup 1 = .ok (.getfield 58, 3) := by decide +kernel
theorem dX2_latestCup_4 : decode cX2_latestCup 4 = .ok (.iload_n 1, 1) := by decide +kernel
theorem dX2_latestCup_5 : decode cX2_latestCup 5 = .ok (.iaload, 1) := by decide +kernel
theorem dX2_latestCup_6 : decode cX2_latestCup 6 = .ok (.iconst 2, 1) := by decide +kernel
theorem dX2_latestCup_7 : decode cX2_latestCup 7 = .ok (.iload_n 2, 1) := by decide +kernel
theorem dX2_latestCup_8 : decode cX2_latestCup 8 = .ok (.ishl, 1) := by decide +kernel
theorem dX2_latestCup_9 : decode cX2_latestCup 9 = .ok (.iconst 1, 1) := by decide +kernel
theorem dX2_latestCup_10 : decode cX2_latestCup 10 = .ok (.isub, 1) := by decide +kernel
theorem dX2_latestCup_11 : decode cX2_latestCup 11 = .ok (.iand, 1) := by decide +kernel
theorem dX2_latestCup_12 : decode cX2_latestCup 12 = .ok (.istore_n 3, 1) := by decide +kernel
theorem dX2_latestCup_13 : decode cX2_latestCup 13 = .ok (.iload_n 3, 1) := by decide +kernel
theorem dX2_latestCup_14 : decode cX2_latestCup 14 = .ok (.ifCond .ne 7, 3) := by decide +kernel
theorem dX2_latestCup_17 : decode cX2_latestCup 17 = .ok (.iconst (-1), 1) := by decide +kernel
theorem dX2_latestCup_18 : decode cX2_latestCup 18 = .ok (.goto 10, 3) := by decide +kernel
theorem dX2_latestCup_21 : decode cX2_latestCup 21 = .ok (.bipush 31, 2) := by decide +kernel
theorem dX2_latestCup_23 : decode cX2_latestCup 23 = .ok (.iload_n 3, 1) := by decide +kernel
theorem dX2_latestCup_24 : decode cX2_latestCup 24 = .ok (.invokestatic 86, 3) := by decide +kernel
theorem dX2_latestCup_27 : decode cX2_latestCup 27 = .ok (.isub, 1) := by decide +kernel
theorem dX2_latestCup_28 : decode cX2_latestCup 28 = .ok (.ireturn, 1) := by decide +kernel
theorem dX2_stationBits_0 : decode cX2_stationBits 0 = .ok (.iconst 0, 1) := by decide +kernel
theorem dX2_stationBits_1 : decode cX2_stationBits 1 = .ok (.istore_n 1, 1) := by decide +kernel
theorem dX2_stationBits_2 : decode cX2_stationBits 2 = .ok (.iconst 0, 1) := by decide +kernel
theorem dX2_stationBits_3 : decode cX2_stationBits 3 = .ok (.istore_n 2, 1) := by decide +kernel
theorem dX2_stationBits_4 : decode cX2_stationBits 4 = .ok (.iload_n 2, 1) := by decide +kernel
theorem dX2_stationBits_5 : decode cX2_stationBits 5 = .ok (.aload_n 0, 1) := by decide +kernel
theorem dX2_stationBits_6 : decode cX2_stationBits 6 = .ok (.getfield 27, 3) := by decide +kernel
theorem dX2_stationBits_9 : decode cX2_stationBits 9 = .ok (.if_icmp .ge 25, 3) := by decide +kernel
theorem dX2_stationBits_12 : decode cX2_stationBits 12 = .ok (.aload_n 0, 1) := by decide +kernel
theorem dX2_stationBits_13 : decode cX2_stationBits 13 = .ok (.getfield 46, 3) := by decide +kernel
theorem dX2_stationBits_16 : decode cX2_stationBits 16 = .ok (.iload_n 2, 1) := by decide +kernel
theorem dX2_stationBits_17 : decode cX2_stationBits 17 = .ok (.iaload, 1) := by decide +kernel
theorem dX2_stationBits_18 : decode cX2_stationBits 18 = .ok (.iconst (-1), 1) := by decide +kernel
theorem dX2_stationBits_19 : decode cX2_stationBits 19 = .ok (.if_icmp .eq 9, 3) := by decide +kernel
theorem dX2_stationBits_22 : decode cX2_stationBits 22 = .ok (.iload_n 1, 1) := by decide +kernel
theorem dX2_stationBits_23 : decode cX2_stationBits 23 = .ok (.iconst 1, 1) := by decide +kernel
theorem dX2_stationBits_24 : decode cX2_stationBits 24 = .ok (.iload_n 2, 1) := by decide +kernel
theorem dX2_stationBits_25 : decode cX2_stationBits 25 = .ok (.ishl, 1) := by decide +kernel
theorem dX2_stationBits_26 : decode cX2_stationBits 26 = .ok (.ior, 1) := by decide +kernel
theorem dX2_stationBits_27 : decode cX2_stationBits 27 = .ok (.istore_n 1, 1) := by decide +kernel
theorem dX2_stationBits_28 : decode cX2_stationBits 28 = .ok (.iinc 2 1, 3) := by decide +kernel
theorem dX2_stationBits_31 : decode cX2_stationBits 31 = .ok (.goto (-27), 3) := by decide +kernel
theorem dX2_stationBits_34 : decode cX2_stationBits 34 = .ok (.iload_n 1, 1) := by decide +kernel
theorem dX2_stationBits_35 : decode cX2_stationBits 35 = .ok (.ireturn, 1) := by decide +kernel
theorem dX3_at_0 : decode cX3_at 0 = .ok (.aload_n 0, 1) := by decide +kernel
theorem dX3_at_1 : decode cX3_at 1 = .ok (.getfield 9, 3) := by decide +kernel
theorem dX3_at_4 : decode cX3_at 4 = .ok (.iload_n 1, 1) := by decide +kernel
theorem dX3_at_5 : decode cX3_at 5 = .ok (.bipush 60, 2) := by decide +kernel
theorem dX3_at_7 : decode cX3_at 7 = .ok (.imul, 1) := by decide +kernel
theorem dX3_at_8 : decode cX3_at 8 = .ok (.iload_n 2, 1) := by decide +kernel
theorem dX3_at_9 : decode cX3_at 9 = .ok (.iadd, 1) := by decide +kernel
theorem dX3_at_10 : decode cX3_at 10 = .ok (.laload, 1) := by decide +kernel
theorem dX3_at_11 : decode cX3_at 11 = .ok (.lreturn, 1) := by decide +kernel
theorem dX3_cut_0 : decode cX3_cut 0 = .ok (.iload_n 0, 1) := by decide +kernel
theorem dX3_cut_1 : decode cX3_cut 1 = .ok (.tableswitch 41 0 2 #[27, 32, 37], 27) := by decide +kernel
theorem dX3_cut_28 : decode cX3_cut 28 = .ok (.lload_n 1, 1) := by decide +kernel
theorem dX3_cut_29 : decode cX3_cut 29 = .ok (.l2i, 1) := by decide +kernel
theorem dX3_cut_30 : decode cX3_cut 30 = .ok (.i2b, 1) := by decide +kernel
theorem dX3_cut_31 : decode cX3_cut 31 = .ok (.i2l, 1) := by decide +kernel
theorem dX3_cut_32 : decode cX3_cut 32 = .ok (.lreturn, 1) := by decide +kernel
theorem dX3_cut_33 : decode cX3_cut 33 = .ok (.lload_n 1, 1) := by decide +kernel
theorem dX3_cut_34 : decode cX3_cut 34 = .ok (.l2i, 1) := by decide +kernel
theorem dX3_cut_35 : decode cX3_cut 35 = .ok (.i2s, 1) := by decide +kernel
theorem dX3_cut_36 : decode cX3_cut 36 = .ok (.i2l, 1) := by decide +kernel
theorem dX3_cut_37 : decode cX3_cut 37 = .ok (.lreturn, 1) := by decide +kernel
theorem dX3_cut_38 : decode cX3_cut 38 = .ok (.lload_n 1, 1) := by decide +kernel
theorem dX3_cut_39 : decode cX3_cut 39 = .ok (.l2i, 1) := by decide +kernel
theorem dX3_cut_40 : decode cX3_cut 40 = .ok (.i2l, 1) := by decide +kernel
theorem dX3_cut_41 : decode cX3_cut 41 = .ok (.lreturn, 1) := by decide +kernel
theorem dX3_cut_42 : decode cX3_cut 42 = .ok (.lload_n 1, 1) := by decide +kernel
theorem dX3_cut_43 : decode cX3_cut 43 = .ok (.lreturn, 1) := by decide +kernel
theorem dX3_has_0 : decode cX3_has 0 = .ok (.aload_n 0, 1) := by decide +kernel
theorem dX3_has_1 : decode cX3_has 1 = .ok (.getfield 19, 3) := by decide +kernel
theorem dX3_has_4 : decode cX3_has 4 = .ok (.iload_n 1, 1) := by decide +kernel
theorem dX3_has_5 : decode cX3_has 5 = .ok (.iaload, 1) := by decide +kernel
theorem dX3_has_6 : decode cX3_has 6 = .ok (.iconst (-1), 1) := by decide +kernel
theorem dX3_has_7 : decode cX3_has 7 = .ok (.if_icmp .eq 7, 3) := by decide +kernel
theorem dX3_has_10 : decode cX3_has 10 = .ok (.iconst 1, 1) := by decide +kernel
theorem dX3_has_11 : decode cX3_has 11 = .ok (.goto 4, 3) := by decide +kernel
theorem dX3_has_14 : decode cX3_has 14 = .ok (.iconst 0, 1) := by decide +kernel
theorem dX3_has_15 : decode cX3_has 15 = .ok (.ireturn, 1) := by decide +kernel
theorem dX3_put_0 : decode cX3_put 0 = .ok (.aload_n 0, 1) := by decide +kernel
theorem dX3_put_1 : decode cX3_put 1 = .ok (.getfield 9, 3) := by decide +kernel
theorem dX3_put_4 : decode cX3_put 4 = .ok (.iload_n 1, 1) := by decide +kernel
theorem dX3_put_5 : decode cX3_put 5 = .ok (.bipush 60, 2) := by decide +kernel
theorem dX3_put_7 : decode cX3_put 7 = .ok (.imul, 1) := by decide +kernel
theorem dX3_put_8 : decode cX3_put 8 = .ok (.iload_n 2, 1) := by decide +kernel
theorem dX3_put_9 : decode cX3_put 9 = .ok (.iadd, 1) := by decide +kernel
theorem dX3_put_10 : decode cX3_put 10 = .ok (.aload_n 0, 1) := by decide +kernel
theorem dX3_put_11 : decode cX3_put 11 = .ok (.getfield 15, 3) := by decide +kernel
theorem dX3_put_14 : decode cX3_put 14 = .ok (.iload_n 1, 1) := by decide +kernel
theorem dX3_put_15 : decode cX3_put 15 = .ok (.iaload, 1) := by decide +kernel
theorem dX3_put_16 : decode cX3_put 16 = .ok (.lload_n 3, 1) := by decide +kernel
theorem dX3_put_17 : decode cX3_put 17 = .ok (.invokestatic 32, 3) := by decide +kernel
theorem dX3_put_20 : decode cX3_put 20 = .ok (.lastore, 1) := by decide +kernel
theorem dX3_put_21 : decode cX3_put 21 = .ok (.return_, 1) := by decide +kernel
theorem dX3_used_0 : decode cX3_used 0 = .ok (.iconst 0, 1) := by decide +kernel
theorem dX3_used_1 : decode cX3_used 1 = .ok (.istore_n 1, 1) := by decide +kernel
theorem dX3_used_2 : decode cX3_used 2 = .ok (.iconst 0, 1) := by decide +kernel
theorem dX3_used_3 : decode cX3_used 3 = .ok (.istore_n 2, 1) := by decide +kernel
theorem dX3_used_4 : decode cX3_used 4 = .ok (.iload_n 2, 1) := by decide +kernel
theorem dX3_used_5 : decode cX3_used 5 = .ok (.iconst 4, 1) := by decide +kernel
theorem dX3_used_6 : decode cX3_used 6 = .ok (.if_icmp .ge 20, 3) := by decide +kernel
theorem dX3_used_9 : decode cX3_used 9 = .ok (.aload_n 0, 1) := by decide +kernel
theorem dX3_used_10 : decode cX3_used 10 = .ok (.iload_n 2, 1) := by decide +kernel
theorem dX3_used_11 : decode cX3_used 11 = .ok (.invokevirtual 22, 3) := by decide +kernel
theorem dX3_used_14 : decode cX3_used 14 = .ok (.ifCond .eq 6, 3) := by decide +kernel
theorem dX3_used_17 : decode cX3_used 17 = .ok (.iinc 1 1, 3) := by decide +kernel
theorem dX3_used_20 : decode cX3_used 20 = .ok (.iinc 2 1, 3) := by decide +kernel
theorem dX3_used_23 : decode cX3_used 23 = .ok (.goto (-19), 3) := by decide +kernel
theorem dX3_used_26 : decode cX3_used 26 = .ok (.iload_n 1, 1) := by decide +kernel
theorem dX3_used_27 : decode cX3_used 27 = .ok (.ireturn, 1) := by decide +kernel
theorem dX4_asTold_0 : decode cX4_asTold 0 = .ok (.aload_n 0, 1) := by decide +kernel
theorem dX4_asTold_1 : decode cX4_asTold 1 = .ok (.aload_n 1, 1) := by decide +kernel
theorem dX4_asTold_2 : decode cX4_asTold 2 = .ok (.getfield 31, 3) := by decide +kernel
theorem dX4_asTold_5 : decode cX4_asTold 5 = .ok (.putfield 9, 3) := by decide +kernel
theorem dX4_asTold_8 : decode cX4_asTold 8 = .ok (.aload_n 0, 1) := by decide +kernel
theorem dX4_asTold_9 : decode cX4_asTold 9 = .ok (.aload_n 1, 1) := by decide +kernel
theorem dX4_asTold_10 : decode cX4_asTold 10 = .ok (.getfield 34, 3) := by decide +kernel
theorem dX4_asTold_13 : decode cX4_asTold 13 = .ok (.putfield 15, 3) := by decide +kernel
theorem dX4_asTold_16 : decode cX4_asTold 16 = .ok (.aload_n 0, 1) := by decide +kernel
theorem dX4_asTold_17 : decode cX4_asTold 17 = .ok (.iconst 0, 1) := by decide +kernel
theorem dX4_asTold_18 : decode cX4_asTold 18 = .ok (.putfield 18, 3) := by decide +kernel
theorem dX4_asTold_21 : decode cX4_asTold 21 = .ok (.aload_n 0, 1) := by decide +kernel
theorem dX4_asTold_22 : decode cX4_asTold 22 = .ok (.iconst (-1), 1) := by decide +kernel
theorem dX4_asTold_23 : decode cX4_asTold 23 = .ok (.putfield 21, 3) := by decide +kernel
theorem dX4_asTold_26 : decode cX4_asTold 26 = .ok (.aload_n 1, 1) := by decide +kernel
theorem dX4_asTold_27 : decode cX4_asTold 27 = .ok (.getfield 35, 3) := by decide +kernel
theorem dX4_asTold_30 : decode cX4_asTold 30 = .ok (.iconst 0, 1) := by decide +kernel
theorem dX4_asTold_31 : decode cX4_asTold 31 = .ok (.aload_n 0, 1) := by decide +kernel
theorem dX4_asTold_32 : decode cX4_asTold 32 = .ok (.getfield 24, 3) := by decide +kernel
theorem dX4_asTold_35 : decode cX4_asTold 35 = .ok (.iconst 0, 1) := by decide +kernel
theorem dX4_asTold_36 : decode cX4_asTold 36 = .ok (.iconst 5, 1) := by decide +kernel
theorem dX4_asTold_37 : decode cX4_asTold 37 = .ok (.invokestatic 36, 3) := by decide +kernel
theorem dX4_asTold_40 : decode cX4_asTold 40 = .ok (.aload_n 1, 1) := by decide +kernel
theorem dX4_asTold_41 : decode cX4_asTold 41 = .ok (.getfield 42, 3) := by decide +kernel
theorem dX4_asTold_44 : decode cX4_asTold 44 = .ok (.iconst 0, 1) := by decide +kernel
theorem dX4_asTold_45 : decode cX4_asTold 45 = .ok (.aload_n 0, 1) := by decide +kernel
theorem dX4_asTold_46 : decode cX4_asTold 46 = .ok (.getfield 28, 3) := by decide +kernel
theorem dX4_asTold_49 : decode cX4_asTold 49 = .ok (.iconst 0, 1) := by decide +kernel
theorem dX4_asTold_50 : decode cX4_asTold 50 = .ok (.iconst 5, 1) := by decide +kernel
theorem dX4_asTold_51 : decode cX4_asTold 51 = .ok (.invokestatic 36, 3) := by decide +kernel
theorem dX4_asTold_54 : decode cX4_asTold 54 = .ok (.return_, 1) := by decide +kernel
theorem dX4_halved_0 : decode cX4_halved 0 = .ok (.iconst 1, 1) := by decide +kernel
theorem dX4_halved_1 : decode cX4_halved 1 = .ok (.iload_n 0, 1) := by decide +kernel
theorem dX4_halved_2 : decode cX4_halved 2 = .ok (.iconst 2, 1) := by decide +kernel
theorem dX4_halved_3 : decode cX4_halved 3 = .ok (.idiv, 1) := by decide +kernel
theorem dX4_halved_4 : decode cX4_halved 4 = .ok (.invokestatic 59, 3) := by decide +kernel
theorem dX4_halved_7 : decode cX4_halved 7 = .ok (.ireturn, 1) := by decide +kernel
theorem dX4_isWet_0 : decode cX4_isWet 0 = .ok (.iload_n 1, 1) := by decide +kernel
theorem dX4_isWet_1 : decode cX4_isWet 1 = .ok (.ifCond .lt 18, 3) := by decide +kernel
theorem dX4_isWet_4 : decode cX4_isWet 4 = .ok (.aload_n 0, 1) := by decide +kernel
theorem dX4_isWet_5 : decode cX4_isWet 5 = .ok (.getfield 15, 3) := by decide +kernel
theorem dX4_isWet_8 : decode cX4_isWet 8 = .ok (.iload_n 1, 1) := by decide +kernel
theorem dX4_isWet_9 : decode cX4_isWet 9 = .ok (.invokestatic 47, 3) := by decide +kernel
theorem dX4_isWet_12 : decode cX4_isWet 12 = .ok (.ifCond .eq 7, 3) := by decide +kernel
theorem dX4_isWet_15 : decode cX4_isWet 15 = .ok (.iconst 1, 1) := by decide +kernel
theorem dX4_isWet_16 : decode cX4_isWet 16 = .ok (.goto 4, 3) := by decide +kernel
theorem dX4_isWet_19 : decode cX4_isWet 19 = .ok (.iconst 0, 1) := by decide +kernel
theorem dX4_isWet_20 : decode cX4_isWet 20 = .ok (.ireturn, 1) := by decide +kernel
theorem dX4_leadingOn_0 : decode cX4_leadingOn 0 = .ok (.iconst 0, 1) := by decide +kernel
theorem dX4_leadingOn_1 : decode cX4_leadingOn 1 = .ok (.istore_n 3, 1) := by decide +kernel
theorem dX4_leadingOn_2 : decode cX4_leadingOn 2 = .ok (.iload_n 3, 1) := by decide +kernel
theorem dX4_leadingOn_3 : decode cX4_leadingOn 3 = .ok (.aload_n 1, 1) := by decide +kernel
theorem dX4_leadingOn_4 : decode cX4_leadingOn 4 = .ok (.getfield 67, 3) := by decide +kernel
theorem dX4_leadingOn_7 : decode cX4_leadingOn 7 = .ok (.if_icmp .ge 28, 3) := by decide +kernel
theorem dX4_leadingOn_10 : decode cX4_leadingOn 10 = .ok (.iload_n 3, 1) := by decide +kernel
theorem dX4_leadingOn_11 : decode cX4_leadingOn 11 = .ok (.aload_n 0, 1) := by decide +kernel
theorem dX4_leadingOn_12 : decode cX4_leadingOn 12 = .ok (.getfield 21, 3) := by decide +kernel
theorem dX4_leadingOn_15 : decode cX4_leadingOn 15 = .ok (.if_icmp .eq 12, 3) := by decide +kernel
theorem dX4_leadingOn_18 : decode cX4_leadingOn 18 = .ok (.aload_n 1, 1) := by decide +kernel
theorem dX4_leadingOn_19 : decode cX4_leadingOn 19 = .ok (.iload_n 3, 1) := by decide +kernel
theorem dX4_leadingOn_20 : decode cX4_leadingOn 20 = .ok (.iload_n 2, 1) := by decide +kernel
theorem dX4_leadingOn_21 : decode cX4_leadingOn 21 = .ok (.invokevirtual 70, 3) := by decide +kernel
theorem dX4_leadingOn_24 : decode cX4_leadingOn 24 = .ok (.ifCond .eq 5, 3) := by decide +kernel
theorem dX4_leadingOn_27 : decode cX4_leadingOn 27 = .ok (.iload_n 3, 1) := by decide +kernel
theorem dX4_leadingOn_28 : decode cX4_leadingOn 28 = .ok (.ireturn, 1) := by decide +kernel
theorem dX4_leadingOn_29 : decode cX4_leadingOn 29 = .ok (.iinc 3 1, 3) := by decide +kernel
theorem dX4_leadingOn_32 : decode cX4_leadingOn 32 = .ok (.goto (-30), 3) := by decide +kernel
theorem dX4_leadingOn_35 : decode cX4_leadingOn 35 = .ok (.aload_n 1, 1) := by decide +kernel
theorem dX4_leadingOn_36 : decode cX4_leadingOn 36 = .ok (.getfield 67, 3) := by decide +kernel
theorem dX4_leadingOn_39 : decode cX4_leadingOn 39 = .ok (.ireturn, 1) := by decide +kernel
theorem dX4_leakOn_0 : decode cX4_leakOn 0 = .ok (.aload_n 1, 1) := by decide +kernel
theorem dX4_leakOn_1 : decode cX4_leakOn 1 = .ok (.iload_n 2, 1) := by decide +kernel
theorem dX4_leakOn_2 : decode cX4_leakOn 2 = .ok (.iload_n 3, 1) := by decide +kernel
theorem dX4_leakOn_3 : decode cX4_leakOn 3 = .ok (.invokevirtual 43, 3) := by decide +kernel
theorem dX4_leakOn_6 : decode cX4_leakOn 6 = .ok (.istore 4, 2) := by decide +kernel
theorem dX4_leakOn_8 : decode cX4_leakOn 8 = .ok (.iload 4, 2) := by decide +kernel
theorem dX4_leakOn_10 : decode cX4_leakOn 10 = .ok (.iconst (-1), 1) := by decide +kernel
theorem dX4_leakOn_11 : decode cX4_leakOn 11 = .ok (.if_icmp .ne 14, 3) := by decide +kernel
theorem dX4_leakOn_14 : decode cX4_leakOn 14 = .ok (.aload_n 0, 1) := by decide +kernel
theorem dX4_leakOn_15 : decode cX4_leakOn 15 = .ok (.getfield 18, 3) := by decide +kernel
theorem dX4_leakOn_18 : decode cX4_leakOn 18 = .ok (.iload_n 2, 1) := by decide +kernel
theorem dX4_leakOn_19 : decode cX4_leakOn 19 = .ok (.invokestatic 47, 3) := by decide +kernel
theorem dX4_leakOn_22 : decode cX4_leakOn 22 = .ok (.ifCond .eq 8, 3) := by decide +kernel
theorem dX4_leakOn_25 : decode cX4_leakOn 25 = .ok (.bipush 30, 2) := by decide +kernel
theorem dX4_leakOn_27 : decode cX4_leakOn 27 = .ok (.goto 9, 3) := by decide +kernel
theorem dX4_leakOn_30 : decode cX4_leakOn 30 = .ok (.aload_n 0, 1) := by decide +kernel
theorem dX4_leakOn_31 : decode cX4_leakOn 31 = .ok (.getfield 28, 3) := by decide +kernel
theorem dX4_leakOn_34 : decode cX4_leakOn 34 = .ok (.iload_n 2, 1) := by decide +kernel
theorem dX4_leakOn_35 : decode cX4_leakOn 35 = .ok (.iaload, 1) := by decide +kernel
theorem dX4_leakOn_36 : decode cX4_leakOn 36 = .ok (.istore 5, 2) := by decide +kernel
theorem dX4_leakOn_38 : decode cX4_leakOn 38 = .ok (.aload_n 0, 1) := by decide +kernel
theorem dX4_leakOn_39 : decode cX4_leakOn 39 = .ok (.getfield 9, 3) := by decide +kernel
theorem dX4_leakOn_42 : decode cX4_leakOn 42 = .ok (.tableswitch 93 1 3 #[26, 45, 74], 26) := by decide +kernel
theorem dX4_leakOn_68 : decode cX4_leakOn 68 = .ok (.aload_n 0, 1) := by decide +kernel
theorem dX4_leakOn_69 : decode cX4_leakOn 69 = .ok (.iload_n 3, 1) := by decide +kernel
theorem dX4_leakOn_70 : decode cX4_leakOn 70 = .ok (.invokevirtual 51, 3) := by decide +kernel
theorem dX4_leakOn_73 : decode cX4_leakOn 73 = .ok (.ifCond .eq 11, 3) := by decide +kernel
theorem dX4_leakOn_76 : decode cX4_leakOn 76 = .ok (.iload 5, 2) := by decide +kernel
theorem dX4_leakOn_78 : decode cX4_leakOn 78 = .ok (.invokestatic 55, 3) := by decide +kernel
theorem dX4_leakOn_81 : decode cX4_leakOn 81 = .ok (.goto 5, 3) := by decide +kernel
theorem dX4_leakOn_84 : decode cX4_leakOn 84 = .ok (.iload 5, 2) := by decide +kernel
theorem dX4_leakOn_86 : decode cX4_leakOn 86 = .ok (.ireturn, 1) := by decide +kernel
theorem dX4_leakOn_87 : decode cX4_leakOn 87 = .ok (.aload_n 0, 1) := by decide +kernel
theorem dX4_leakOn_88 : decode cX4_leakOn 88 = .ok (.iload_n 3, 1) := by decide +kernel
theorem dX4_leakOn_89 : decode cX4_leakOn 89 = .ok (.invokevirtual 51, 3) := by decide +kernel
theorem dX4_leakOn_92 : decode cX4_leakOn 92 = .ok (.ifCond .ne 13, 3) := by decide +kernel
theorem dX4_leakOn_95 : decode cX4_leakOn 95 = .ok (.aload_n 0, 1) := by decide +kernel
theorem dX4_leakOn_96 : decode cX4_leakOn 96 = .ok (.iload_n 3, 1) := by decide +kernel
theorem dX4_leakOn_97 : decode cX4_leakOn 97 = .ok (.iconst 1, 1) := by decide +kernel
theorem dX4_leakOn_98 : decode cX4_leakOn 98 = .ok (.isub, 1) := by decide +kernel
theorem dX4_leakOn_99 : decode cX4_leakOn 99 = .ok (.invokevirtual 51, 3) := by decide +kernel
theorem dX4_leakOn_102 : decode cX4_leakOn 102 = .ok (.ifCond .eq 11, 3) := by decide +kernel
theorem dX4_leakOn_105 : decode cX4_leakOn 105 = .ok (.iload 5, 2) := by decide +kernel
theorem dX4_leakOn_107 : decode cX4_leakOn 107 = .ok (.invokestatic 55, 3) := by decide +kernel
theorem dX4_leakOn_110 : decode cX4_leakOn 110 = .ok (.goto 5, 3) := by decide +kernel
theorem dX4_leakOn_113 : decode cX4_leakOn 113 = .ok (.iload 5, 2) := by decide +kernel
theorem dX4_leakOn_115 : decode cX4_leakOn 115 = .ok (.ireturn, 1) := by decide +kernel
theorem dX4_leakOn_116 : decode cX4_leakOn 116 = .ok (.iconst 1, 1) := by decide +kernel
theorem dX4_leakOn_117 : decode cX4_leakOn 117 = .ok (.iload 5, 2) := by decide +kernel
theorem dX4_leakOn_119 : decode cX4_leakOn 119 = .ok (.aload_n 0, 1) := by decide +kernel
theorem dX4_leakOn_120 : decode cX4_leakOn 120 = .ok (.iconst 0, 1) := by decide +kernel
theorem dX4_leakOn_121 : decode cX4_leakOn 121 = .ok (.iload 4, 2) := by decide +kernel
theorem dX4_leakOn_123 : decode cX4_leakOn 123 = .ok (.invokestatic 59, 3) := by decide +kernel
theorem dX4_leakOn_126 : decode cX4_leakOn 126 = .ok (.iload_n 3, 1) := by decide +kernel
theorem dX4_leakOn_127 : decode cX4_leakOn 127 = .ok (.invokevirtual 64, 3) := by decide +kernel
theorem dX4_leakOn_130 : decode cX4_leakOn 130 = .ok (.isub, 1) := by decide +kernel
theorem dX4_leakOn_131 : decode cX4_leakOn 131 = .ok (.invokestatic 59, 3) := by decide +kernel
theorem dX4_leakOn_134 : decode cX4_leakOn 134 = .ok (.ireturn, 1) := by decide +kernel
theorem dX4_leakOn_135 : decode cX4_leakOn 135 = .ok (.iload 5, 2) := by decide +kernel
theorem dX4_leakOn_137 : decode cX4_leakOn 137 = .ok (.ireturn, 1) := by decide +kernel
theorem dX4_wetDays_0 : decode cX4_wetDays 0 = .ok (.aload_n 0, 1) := by decide +kernel
theorem dX4_wetDays_1 : decode cX4_wetDays 1 = .ok (.getfield 15, 3) := by decide +kernel
theorem dX4_wetDays_4 : decode cX4_wetDays 4 = .ok (.iload_n 1, 1) := by decide +kernel
theorem dX4_wetDays_5 : decode cX4_wetDays 5 = .ok (.ishr, 1) := by decide +kernel
theorem dX4_wetDays_6 : decode cX4_wetDays 6 = .ok (.iconst 2, 1) := by decide +kernel
theorem dX4_wetDays_7 : decode cX4_wetDays 7 = .ok (.iload_n 2, 1) := by decide +kernel
theorem dX4_wetDays_8 : decode cX4_wetDays 8 = .ok (.iload_n 1, 1) := by decide +kernel
theorem dX4_wetDays_9 : decode cX4_wetDays 9 = .ok (.isub, 1) := by decide +kernel
theorem dX4_wetDays_10 : decode cX4_wetDays 10 = .ok (.ishl, 1) := by decide +kernel
theorem dX4_wetDays_11 : decode cX4_wetDays 11 = .ok (.iconst 1, 1) := by decide +kernel
theorem dX4_wetDays_12 : decode cX4_wetDays 12 = .ok (.isub, 1) := by decide +kernel
theorem dX4_wetDays_13 : decode cX4_wetDays 13 = .ok (.iand, 1) := by decide +kernel
theorem dX4_wetDays_14 : decode cX4_wetDays 14 = .ok (.invokestatic 73, 3) := by decide +kernel
theorem dX4_wetDays_17 : decode cX4_wetDays 17 = .ok (.ireturn, 1) := by decide +kernel
theorem dX5_at_0 : decode cX5_at 0 = .ok (.iload_n 1, 1) := by decide +kernel
theorem dX5_at_1 : decode cX5_at 1 = .ok (.ifCond .lt 24, 3) := by decide +kernel
theorem dX5_at_4 : decode cX5_at 4 = .ok (.iload_n 1, 1) := by decide +kernel
theorem dX5_at_5 : decode cX5_at 5 = .ok (.aload_n 0, 1) := by decide +kernel
theorem dX5_at_6 : decode cX5_at 6 = .ok (.getfield 15, 3) := by decide +kernel
theorem dX5_at_9 : decode cX5_at 9 = .ok (.if_icmp .ge 16, 3) := by decide +kernel
theorem dX5_at_12 : decode cX5_at 12 = .ok (.aload_n 0, 1) := by decide +kernel
theorem dX5_at_13 : decode cX5_at 13 = .ok (.getfield 9, 3) := by decide +kernel
theorem dX5_at_16 : decode cX5_at 16 = .ok (.iload_n 1, 1) := by decide +kernel
theorem dX5_at_17 : decode cX5_at 17 = .ok (.baload, 1) := by decide +kernel
theorem dX5_at_18 : decode cX5_at 18 = .ok (.sipush 255, 3) := by decide +kernel
theorem dX5_at_21 : decode cX5_at 21 = .ok (.iand, 1) := by decide +kernel
theorem dX5_at_22 : decode cX5_at 22 = .ok (.goto 4, 3) := by decide +kernel
theorem dX5_at_25 : decode cX5_at 25 = .ok (.iconst 0, 1) := by decide +kernel
theorem dX5_at_26 : decode cX5_at 26 = .ok (.ireturn, 1) := by decide +kernel
theorem dX8_alikeFrom_0 : decode cX8_alikeFrom 0 = .ok (.iconst 0, 1) := by decide +kernel
theorem dX8_alikeFrom_1 : decode cX8_alikeFrom 1 = .ok (.istore_n 3, 1) := by decide +kernel
theorem dX8_alikeFrom_2 : decode cX8_alikeFrom 2 = .ok (.iload_n 2, 1) := by decide +kernel
theorem dX8_alikeFrom_3 : decode cX8_alikeFrom 3 = .ok (.istore 4, 2) := by decide +kernel
theorem dX8_alikeFrom_5 : decode cX8_alikeFrom 5 = .ok (.iload 4, 2) := by decide +kernel
theorem dX8_alikeFrom_7 : decode cX8_alikeFrom 7 = .ok (.bipush 30, 2) := by decide +kernel
theorem dX8_alikeFrom_9 : decode cX8_alikeFrom 9 = .ok (.if_icmp .gt 55, 3) := by decide +kernel
theorem dX8_alikeFrom_12 : decode cX8_alikeFrom 12 = .ok (.iload_n 1, 1) := by decide +kernel
theorem dX8_alikeFrom_13 : decode cX8_alikeFrom 13 = .ok (.iload 4, 2) := by decide +kernel
theorem dX8_alikeFrom_15 : decode cX8_alikeFrom 15 = .ok (.invokestatic 272, 3) := by decide +kernel
theorem dX8_alikeFrom_18 : decode cX8_alikeFrom 18 = .ok (.ifCond .eq 40, 3) := by decide +kernel
theorem dX8_alikeFrom_21 : decode cX8_alikeFrom 21 = .ok (.aload_n 0, 1) := by decide +kernel
theorem dX8_alikeFrom_22 : decode cX8_alikeFrom 22 = .ok (.getfield 79, 3) := by decide +kernel
theorem dX8_alikeFrom_25 : decode cX8_alikeFrom 25 = .ok (.iload 4, 2) := by decide +kernel
theorem dX8_alikeFrom_27 : decode cX8_alikeFrom 27 = .ok (.laload, 1) := by decide +kernel
theorem dX8_alikeFrom_28 : decode cX8_alikeFrom 28 = .ok (.aload_n 0, 1) := by decide +kernel
theorem dX8_alikeFrom_29 : decode cX8_alikeFrom 29 = .ok (.getfield 79, 3) := by decide +kernel
theorem dX8_alikeFrom_32 : decode cX8_alikeFrom 32 = .ok (.iload_n 2, 1) := by decide +kernel
theorem dX8_alikeFrom_33 : decode cX8_alikeFrom 33 = .ok (.laload, 1) := by decide +kernel
theorem dX8_alikeFrom_34 : decode cX8_alikeFrom 34 = .ok (.lcmp, 1) := by decide +kernel
theorem dX8_alikeFrom_35 : decode cX8_alikeFrom 35 = .ok (.ifCond .ne 23, 3) := by decide +kernel
theorem dX8_alikeFrom_38 : decode cX8_alikeFrom 38 = .ok (.aload_n 0, 1) := by decide +kernel
theorem dX8_alikeFrom_39 : decode cX8_alikeFrom 39 = .ok (.getfield 83, 3) := by decide +kernel
theorem dX8_alikeFrom_42 : decode cX8_alikeFrom 42 = .ok (.iload 4, 2) := by decide +kernel
theorem dX8_alikeFrom_44 : decode cX8_alikeFrom 44 = .ok (.laload, 1) := by decide +kernel
theorem dX8_alikeFrom_45 : decode cX8_alikeFrom 45 = .ok (.aload_n 0, 1) := by decide +kernel
theorem dX8_alikeFrom_46 : decode cX8_alikeFrom 46 = .ok (.getfield 83, 3) := by decide +kernel
theorem dX8_alikeFrom_49 : decode cX8_alikeFrom 49 = .ok (.iload_n 2, 1) := by decide +kernel
theorem dX8_alikeFrom_50 : decode cX8_alikeFrom 50 = .ok (.laload, 1) := by decide +kernel
theorem dX8_alikeFrom_51 : decode cX8_alikeFrom 51 = .ok (.lcmp, 1) := by decide +kernel
theorem dX8_alikeFrom_52 : decode cX8_alikeFrom 52 = .ok (.ifCond .ne 6, 3) := by decide +kernel
theorem dX8_alikeFrom_55 : decode cX8_alikeFrom 55 = .ok (.iinc 3 1, 3) := by decide +kernel
theorem dX8_alikeFrom_58 : decode cX8_alikeFrom 58 = .ok (.iinc 4 1, 3) := by decide +kernel
theorem dX8_alikeFrom_61 : decode cX8_alikeFrom 61 = .ok (.goto (-56), 3) := by decide +kernel
theorem dX8_alikeFrom_64 : decode cX8_alikeFrom 64 = .ok (.iload_n 3, 1) := by decide +kernel
theorem dX8_alikeFrom_65 : decode cX8_alikeFrom 65 = .ok (.ireturn, 1) := by decide +kernel
theorem dX8_all_0 : decode cX8_all 0 = .ok (.aload_n 0, 1) := by decide +kernel
theorem dX8_all_1 : decode cX8_all 1 = .ok (.invokevirtual 134, 3) := by decide +kernel
theorem dX8_all_4 : decode cX8_all 4 = .ok (.ifCond .eq 14, 3) := by decide +kernel
theorem dX8_all_7 : decode cX8_all 7 = .ok (.aload_n 0, 1) := by decide +kernel
theorem dX8_all_8 : decode cX8_all 8 = .ok (.aload_n 0, 1) := by decide +kernel
theorem dX8_all_9 : decode cX8_all 9 = .ok (.invokevirtual 257, 3) := by decide +kernel
theorem dX8_all_12 : decode cX8_all 12 = .ok (.invokevirtual 260, 3) := by decide +kernel
theorem dX8_all_15 : decode cX8_all 15 = .ok (.goto 5, 3) := by decide +kernel
theorem dX8_all_18 : decode cX8_all 18 = .ok (.bipush (-2), 2) := by decide +kernel
theorem dX8_all_20 : decode cX8_all 20 = .ok (.ireturn, 1) := by decide +kernel
theorem dX8_allDays_0 : decode cX8_allDays 0 = .ok (.iconst 1, 1) := by decide +kernel
theorem dX8_allDays_1 : decode cX8_allDays 1 = .ok (.aload_n 0, 1) := by decide +kernel
theorem dX8_allDays_2 : decode cX8_allDays 2 = .ok (.getfield 33, 3) := by decide +kernel
theorem dX8_allDays_5 : decode cX8_allDays 5 = .ok (.getfield 242, 3) := by decide +kernel
theorem dX8_allDays_8 : decode cX8_allDays 8 = .ok (.iconst 1, 1) := by decide +kernel
theorem dX8_allDays_9 : decode cX8_allDays 9 = .ok (.iadd, 1) := by decide +kernel
theorem dX8_allDays_10 : decode cX8_allDays 10 = .ok (.ishl, 1) := by decide +kernel
theorem dX8_allDays_11 : decode cX8_allDays 11 = .ok (.iconst 1, 1) := by decide +kernel
theorem dX8_allDays_12 : decode cX8_allDays 12 = .ok (.isub, 1) := by decide +kernel
theorem dX8_allDays_13 : decode cX8_allDays 13 = .ok (.ireturn, 1) := by decide +kernel
theorem dX8_allPoles_0 : decode cX8_allPoles 0 = .ok (.iconst 1, 1) := by decide +kernel
theorem dX8_allPoles_1 : decode cX8_allPoles 1 = .ok (.aload_n 0, 1) := by decide +kernel
theorem dX8_allPoles_2 : decode cX8_allPoles 2 = .ok (.getfield 33, 3) := by decide +kernel
theorem dX8_allPoles_5 : decode cX8_allPoles 5 = .ok (.getfield 210, 3) := by decide +kernel
theorem dX8_allPoles_8 : decode cX8_allPoles 8 = .ok (.ishl, 1) := by decide +kernel
theorem dX8_allPoles_9 : decode cX8_allPoles 9 = .ok (.iconst 1, 1) := by decide +kernel
theorem dX8_allPoles_10 : decode cX8_allPoles 10 = .ok (.isub, 1) := by decide +kernel
theorem dX8_allPoles_11 : decode cX8_allPoles 11 = .ok (.ireturn, 1) := by decide +kernel
theorem dX8_amps_0 : decode cX8_amps 0 = .ok (.aload_n 0, 1) := by decide +kernel
theorem dX8_amps_1 : decode cX8_amps 1 = .ok (.iload_n 1, 1) := by decide +kernel
theorem dX8_amps_2 : decode cX8_amps 2 = .ok (.invokevirtual 145, 3) := by decide +kernel
theorem dX8_amps_5 : decode cX8_amps 5 = .ok (.ifCond .eq 10, 3) := by decide +kernel
theorem dX8_amps_8 : decode cX8_amps 8 = .ok (.iload_n 2, 1) := by decide +kernel
theorem dX8_amps_9 : decode cX8_amps 9 = .ok (.invokestatic 159, 3) := by decide +kernel
theorem dX8_amps_12 : decode cX8_amps 12 = .ok (.ifCond .ne 7, 3) := by decide +kernel
theorem dX8_amps_15 : decode cX8_amps 15 = .ok (.ldc2_w 162, 3) := by decide +kernel
theorem dX8_amps_18 : decode cX8_amps 18 = .ok (.lreturn, 1) := by decide +kernel
theorem dX8_amps_19 : decode cX8_amps 19 = .ok (.aload_n 0, 1) := by decide +kernel
theorem dX8_amps_20 : decode cX8_amps 20 = .ok (.iload_n 1, 1) := by decide +kernel
theorem dX8_amps_21 : decode cX8_amps 21 = .ok (.invokevirtual 164, 3) := by decide +kernel
theorem dX8_amps_24 : decode cX8_amps 24 = .ok (.aload_n 0, 1) := by decide +kernel
theorem dX8_amps_25 : decode cX8_amps 25 = .ok (.aload_n 0, 1) := by decide +kernel
theorem dX8_amps_26 : decode cX8_amps 26 = .ok (.getfield 33, 3) := by decide +kernel
theorem dX8_amps_29 : decode cX8_amps 29 = .ok (.getfield 175, 3) := by decide +kernel
theorem dX8_amps_32 : decode cX8_amps 32 = .ok (.i2l, 1) := by decide +kernel
theorem dX8_amps_33 : decode cX8_amps 33 = .ok (.aload_n 0, 1) := by decide +kernel
theorem dX8_amps_34 : decode cX8_amps 34 = .ok (.getfield 61, 3) := by decide +kernel
theorem dX8_amps_37 : decode cX8_amps 37 = .ok (.invokevirtual 178, 3) := by decide +kernel
theorem dX8_amps_40 : decode cX8_amps 40 = .ok (.lmul, 1) := by decide +kernel
theorem dX8_amps_41 : decode cX8_amps 41 = .ok (.aload_n 0, 1) := by decide +kernel
theorem dX8_amps_42 : decode cX8_amps 42 = .ok (.getfield 61, 3) := by decide +kernel
theorem dX8_amps_45 : decode cX8_amps 45 = .ok (.getfield 182, 3) := by decide +kernel
theorem dX8_amps_48 : decode cX8_amps 48 = .ok (.iload_n 2, 1) := by decide +kernel
theorem dX8_amps_49 : decode cX8_amps 49 = .ok (.invokevirtual 186, 3) := by decide +kernel
theorem dX8_amps_52 : decode cX8_amps 52 = .ok (.lreturn, 1) := by decide +kernel
theorem dX8_apart_0 : decode cX8_apart 0 = .ok (.aload_n 0, 1) := by decide +kernel
theorem dX8_apart_1 : decode cX8_apart 1 = .ok (.iload_n 1, 1) := by decide +kernel
theorem dX8_apart_2 : decode cX8_apart 2 = .ok (.invokevirtual 213, 3) := by decide +kernel
theorem dX8_apart_5 : decode cX8_apart 5 = .ok (.ifCond .eq 11, 3) := by decide +kernel
theorem dX8_apart_8 : decode cX8_apart 8 = .ok (.aload_n 0, 1) := by decide +kernel
theorem dX8_apart_9 : decode cX8_apart 9 = .ok (.iload_n 2, 1) := by decide +kernel
theorem dX8_apart_10 : decode cX8_apart 10 = .ok (.invokevirtual 213, 3) := by decide +kernel
theorem dX8_apart_13 : decode cX8_apart 13 = .ok (.ifCond .ne 6, 3) := by decide +kernel
theorem dX8_apart_16 : decode cX8_apart 16 = .ok (.bipush (-2), 2) := by decide +kernel
theorem dX8_apart_18 : decode cX8_apart 18 = .ok (.ireturn, 1) := by decide +kernel
theorem dX8_apart_19 : decode cX8_apart 19 = .ok (.aload_n 0, 1) := by decide +kernel
theorem dX8_apart_20 : decode cX8_apart 20 = .ok (.iload_n 1, 1) := by decide +kernel
theorem dX8_apart_21 : decode cX8_apart 21 = .ok (.invokevirtual 219, 3) := by decide +kernel
theorem dX8_apart_24 : decode cX8_apart 24 = .ok (.aload_n 0, 1) := by decide +kernel
theorem dX8_apart_25 : decode cX8_apart 25 = .ok (.iload_n 2, 1) := by decide +kernel
theorem dX8_apart_26 : decode cX8_apart 26 = .ok (.invokevirtual 219, 3) := by decide +kernel
theorem dX8_apart_29 : decode cX8_apart 29 = .ok (.ixor, 1) := by decide +kernel
theorem dX8_apart_30 : decode cX8_apart 30 = .ok (.invokestatic 227, 3) := by decide +kernel
