theorem dX9_isGood_12 : decode cX9_isGood 12 = .ok (.ireturn, 1) := by decide +kernel
theorem dX9_isHalf_0 : decode cX9_isHalf 0 = .ok (.iload_n 0, 1) := by decide +kernel
theorem dX9_isHalf_1 : decode cX9_isHalf 1 = .ok (.i2l, 1) := by decide +kernel
theorem dX9_isHalf_2 : decode cX9_isHalf 2 = .ok (.lconst 0, 1) := by decide +kernel
theorem dX9_isHalf_3 : decode cX9_isHalf 3 = .ok (.lconst 1, 1) := by decide +kernel
theorem dX9_isHalf_4 : decode cX9_isHalf 4 = .ok (.invokestatic 73, 3) := by decide +kernel
theorem dX9_isHalf_7 : decode cX9_isHalf 7 = .ok (.ireturn, 1) := by decide +kernel
theorem dX9_isHeard_0 : decode cX9_isHeard 0 = .ok (.aload_n 0, 1) := by decide +kernel
theorem dX9_isHeard_1 : decode cX9_isHeard 1 = .ok (.iload_n 2, 1) := by decide +kernel
theorem dX9_isHeard_2 : decode cX9_isHeard 2 = .ok (.invokevirtual 271, 3) := by decide +kernel
theorem dX9_isHeard_5 : decode cX9_isHeard 5 = .ok (.iload_n 1, 1) := by decide +kernel
theorem dX9_isHeard_6 : decode cX9_isHeard 6 = .ok (.invokestatic 240, 3) := by decide +kernel
theorem dX9_isHeard_9 : decode cX9_isHeard 9 = .ok (.ireturn, 1) := by decide +kernel
theorem dX9_isHearing_0 : decode cX9_isHearing 0 = .ok (.aload_n 0, 1) := by decide +kernel
theorem dX9_isHearing_1 : decode cX9_isHearing 1 = .ok (.getfield 37, 3) := by decide +kernel
theorem dX9_isHearing_4 : decode cX9_isHearing 4 = .ok (.iconst 3, 1) := by decide +kernel
theorem dX9_isHearing_5 : decode cX9_isHearing 5 = .ok (.iload_n 1, 1) := by decide +kernel
theorem dX9_isHearing_6 : decode cX9_isHearing 6 = .ok (.imul, 1) := by decide +kernel
theorem dX9_isHearing_7 : decode cX9_isHearing 7 = .ok (.iconst 2, 1) := by decide +kernel
theorem dX9_isHearing_8 : decode cX9_isHearing 8 = .ok (.iadd, 1) := by decide +kernel
theorem dX9_isHearing_9 : decode cX9_isHearing 9 = .ok (.iaload, 1) := by decide +kernel
theorem dX9_isHearing_10 : decode cX9_isHearing 10 = .ok (.istore_n 2, 1) := by decide +kernel
theorem dX9_isHearing_11 : decode cX9_isHearing 11 = .ok (.iload_n 2, 1) := by decide +kernel
theorem dX9_isHearing_12 : decode cX9_isHearing 12 = .ok (.iconst (-1), 1) := by decide +kernel
theorem dX9_isHearing_13 : decode cX9_isHearing 13 = .ok (.if_icmp .ne 5, 3) := by decide +kernel
theorem dX9_isHearing_16 : decode cX9_isHearing 16 = .ok (.iconst 0, 1) := by decide +kernel
theorem dX9_isHearing_17 : decode cX9_isHearing 17 = .ok (.ireturn, 1) := by decide +kernel
theorem dX9_isHearing_18 : decode cX9_isHearing 18 = .ok (.iload_n 1, 1) := by decide +kernel
theorem dX9_isHearing_19 : decode cX9_isHearing 19 = .ok (.aload_n 0, 1) := by decide +kernel
theorem dX9_isHearing_20 : decode cX9_isHearing 20 = .ok (.getfield 250, 3) := by decide +kernel
theorem dX9_isHearing_23 : decode cX9_isHearing 23 = .ok (.if_icmp .ge 34, 3) := by decide +kernel
theorem dX9_isHearing_26 : decode cX9_isHearing 26 = .ok (.aload_n 0, 1) := by decide +kernel
theorem dX9_isHearing_27 : decode cX9_isHearing 27 = .ok (.getfield 237, 3) := by decide +kernel
theorem dX9_isHearing_30 : decode cX9_isHearing 30 = .ok (.i2l, 1) := by decide +kernel
theorem dX9_isHearing_31 : decode cX9_isHearing 31 = .ok (.aload_n 0, 1) := by decide +kernel
theorem dX9_isHearing_32 : decode cX9_isHearing 32 = .ok (.getfield 56, 3) := by decide +kernel
theorem dX9_isHearing_35 : decode cX9_isHearing 35 = .ok (.iload_n 1, 1) := by decide +kernel
theorem dX9_isHearing_36 : decode cX9_isHearing 36 = .ok (.laload, 1) := by decide +kernel
theorem dX9_isHearing_37 : decode cX9_isHearing 37 = .ok (.lmul, 1) := by decide +kernel
theorem dX9_isHearing_38 : decode cX9_isHearing 38 = .ok (.iload_n 2, 1) := by decide +kernel
theorem dX9_isHearing_39 : decode cX9_isHearing 39 = .ok (.i2l, 1) := by decide +kernel
theorem dX9_isHearing_40 : decode cX9_isHearing 40 = .ok (.aload_n 0, 1) := by decide +kernel
theorem dX9_isHearing_41 : decode cX9_isHearing 41 = .ok (.getfield 259, 3) := by decide +kernel
theorem dX9_isHearing_44 : decode cX9_isHearing 44 = .ok (.lmul, 1) := by decide +kernel
theorem dX9_isHearing_45 : decode cX9_isHearing 45 = .ok (.lcmp, 1) := by decide +kernel
theorem dX9_isHearing_46 : decode cX9_isHearing 46 = .ok (.ifCond .lt 7, 3) := by decide +kernel
theorem dX9_isHearing_49 : decode cX9_isHearing 49 = .ok (.iconst 1, 1) := by decide +kernel
theorem dX9_isHearing_50 : decode cX9_isHearing 50 = .ok (.goto 16, 3) := by decide +kernel
theorem dX9_isHearing_53 : decode cX9_isHearing 53 = .ok (.iconst 0, 1) := by decide +kernel
theorem dX9_isHearing_54 : decode cX9_isHearing 54 = .ok (.goto 12, 3) := by decide +kernel
theorem dX9_isHearing_57 : decode cX9_isHearing 57 = .ok (.iload_n 2, 1) := by decide +kernel
theorem dX9_isHearing_58 : decode cX9_isHearing 58 = .ok (.ifCond .ne 7, 3) := by decide +kernel
theorem dX9_isHearing_61 : decode cX9_isHearing 61 = .ok (.iconst 1, 1) := by decide +kernel
theorem dX9_isHearing_62 : decode cX9_isHearing 62 = .ok (.goto 4, 3) := by decide +kernel
theorem dX9_isHearing_65 : decode cX9_isHearing 65 = .ok (.iconst 0, 1) := by decide +kernel
theorem dX9_isHearing_66 : decode cX9_isHearing 66 = .ok (.ireturn, 1) := by decide +kernel
theorem dX9_isLeak_0 : decode cX9_isLeak 0 = .ok (.aload_n 0, 1) := by decide +kernel
theorem dX9_isLeak_1 : decode cX9_isLeak 1 = .ok (.invokevirtual 286, 3) := by decide +kernel
theorem dX9_isLeak_4 : decode cX9_isLeak 4 = .ok (.aload_n 0, 1) := by decide +kernel
theorem dX9_isLeak_5 : decode cX9_isLeak 5 = .ok (.getfield 53, 3) := by decide +kernel
theorem dX9_isLeak_8 : decode cX9_isLeak 8 = .ok (.iload_n 2, 1) := by decide +kernel
theorem dX9_isLeak_9 : decode cX9_isLeak 9 = .ok (.iload_n 3, 1) := by decide +kernel
theorem dX9_isLeak_10 : decode cX9_isLeak 10 = .ok (.iastore, 1) := by decide +kernel
theorem dX9_isLeak_11 : decode cX9_isLeak 11 = .ok (.aload_n 0, 1) := by decide +kernel
theorem dX9_isLeak_12 : decode cX9_isLeak 12 = .ok (.iload_n 1, 1) := by decide +kernel
theorem dX9_isLeak_13 : decode cX9_isLeak 13 = .ok (.invokevirtual 340, 3) := by decide +kernel
theorem dX9_isLeak_16 : decode cX9_isLeak 16 = .ok (.ireturn, 1) := by decide +kernel
theorem dX9_isOf_0 : decode cX9_isOf 0 = .ok (.aload_n 0, 1) := by decide +kernel
theorem dX9_isOf_1 : decode cX9_isOf 1 = .ok (.iload_n 1, 1) := by decide +kernel
theorem dX9_isOf_2 : decode cX9_isOf 2 = .ok (.invokevirtual 216, 3) := by decide +kernel
theorem dX9_isOf_5 : decode cX9_isOf 5 = .ok (.ifCond .eq 23, 3) := by decide +kernel
theorem dX9_isOf_8 : decode cX9_isOf 8 = .ok (.aload_n 0, 1) := by decide +kernel
theorem dX9_isOf_9 : decode cX9_isOf 9 = .ok (.iload_n 2, 1) := by decide +kernel
theorem dX9_isOf_10 : decode cX9_isOf 10 = .ok (.i2l, 1) := by decide +kernel
theorem dX9_isOf_11 : decode cX9_isOf 11 = .ok (.invokevirtual 289, 3) := by decide +kernel
theorem dX9_isOf_14 : decode cX9_isOf 14 = .ok (.ifCond .eq 14, 3) := by decide +kernel
theorem dX9_isOf_17 : decode cX9_isOf 17 = .ok (.iload_n 3, 1) := by decide +kernel
theorem dX9_isOf_18 : decode cX9_isOf 18 = .ok (.invokestatic 292, 3) := by decide +kernel
theorem dX9_isOf_21 : decode cX9_isOf 21 = .ok (.ifCond .eq 7, 3) := by decide +kernel
theorem dX9_isOf_24 : decode cX9_isOf 24 = .ok (.iconst 1, 1) := by decide +kernel
theorem dX9_isOf_25 : decode cX9_isOf 25 = .ok (.goto 4, 3) := by decide +kernel
theorem dX9_isOf_28 : decode cX9_isOf 28 = .ok (.iconst 0, 1) := by decide +kernel
theorem dX9_isOf_29 : decode cX9_isOf 29 = .ok (.ireturn, 1) := by decide +kernel
theorem dX9_isOver_0 : decode cX9_isOver 0 = .ok (.aload_n 0, 1) := by decide +kernel
theorem dX9_isOver_1 : decode cX9_isOver 1 = .ok (.iconst 0, 1) := by decide +kernel
theorem dX9_isOver_2 : decode cX9_isOver 2 = .ok (.putfield 85, 3) := by decide +kernel
theorem dX9_isOver_5 : decode cX9_isOver 5 = .ok (.aload_n 0, 1) := by decide +kernel
theorem dX9_isOver_6 : decode cX9_isOver 6 = .ok (.aload_n 0, 1) := by decide +kernel
theorem dX9_isOver_7 : decode cX9_isOver 7 = .ok (.getfield 120, 3) := by decide +kernel
theorem dX9_isOver_10 : decode cX9_isOver 10 = .ok (.putfield 147, 3) := by decide +kernel
theorem dX9_isOver_13 : decode cX9_isOver 13 = .ok (.aload_n 0, 1) := by decide +kernel
theorem dX9_isOver_14 : decode cX9_isOver 14 = .ok (.aload_n 0, 1) := by decide +kernel
theorem dX9_isOver_15 : decode cX9_isOver 15 = .ok (.getfield 120, 3) := by decide +kernel
theorem dX9_isOver_18 : decode cX9_isOver 18 = .ok (.ifCond .ne 7, 3) := by decide +kernel
theorem dX9_isOver_21 : decode cX9_isOver 21 = .ok (.iconst (-1), 1) := by decide +kernel
theorem dX9_isOver_22 : decode cX9_isOver 22 = .ok (.goto 7, 3) := by decide +kernel
theorem dX9_isOver_25 : decode cX9_isOver 25 = .ok (.aload_n 0, 1) := by decide +kernel
theorem dX9_isOver_26 : decode cX9_isOver 26 = .ok (.getfield 123, 3) := by decide +kernel
theorem dX9_isOver_29 : decode cX9_isOver 29 = .ok (.putfield 27, 3) := by decide +kernel
theorem dX9_isOver_32 : decode cX9_isOver 32 = .ok (.return_, 1) := by decide +kernel
theorem dX9_isRoom_0 : decode cX9_isRoom 0 = .ok (.iload_n 1, 1) := by decide +kernel
theorem dX9_isRoom_1 : decode cX9_isRoom 1 = .ok (.ifCond .eq 17, 3) := by decide +kernel
theorem dX9_isRoom_4 : decode cX9_isRoom 4 = .ok (.aload_n 0, 1) := by decide +kernel
theorem dX9_isRoom_5 : decode cX9_isRoom 5 = .ok (.iload_n 2, 1) := by decide +kernel
theorem dX9_isRoom_6 : decode cX9_isRoom 6 = .ok (.invokevirtual 150, 3) := by decide +kernel
theorem dX9_isRoom_9 : decode cX9_isRoom 9 = .ok (.iload_n 3, 1) := by decide +kernel
theorem dX9_isRoom_10 : decode cX9_isRoom 10 = .ok (.if_icmp .ne 8, 3) := by decide +kernel
theorem dX9_isRoom_13 : decode cX9_isRoom 13 = .ok (.aload_n 0, 1) := by decide +kernel
theorem dX9_isRoom_14 : decode cX9_isRoom 14 = .ok (.iconst 3, 1) := by decide +kernel
theorem dX9_isRoom_15 : decode cX9_isRoom 15 = .ok (.invokevirtual 136, 3) := by decide +kernel
theorem dX9_isRoom_18 : decode cX9_isRoom 18 = .ok (.iload_n 1, 1) := by decide +kernel
theorem dX9_isRoom_19 : decode cX9_isRoom 19 = .ok (.ifCond .eq 14, 3) := by decide +kernel
theorem dX9_isRoom_22 : decode cX9_isRoom 22 = .ok (.aload_n 0, 1) := by decide +kernel
theorem dX9_isRoom_23 : decode cX9_isRoom 23 = .ok (.getfield 120, 3) := by decide +kernel
theorem dX9_isRoom_26 : decode cX9_isRoom 26 = .ok (.ifCond .ne 7, 3) := by decide +kernel
theorem dX9_isRoom_29 : decode cX9_isRoom 29 = .ok (.aload_n 0, 1) := by decide +kernel
theorem dX9_isRoom_30 : decode cX9_isRoom 30 = .ok (.invokevirtual 130, 3) := by decide +kernel
theorem dX9_isRoom_33 : decode cX9_isRoom 33 = .ok (.iload_n 1, 1) := by decide +kernel
theorem dX9_isRoom_34 : decode cX9_isRoom 34 = .ok (.ifCond .eq 14, 3) := by decide +kernel
theorem dX9_isRoom_37 : decode cX9_isRoom 37 = .ok (.aload_n 0, 1) := by decide +kernel
theorem dX9_isRoom_38 : decode cX9_isRoom 38 = .ok (.getfield 120, 3) := by decide +kernel
theorem dX9_isRoom_41 : decode cX9_isRoom 41 = .ok (.ifCond .ne 7, 3) := by decide +kernel
theorem dX9_isRoom_44 : decode cX9_isRoom 44 = .ok (.iconst 1, 1) := by decide +kernel
theorem dX9_isRoom_45 : decode cX9_isRoom 45 = .ok (.goto 4, 3) := by decide +kernel
theorem dX9_isRoom_48 : decode cX9_isRoom 48 = .ok (.iconst 0, 1) := by decide +kernel
theorem dX9_isRoom_49 : decode cX9_isRoom 49 = .ok (.ireturn, 1) := by decide +kernel
theorem dX9_isSeed_0 : decode cX9_isSeed 0 = .ok (.iload_n 0, 1) := by decide +kernel
theorem dX9_isSeed_1 : decode cX9_isSeed 1 = .ok (.i2l, 1) := by decide +kernel
theorem dX9_isSeed_2 : decode cX9_isSeed 2 = .ok (.lconst 0, 1) := by decide +kernel
theorem dX9_isSeed_3 : decode cX9_isSeed 3 = .ok (.ldc2_w 399, 3) := by decide +kernel
theorem dX9_isSeed_6 : decode cX9_isSeed 6 = .ok (.invokestatic 73, 3) := by decide +kernel
theorem dX9_isSeed_9 : decode cX9_isSeed 9 = .ok (.ireturn, 1) := by decide +kernel
theorem dX9_isSlot_0 : decode cX9_isSlot 0 = .ok (.iload_n 0, 1) := by decide +kernel
theorem dX9_isSlot_1 : decode cX9_isSlot 1 = .ok (.i2l, 1) := by decide +kernel
theorem dX9_isSlot_2 : decode cX9_isSlot 2 = .ok (.lconst 0, 1) := by decide +kernel
theorem dX9_isSlot_3 : decode cX9_isSlot 3 = .ok (.ldc2_w 71, 3) := by decide +kernel
theorem dX9_isSlot_6 : decode cX9_isSlot 6 = .ok (.invokestatic 73, 3) := by decide +kernel
theorem dX9_isSlot_9 : decode cX9_isSlot 9 = .ok (.ireturn, 1) := by decide +kernel
theorem dX9_isSo_0 : decode cX9_isSo 0 = .ok (.iconst 0, 1) := by decide +kernel
theorem dX9_isSo_1 : decode cX9_isSo 1 = .ok (.istore_n 2, 1) := by decide +kernel
theorem dX9_isSo_2 : decode cX9_isSo 2 = .ok (.iload_n 2, 1) := by decide +kernel
theorem dX9_isSo_3 : decode cX9_isSo 3 = .ok (.aload_n 0, 1) := by decide +kernel
theorem dX9_isSo_4 : decode cX9_isSo 4 = .ok (.getfield 13, 3) := by decide +kernel
theorem dX9_isSo_7 : decode cX9_isSo 7 = .ok (.iload_n 1, 1) := by decide +kernel
theorem dX9_isSo_8 : decode cX9_isSo 8 = .ok (.iaload, 1) := by decide +kernel
theorem dX9_isSo_9 : decode cX9_isSo 9 = .ok (.if_icmp .ge 111, 3) := by decide +kernel
theorem dX9_isSo_12 : decode cX9_isSo 12 = .ok (.bipush 60, 2) := by decide +kernel
theorem dX9_isSo_14 : decode cX9_isSo 14 = .ok (.iload_n 1, 1) := by decide +kernel
theorem dX9_isSo_15 : decode cX9_isSo 15 = .ok (.imul, 1) := by decide +kernel
theorem dX9_isSo_16 : decode cX9_isSo 16 = .ok (.iload_n 2, 1) := by decide +kernel
theorem dX9_isSo_17 : decode cX9_isSo 17 = .ok (.iadd, 1) := by decide +kernel
theorem dX9_isSo_18 : decode cX9_isSo 18 = .ok (.istore_n 3, 1) := by decide +kernel
theorem dX9_isSo_19 : decode cX9_isSo 19 = .ok (.aload_n 0, 1) := by decide +kernel
theorem dX9_isSo_20 : decode cX9_isSo 20 = .ok (.aload_n 0, 1) := by decide +kernel
theorem dX9_isSo_21 : decode cX9_isSo 21 = .ok (.getfield 16, 3) := by decide +kernel
theorem dX9_isSo_24 : decode cX9_isSo 24 = .ok (.iload_n 3, 1) := by decide +kernel
theorem dX9_isSo_25 : decode cX9_isSo 25 = .ok (.laload, 1) := by decide +kernel
theorem dX9_isSo_26 : decode cX9_isSo 26 = .ok (.l2i, 1) := by decide +kernel
theorem dX9_isSo_27 : decode cX9_isSo 27 = .ok (.invokevirtual 262, 3) := by decide +kernel
theorem dX9_isSo_30 : decode cX9_isSo 30 = .ok (.aload_n 0, 1) := by decide +kernel
theorem dX9_isSo_31 : decode cX9_isSo 31 = .ok (.getfield 250, 3) := by decide +kernel
theorem dX9_isSo_34 : decode cX9_isSo 34 = .ok (.ifCond .ne 7, 3) := by decide +kernel
theorem dX9_isSo_37 : decode cX9_isSo 37 = .ok (.lconst 1, 1) := by decide +kernel
theorem dX9_isSo_38 : decode cX9_isSo 38 = .ok (.goto 17, 3) := by decide +kernel
theorem dX9_isSo_41 : decode cX9_isSo 41 = .ok (.aload_n 0, 1) := by decide +kernel
theorem dX9_isSo_42 : decode cX9_isSo 42 = .ok (.getfield 259, 3) := by decide +kernel
theorem dX9_isSo_45 : decode cX9_isSo 45 = .ok (.aload_n 0, 1) := by decide +kernel
theorem dX9_isSo_46 : decode cX9_isSo 46 = .ok (.getfield 59, 3) := by decide +kernel
theorem dX9_isSo_49 : decode cX9_isSo 49 = .ok (.iconst 0, 1) := by decide +kernel
theorem dX9_isSo_50 : decode cX9_isSo 50 = .ok (.laload, 1) := by decide +kernel
theorem dX9_isSo_51 : decode cX9_isSo 51 = .ok (.iconst 0, 1) := by decide +kernel
theorem dX9_isSo_52 : decode cX9_isSo 52 = .ok (.invokestatic 297, 3) := by decide +kernel
theorem dX9_isSo_55 : decode cX9_isSo 55 = .ok (.lstore 4, 2) := by decide +kernel
theorem dX9_isSo_57 : decode cX9_isSo 57 = .ok (.aload_n 0, 1) := by decide +kernel
theorem dX9_isSo_58 : decode cX9_isSo 58 = .ok (.getfield 250, 3) := by decide +kernel
theorem dX9_isSo_61 : decode cX9_isSo 61 = .ok (.ifCond .ne 7, 3) := by decide +kernel
theorem dX9_isSo_64 : decode cX9_isSo 64 = .ok (.lconst 0, 1) := by decide +kernel
theorem dX9_isSo_65 : decode cX9_isSo 65 = .ok (.goto 17, 3) := by decide +kernel
theorem dX9_isSo_68 : decode cX9_isSo 68 = .ok (.aload_n 0, 1) := by decide +kernel
theorem dX9_isSo_69 : decode cX9_isSo 69 = .ok (.getfield 259, 3) := by decide +kernel
theorem dX9_isSo_72 : decode cX9_isSo 72 = .ok (.aload_n 0, 1) := by decide +kernel
theorem dX9_isSo_73 : decode cX9_isSo 73 = .ok (.getfield 59, 3) := by decide +kernel
theorem dX9_isSo_76 : decode cX9_isSo 76 = .ok (.iconst 0, 1) := by decide +kernel
theorem dX9_isSo_77 : decode cX9_isSo 77 = .ok (.laload, 1) := by decide +kernel
theorem dX9_isSo_78 : decode cX9_isSo 78 = .ok (.iconst 1, 1) := by decide +kernel
theorem dX9_isSo_79 : decode cX9_isSo 79 = .ok (.invokestatic 297, 3) := by decide +kernel
theorem dX9_isSo_82 : decode cX9_isSo 82 = .ok (.lstore 6, 2) := by decide +kernel
theorem dX9_isSo_84 : decode cX9_isSo 84 = .ok (.lload 4, 2) := by decide +kernel
theorem dX9_isSo_86 : decode cX9_isSo 86 = .ok (.aload_n 0, 1) := by decide +kernel
theorem dX9_isSo_87 : decode cX9_isSo 87 = .ok (.getfield 16, 3) := by decide +kernel
theorem dX9_isSo_90 : decode cX9_isSo 90 = .ok (.iload_n 3, 1) := by decide +kernel
theorem dX9_isSo_91 : decode cX9_isSo 91 = .ok (.iconst 1, 1) := by decide +kernel
theorem dX9_isSo_92 : decode cX9_isSo 92 = .ok (.iadd, 1) := by decide +kernel
theorem dX9_isSo_93 : decode cX9_isSo 93 = .ok (.laload, 1) := by decide +kernel
theorem dX9_isSo_94 : decode cX9_isSo 94 = .ok (.lcmp, 1) := by decide +kernel
theorem dX9_isSo_95 : decode cX9_isSo 95 = .ok (.ifCond .ne 17, 3) := by decide +kernel
theorem dX9_isSo_98 : decode cX9_isSo 98 = .ok (.lload 6, 2) := by decide +kernel
theorem dX9_isSo_100 : decode cX9_isSo 100 = .ok (.aload_n 0, 1) := by decide +kernel
theorem dX9_isSo_101 : decode cX9_isSo 101 = .ok (.getfield 16, 3) := by decide +kernel
theorem dX9_isSo_104 : decode cX9_isSo 104 = .ok (.iload_n 3, 1) := by decide +kernel
theorem dX9_isSo_105 : decode cX9_isSo 105 = .ok (.iconst 2, 1) := by decide +kernel
theorem dX9_isSo_106 : decode cX9_isSo 106 = .ok (.iadd, 1) := by decide +kernel
theorem dX9_isSo_107 : decode cX9_isSo 107 = .ok (.laload, 1) := by decide +kernel
theorem dX9_isSo_108 : decode cX9_isSo 108 = .ok (.lcmp, 1) := by decide +kernel
theorem dX9_isSo_109 : decode cX9_isSo 109 = .ok (.ifCond .eq 5, 3) := by decide +kernel
theorem dX9_isSo_112 : decode cX9_isSo 112 = .ok (.iconst 0, 1) := by decide +kernel
theorem dX9_isSo_113 : decode cX9_isSo 113 = .ok (.ireturn, 1) := by decide +kernel
theorem dX9_isSo_114 : decode cX9_isSo 114 = .ok (.iinc 2 3, 3) := by decide +kernel
theorem dX9_isSo_117 : decode cX9_isSo 117 = .ok (.goto (-115), 3) := by decide +kernel
theorem dX9_isSo_120 : decode cX9_isSo 120 = .ok (.iconst 1, 1) := by decide +kernel
theorem dX9_isSo_121 : decode cX9_isSo 121 = .ok (.ireturn, 1) := by decide +kernel
theorem dX9_isSoon_0 : decode cX9_isSoon 0 = .ok (.aload_n 0, 1) := by decide +kernel
theorem dX9_isSoon_1 : decode cX9_isSoon 1 = .ok (.iload_n 1, 1) := by decide +kernel
theorem dX9_isSoon_2 : decode cX9_isSoon 2 = .ok (.i2l, 1) := by decide +kernel
theorem dX9_isSoon_3 : decode cX9_isSoon 3 = .ok (.invokevirtual 289, 3) := by decide +kernel
theorem dX9_isSoon_6 : decode cX9_isSoon 6 = .ok (.ifCond .eq 13, 3) := by decide +kernel
theorem dX9_isSoon_9 : decode cX9_isSoon 9 = .ok (.iload_n 1, 1) := by decide +kernel
theorem dX9_isSoon_10 : decode cX9_isSoon 10 = .ok (.bipush 8, 2) := by decide +kernel
theorem dX9_isSoon_12 : decode cX9_isSoon 12 = .ok (.if_icmp .ge 7, 3) := by decide +kernel
theorem dX9_isSoon_15 : decode cX9_isSoon 15 = .ok (.iconst 1, 1) := by decide +kernel
theorem dX9_isSoon_16 : decode cX9_isSoon 16 = .ok (.goto 4, 3) := by decide +kernel
theorem dX9_isSoon_19 : decode cX9_isSoon 19 = .ok (.iconst 0, 1) := by decide +kernel
theorem dX9_isSoon_20 : decode cX9_isSoon 20 = .ok (.ireturn, 1) := by decide +kernel
theorem dX9_isSpan_0 : decode cX9_isSpan 0 = .ok (.iload_n 1, 1) := by decide +kernel
theorem dX9_isSpan_1 : decode cX9_isSpan 1 = .ok (.i2l, 1) := by decide +kernel
theorem dX9_isSpan_2 : decode cX9_isSpan 2 = .ok (.lconst 0, 1) := by decide +kernel
theorem dX9_isSpan_3 : decode cX9_isSpan 3 = .ok (.aload_n 0, 1) := by decide +kernel
theorem dX9_isSpan_4 : decode cX9_isSpan 4 = .ok (.invokevirtual 212, 3) := by decide +kernel
theorem dX9_isSpan_7 : decode cX9_isSpan 7 = .ok (.i2l, 1) := by decide +kernel
theorem dX9_isSpan_8 : decode cX9_isSpan 8 = .ok (.lconst 1, 1) := by decide +kernel
theorem dX9_isSpan_9 : decode cX9_isSpan 9 = .ok (.lsub, 1) := by decide +kernel
theorem dX9_isSpan_10 : decode cX9_isSpan 10 = .ok (.invokestatic 73, 3) := by decide +kernel
theorem dX9_isSpan_13 : decode cX9_isSpan 13 = .ok (.ireturn, 1) := by decide +kernel
theorem dX9_isStation_0 : decode cX9_isStation 0 = .ok (.aload_n 0, 1) := by decide +kernel
theorem dX9_isStation_1 : decode cX9_isStation 1 = .ok (.iload_n 1, 1) := by decide +kernel
theorem dX9_isStation_2 : decode cX9_isStation 2 = .ok (.invokevirtual 216, 3) := by decide +kernel
theorem dX9_isStation_5 : decode cX9_isStation 5 = .ok (.ifCond .eq 21, 3) := by decide +kernel
theorem dX9_isStation_8 : decode cX9_isStation 8 = .ok (.aload_n 0, 1) := by decide +kernel
theorem dX9_isStation_9 : decode cX9_isStation 9 = .ok (.getfield 37, 3) := by decide +kernel
theorem dX9_isStation_12 : decode cX9_isStation 12 = .ok (.iconst 3, 1) := by decide +kernel
theorem dX9_isStation_13 : decode cX9_isStation 13 = .ok (.iload_n 1, 1) := by decide +kernel
theorem dX9_isStation_14 : decode cX9_isStation 14 = .ok (.imul, 1) := by decide +kernel
theorem dX9_isStation_15 : decode cX9_isStation 15 = .ok (.iconst 2, 1) := by decide +kernel
theorem dX9_isStation_16 : decode cX9_isStation 16 = .ok (.iadd, 1) := by decide +kernel
theorem dX9_isStation_17 : decode cX9_isStation 17 = .ok (.iaload, 1) := by decide +kernel
theorem dX9_isStation_18 : decode cX9_isStation 18 = .ok (.iconst (-1), 1) := by decide +kernel
theorem dX9_isStation_19 : decode cX9_isStation 19 = .ok (.if_icmp .eq 7, 3) := by decide +kernel
theorem dX9_isStation_22 : decode cX9_isStation 22 = .ok (.iconst 1, 1) := by decide +kernel
theorem dX9_isStation_23 : decode cX9_isStation 23 = .ok (.goto 4, 3) := by decide +kernel
theorem dX9_isStation_26 : decode cX9_isStation 26 = .ok (.iconst 0, 1) := by decide +kernel
theorem dX9_isStation_27 : decode cX9_isStation 27 = .ok (.ireturn, 1) := by decide +kernel
theorem dX9_isWire_0 : decode cX9_isWire 0 = .ok (.aload_n 0, 1) := by decide +kernel
theorem dX9_isWire_1 : decode cX9_isWire 1 = .ok (.getfield 31, 3) := by decide +kernel
theorem dX9_isWire_4 : decode cX9_isWire 4 = .ok (.iconst 0, 1) := by decide +kernel
theorem dX9_isWire_5 : decode cX9_isWire 5 = .ok (.iaload, 1) := by decide +kernel
theorem dX9_isWire_6 : decode cX9_isWire 6 = .ok (.ifCond .le 7, 3) := by decide +kernel
theorem dX9_isWire_9 : decode cX9_isWire 9 = .ok (.iconst 1, 1) := by decide +kernel
theorem dX9_isWire_10 : decode cX9_isWire 10 = .ok (.goto 4, 3) := by decide +kernel
theorem dX9_isWire_13 : decode cX9_isWire 13 = .ok (.iconst 0, 1) := by decide +kernel
theorem dX9_isWire_14 : decode cX9_isWire 14 = .ok (.ireturn, 1) := by decide +kernel
theorem dX9_joined_0 : decode cX9_joined 0 = .ok (.aload_n 0, 1) := by decide +kernel
theorem dX9_joined_1 : decode cX9_joined 1 = .ok (.iconst 0, 1) := by decide +kernel
theorem dX9_joined_2 : decode cX9_joined 2 = .ok (.putfield 68, 3) := by decide +kernel
theorem dX9_joined_5 : decode cX9_joined 5 = .ok (.aload_n 0, 1) := by decide +kernel
theorem dX9_joined_6 : decode cX9_joined 6 = .ok (.iload_n 1, 1) := by decide +kernel
theorem dX9_joined_7 : decode cX9_joined 7 = .ok (.i2l, 1) := by decide +kernel
theorem dX9_joined_8 : decode cX9_joined 8 = .ok (.invokevirtual 289, 3) := by decide +kernel
theorem dX9_joined_11 : decode cX9_joined 11 = .ok (.ifCond .ne 6, 3) := by decide +kernel
theorem dX9_joined_14 : decode cX9_joined 14 = .ok (.bipush (-2), 2) := by decide +kernel
theorem dX9_joined_16 : decode cX9_joined 16 = .ok (.ireturn, 1) := by decide +kernel
theorem dX9_joined_17 : decode cX9_joined 17 = .ok (.aload_n 0, 1) := by decide +kernel
theorem dX9_joined_18 : decode cX9_joined 18 = .ok (.invokevirtual 286, 3) := by decide +kernel
theorem dX9_joined_21 : decode cX9_joined 21 = .ok (.aload_n 0, 1) := by decide +kernel
theorem dX9_joined_22 : decode cX9_joined 22 = .ok (.iload_n 1, 1) := by decide +kernel
theorem dX9_joined_23 : decode cX9_joined 23 = .ok (.invokevirtual 262, 3) := by decide +kernel
theorem dX9_joined_26 : decode cX9_joined 26 = .ok (.aload_n 0, 1) := by decide +kernel
theorem dX9_joined_27 : decode cX9_joined 27 = .ok (.getfield 250, 3) := by decide +kernel
theorem dX9_joined_30 : decode cX9_joined 30 = .ok (.ireturn, 1) := by decide +kernel
theorem dX9_lack_0 : decode cX9_lack 0 = .ok (.aload_n 0, 1) := by decide +kernel
theorem dX9_lack_1 : decode cX9_lack 1 = .ok (.iconst 0, 1) := by decide +kernel
theorem dX9_lack_2 : decode cX9_lack 2 = .ok (.putfield 68, 3) := by decide +kernel
theorem dX9_lack_5 : decode cX9_lack 5 = .ok (.aload_n 0, 1) := by decide +kernel
theorem dX9_lack_6 : decode cX9_lack 6 = .ok (.iload_n 1, 1) := by decide +kernel
theorem dX9_lack_7 : decode cX9_lack 7 = .ok (.i2l, 1) := by decide +kernel
theorem dX9_lack_8 : decode cX9_lack 8 = .ok (.invokevirtual 289, 3) := by decide +kernel
theorem dX9_lack_11 : decode cX9_lack 11 = .ok (.ifCond .ne 6, 3) := by decide +kernel
theorem dX9_lack_14 : decode cX9_lack 14 = .ok (.bipush (-2), 2) := by decide +kernel
theorem dX9_lack_16 : decode cX9_lack 16 = .ok (.ireturn, 1) := by decide +kernel
theorem dX9_lack_17 : decode cX9_lack 17 = .ok (.aload_n 0, 1) := by decide +kernel
theorem dX9_lack_18 : decode cX9_lack 18 = .ok (.invokevirtual 286, 3) := by decide +kernel
theorem dX9_lack_21 : decode cX9_lack 21 = .ok (.aload_n 0, 1) := by decide +kernel
theorem dX9_lack_22 : decode cX9_lack 22 = .ok (.iload_n 1, 1) := by decide +kernel
theorem dX9_lack_23 : decode cX9_lack 23 = .ok (.invokevirtual 271, 3) := by decide +kernel
theorem dX9_lack_26 : decode cX9_lack 26 = .ok (.istore_n 2, 1) := by decide +kernel
theorem dX9_lack_27 : decode cX9_lack 27 = .ok (.iconst 0, 1) := by decide +kernel
theorem dX9_lack_28 : decode cX9_lack 28 = .ok (.istore_n 3, 1) := by decide +kernel
theorem dX9_lack_29 : decode cX9_lack 29 = .ok (.iconst 0, 1) := by decide +kernel
theorem dX9_lack_30 : decode cX9_lack 30 = .ok (.istore 4, 2) := by decide +kernel
theorem dX9_lack_32 : decode cX9_lack 32 = .ok (.iload 4, 2) := by decide +kernel
theorem dX9_lack_34 : decode cX9_lack 34 = .ok (.aload_n 0, 1) := by decide +kernel
theorem dX9_lack_35 : decode cX9_lack 35 = .ok (.invokevirtual 212, 3) := by decide +kernel
theorem dX9_lack_38 : decode cX9_lack 38 = .ok (.if_icmp .ge 60, 3) := by decide +kernel
theorem dX9_lack_41 : decode cX9_lack 41 = .ok (.aload_n 0, 1) := by decide +kernel
theorem dX9_lack_42 : decode cX9_lack 42 = .ok (.iload 4, 2) := by decide +kernel
theorem dX9_lack_44 : decode cX9_lack 44 = .ok (.invokevirtual 268, 3) := by decide +kernel
theorem dX9_lack_47 : decode cX9_lack 47 = .ok (.ifCond .eq 45, 3) := by decide +kernel
theorem dX9_lack_50 : decode cX9_lack 50 = .ok (.iload_n 2, 1) := by decide +kernel
theorem dX9_lack_51 : decode cX9_lack 51 = .ok (.iload 4, 2) := by decide +kernel
theorem dX9_lack_53 : decode cX9_lack 53 = .ok (.invokestatic 240, 3) := by decide +kernel
theorem dX9_lack_56 : decode cX9_lack 56 = .ok (.ifCond .ne 36, 3) := by decide +kernel
theorem dX9_lack_59 : decode cX9_lack 59 = .ok (.iload_n 3, 1) := by decide +kernel
theorem dX9_lack_60 : decode cX9_lack 60 = .ok (.aload_n 0, 1) := by decide +kernel
theorem dX9_lack_61 : decode cX9_lack 61 = .ok (.getfield 37, 3) := by decide +kernel
theorem dX9_lack_64 : decode cX9_lack 64 = .ok (.iconst 3, 1) := by decide +kernel
theorem dX9_lack_65 : decode cX9_lack 65 = .ok (.iload 4, 2) := by decide +kernel
theorem dX9_lack_67 : decode cX9_lack 67 = .ok (.imul, 1) := by decide +kernel
theorem dX9_lack_68 : decode cX9_lack 68 = .ok (.iconst 2, 1) := by decide +kernel
theorem dX9_lack_69 : decode cX9_lack 69 = .ok (.iadd, 1) := by decide +kernel
theorem dX9_lack_70 : decode cX9_lack 70 = .ok (.iaload, 1) := by decide +kernel
theorem dX9_lack_71 : decode cX9_lack 71 = .ok (.aload_n 0, 1) := by decide +kernel
theorem dX9_lack_72 : decode cX9_lack 72 = .ok (.getfield 237, 3) := by decide +kernel
theorem dX9_lack_75 : decode cX9_lack 75 = .ok (.i2l, 1) := by decide +kernel
theorem dX9_lack_76 : decode cX9_lack 76 = .ok (.aload_n 0, 1) := by decide +kernel
theorem dX9_lack_77 : decode cX9_lack 77 = .ok (.iload 4, 2) := by decide +kernel
theorem dX9_lack_79 : decode cX9_lack 79 = .ok (.invokevirtual 304, 3) := by decide +kernel
theorem dX9_lack_82 : decode cX9_lack 82 = .ok (.lmul, 1) := by decide +kernel
theorem dX9_lack_83 : decode cX9_lack 83 = .ok (.aload_n 0, 1) := by decide +kernel
theorem dX9_lack_84 : decode cX9_lack 84 = .ok (.getfield 259, 3) := by decide +kernel
theorem dX9_lack_87 : decode cX9_lack 87 = .ok (.ldiv, 1) := by decide +kernel
theorem dX9_lack_88 : decode cX9_lack 88 = .ok (.l2i, 1) := by decide +kernel
theorem dX9_lack_89 : decode cX9_lack 89 = .ok (.isub, 1) := by decide +kernel
theorem dX9_lack_90 : decode cX9_lack 90 = .ok (.iadd, 1) := by decide +kernel
theorem dX9_lack_91 : decode cX9_lack 91 = .ok (.istore_n 3, 1) := by decide +kernel
theorem dX9_lack_92 : decode cX9_lack 92 = .ok (.iinc 4 1, 3) := by decide +kernel
theorem dX9_lack_95 : decode cX9_lack 95 = .ok (.goto (-63), 3) := by decide +kernel
theorem dX9_lack_98 : decode cX9_lack 98 = .ok (.iload_n 3, 1) := by decide +kernel
theorem dX9_lack_99 : decode cX9_lack 99 = .ok (.ireturn, 1) := by decide +kernel
theorem dX9_last_0 : decode cX9_last 0 = .ok (.aload_n 0, 1) := by decide +kernel
theorem dX9_last_1 : decode cX9_last 1 = .ok (.iconst 0, 1) := by decide +kernel
theorem dX9_last_2 : decode cX9_last 2 = .ok (.putfield 68, 3) := by decide +kernel
theorem dX9_last_5 : decode cX9_last 5 = .ok (.aload_n 0, 1) := by decide +kernel
theorem dX9_last_6 : decode cX9_last 6 = .ok (.invokevirtual 219, 3) := by decide +kernel
theorem dX9_last_9 : decode cX9_last 9 = .ok (.ifCond .ne 6, 3) := by decide +kernel
theorem dX9_last_12 : decode cX9_last 12 = .ok (.bipush (-2), 2) := by decide +kernel
theorem dX9_last_14 : decode cX9_last 14 = .ok (.ireturn, 1) := by decide +kernel
theorem dX9_last_15 : decode cX9_last 15 = .ok (.aload_n 0, 1) := by decide +kernel
theorem dX9_last_16 : decode cX9_last 16 = .ok (.invokevirtual 286, 3) := by decide +kernel
theorem dX9_last_19 : decode cX9_last 19 = .ok (.aload_n 0, 1) := by decide +kernel
theorem dX9_last_20 : decode cX9_last 20 = .ok (.invokevirtual 222, 3) := by decide +kernel
theorem dX9_last_23 : decode cX9_last 23 = .ok (.istore_n 1, 1) := by decide +kernel
theorem dX9_last_24 : decode cX9_last 24 = .ok (.iload_n 1, 1) := by decide +kernel
theorem dX9_last_25 : decode cX9_last 25 = .ok (.ifCond .lt 23, 3) := by decide +kernel
theorem dX9_last_28 : decode cX9_last 28 = .ok (.aload_n 0, 1) := by decide +kernel
theorem dX9_last_29 : decode cX9_last 29 = .ok (.iload_n 1, 1) := by decide +kernel
theorem dX9_last_30 : decode cX9_last 30 = .ok (.invokevirtual 271, 3) := by decide +kernel
theorem dX9_last_33 : decode cX9_last 33 = .ok (.aload_n 0, 1) := by decide +kernel
theorem dX9_last_34 : decode cX9_last 34 = .ok (.invokevirtual 283, 3) := by decide +kernel
theorem dX9_last_37 : decode cX9_last 37 = .ok (.if_icmp .ne 5, 3) := by decide +kernel
theorem dX9_last_40 : decode cX9_last 40 = .ok (.iload_n 1, 1) := by decide +kernel
theorem dX9_last_41 : decode cX9_last 41 = .ok (.ireturn, 1) := by decide +kernel
theorem dX9_last_42 : decode cX9_last 42 = .ok (.iinc 1 (-1), 3) := by decide +kernel
theorem dX9_last_45 : decode cX9_last 45 = .ok (.goto (-21), 3) := by decide +kernel
theorem dX9_last_48 : decode cX9_last 48 = .ok (.iconst (-1), 1) := by decide +kernel
theorem dX9_last_49 : decode cX9_last 49 = .ok (.ireturn, 1) := by decide +kernel
theorem dX9_law_0 : decode cX9_law 0 = .ok (.aload_n 0, 1) := by decide +kernel
theorem dX9_law_1 : decode cX9_law 1 = .ok (.iconst 0, 1) := by decide +kernel
theorem dX9_law_2 : decode cX9_law 2 = .ok (.putfield 68, 3) := by decide +kernel
theorem dX9_law_5 : decode cX9_law 5 = .ok (.aload_n 0, 1) := by decide +kernel
theorem dX9_law_6 : decode cX9_law 6 = .ok (.invokevirtual 219, 3) := by decide +kernel
theorem dX9_law_9 : decode cX9_law 9 = .ok (.ifCond .ne 6, 3) := by decide +kernel
theorem dX9_law_12 : decode cX9_law 12 = .ok (.bipush (-2), 2) := by decide +kernel
theorem dX9_law_14 : decode cX9_law 14 = .ok (.ireturn, 1) := by decide +kernel
theorem dX9_law_15 : decode cX9_law 15 = .ok (.iconst 0, 1) := by decide +kernel
theorem dX9_law_16 : decode cX9_law 16 = .ok (.istore_n 1, 1) := by decide +kernel
theorem dX9_law_17 : decode cX9_law 17 = .ok (.iconst 1, 1) := by decide +kernel
theorem dX9_law_18 : decode cX9_law 18 = .ok (.istore_n 2, 1) := by decide +kernel
theorem dX9_law_19 : decode cX9_law 19 = .ok (.iload_n 2, 1) := by decide +kernel
theorem dX9_law_20 : decode cX9_law 20 = .ok (.iconst 4, 1) := by decide +kernel
theorem dX9_law_21 : decode cX9_law 21 = .ok (.if_icmp .ge 24, 3) := by decide +kernel
theorem dX9_law_24 : decode cX9_law 24 = .ok (.aload_n 0, 1) := by decide +kernel
theorem dX9_law_25 : decode cX9_law 25 = .ok (.iload_n 2, 1) := by decide +kernel
theorem dX9_law_26 : decode cX9_law 26 = .ok (.invokevirtual 365, 3) := by decide +kernel
theorem dX9_law_29 : decode cX9_law 29 = .ok (.aload_n 0, 1) := by decide +kernel
theorem dX9_law_30 : decode cX9_law 30 = .ok (.iload_n 1, 1) := by decide +kernel
theorem dX9_law_31 : decode cX9_law 31 = .ok (.invokevirtual 365, 3) := by decide +kernel
theorem dX9_law_34 : decode cX9_law 34 = .ok (.if_icmp .le 5, 3) := by decide +kernel
theorem dX9_law_37 : decode cX9_law 37 = .ok (.iload_n 2, 1) := by decide +kernel
theorem dX9_law_38 : decode cX9_law 38 = .ok (.istore_n 1, 1) := by decide +kernel
theorem dX9_law_39 : decode cX9_law 39 = .ok (.iinc 2 1, 3) := by decide +kernel
theorem dX9_law_42 : decode cX9_law 42 = .ok (.goto (-23), 3) := by decide +kernel
theorem dX9_law_45 : decode cX9_law 45 = .ok (.iload_n 1, 1) := by decide +kernel
theorem dX9_law_46 : decode cX9_law 46 = .ok (.ireturn, 1) := by decide +kernel
theorem dX9_laws_0 : decode cX9_laws 0 = .ok (.aload_n 0, 1) := by decide +kernel
theorem dX9_laws_1 : decode cX9_laws 1 = .ok (.iconst 0, 1) := by decide +kernel
theorem dX9_laws_2 : decode cX9_laws 2 = .ok (.putfield 68, 3) := by decide +kernel
theorem dX9_laws_5 : decode cX9_laws 5 = .ok (.aload_n 0, 1) := by decide +kernel
theorem dX9_laws_6 : decode cX9_laws 6 = .ok (.iload_n 1, 1) := by decide +kernel
theorem dX9_laws_7 : decode cX9_laws 7 = .ok (.iconst 1, 1) := by decide +kernel
theorem dX9_laws_8 : decode cX9_laws 8 = .ok (.invokevirtual 358, 3) := by decide +kernel
theorem dX9_laws_11 : decode cX9_laws 11 = .ok (.istore_n 2, 1) := by decide +kernel
