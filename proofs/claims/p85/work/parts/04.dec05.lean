theorem dX8_isAsSeen_68 : decode cX8_isAsSeen 68 = .ok (.iconst 1, 1) := by decide +kernel
theorem dX8_isAsSeen_69 : decode cX8_isAsSeen 69 = .ok (.iadd, 1) := by decide +kernel
theorem dX8_isAsSeen_70 : decode cX8_isAsSeen 70 = .ok (.invokevirtual 417, 3) := by decide +kernel
theorem dX8_isAsSeen_73 : decode cX8_isAsSeen 73 = .ok (.lcmp, 1) := by decide +kernel
theorem dX8_isAsSeen_74 : decode cX8_isAsSeen 74 = .ok (.ifCond .ne 25, 3) := by decide +kernel
theorem dX8_isAsSeen_77 : decode cX8_isAsSeen 77 = .ok (.aload_n 0, 1) := by decide +kernel
theorem dX8_isAsSeen_78 : decode cX8_isAsSeen 78 = .ok (.getfield 68, 3) := by decide +kernel
theorem dX8_isAsSeen_81 : decode cX8_isAsSeen 81 = .ok (.getfield 423, 3) := by decide +kernel
theorem dX8_isAsSeen_84 : decode cX8_isAsSeen 84 = .ok (.aload_n 0, 1) := by decide +kernel
theorem dX8_isAsSeen_85 : decode cX8_isAsSeen 85 = .ok (.getfield 47, 3) := by decide +kernel
theorem dX8_isAsSeen_88 : decode cX8_isAsSeen 88 = .ok (.iload_n 1, 1) := by decide +kernel
theorem dX8_isAsSeen_89 : decode cX8_isAsSeen 89 = .ok (.iload_n 3, 1) := by decide +kernel
theorem dX8_isAsSeen_90 : decode cX8_isAsSeen 90 = .ok (.iconst 2, 1) := by decide +kernel
theorem dX8_isAsSeen_91 : decode cX8_isAsSeen 91 = .ok (.iadd, 1) := by decide +kernel
theorem dX8_isAsSeen_92 : decode cX8_isAsSeen 92 = .ok (.invokevirtual 417, 3) := by decide +kernel
theorem dX8_isAsSeen_95 : decode cX8_isAsSeen 95 = .ok (.lcmp, 1) := by decide +kernel
theorem dX8_isAsSeen_96 : decode cX8_isAsSeen 96 = .ok (.ifCond .eq 5, 3) := by decide +kernel
theorem dX8_isAsSeen_99 : decode cX8_isAsSeen 99 = .ok (.iconst 0, 1) := by decide +kernel
theorem dX8_isAsSeen_100 : decode cX8_isAsSeen 100 = .ok (.ireturn, 1) := by decide +kernel
theorem dX8_isAsSeen_101 : decode cX8_isAsSeen 101 = .ok (.iinc 3 3, 3) := by decide +kernel
theorem dX8_isAsSeen_104 : decode cX8_isAsSeen 104 = .ok (.goto (-92), 3) := by decide +kernel
theorem dX8_isAsSeen_107 : decode cX8_isAsSeen 107 = .ok (.iconst 1, 1) := by decide +kernel
theorem dX8_isAsSeen_108 : decode cX8_isAsSeen 108 = .ok (.ireturn, 1) := by decide +kernel
theorem dX8_isChanceDay_0 : decode cX8_isChanceDay 0 = .ok (.aload_n 0, 1) := by decide +kernel
theorem dX8_isChanceDay_1 : decode cX8_isChanceDay 1 = .ok (.iload_n 1, 1) := by decide +kernel
theorem dX8_isChanceDay_2 : decode cX8_isChanceDay 2 = .ok (.invokevirtual 145, 3) := by decide +kernel
theorem dX8_isChanceDay_5 : decode cX8_isChanceDay 5 = .ok (.ifCond .eq 13, 3) := by decide +kernel
theorem dX8_isChanceDay_8 : decode cX8_isChanceDay 8 = .ok (.iload_n 1, 1) := by decide +kernel
theorem dX8_isChanceDay_9 : decode cX8_isChanceDay 9 = .ok (.bipush 7, 2) := by decide +kernel
theorem dX8_isChanceDay_11 : decode cX8_isChanceDay 11 = .ok (.if_icmp .gt 7, 3) := by decide +kernel
theorem dX8_isChanceDay_14 : decode cX8_isChanceDay 14 = .ok (.iconst 1, 1) := by decide +kernel
theorem dX8_isChanceDay_15 : decode cX8_isChanceDay 15 = .ok (.goto 4, 3) := by decide +kernel
theorem dX8_isChanceDay_18 : decode cX8_isChanceDay 18 = .ok (.iconst 0, 1) := by decide +kernel
theorem dX8_isChanceDay_19 : decode cX8_isChanceDay 19 = .ok (.ireturn, 1) := by decide +kernel
theorem dX8_isDay_0 : decode cX8_isDay 0 = .ok (.aload_n 0, 1) := by decide +kernel
theorem dX8_isDay_1 : decode cX8_isDay 1 = .ok (.invokevirtual 134, 3) := by decide +kernel
theorem dX8_isDay_4 : decode cX8_isDay 4 = .ok (.ifCond .eq 22, 3) := by decide +kernel
theorem dX8_isDay_7 : decode cX8_isDay 7 = .ok (.iload_n 1, 1) := by decide +kernel
theorem dX8_isDay_8 : decode cX8_isDay 8 = .ok (.ifCond .lt 18, 3) := by decide +kernel
theorem dX8_isDay_11 : decode cX8_isDay 11 = .ok (.iload_n 1, 1) := by decide +kernel
theorem dX8_isDay_12 : decode cX8_isDay 12 = .ok (.aload_n 0, 1) := by decide +kernel
theorem dX8_isDay_13 : decode cX8_isDay 13 = .ok (.getfield 33, 3) := by decide +kernel
theorem dX8_isDay_16 : decode cX8_isDay 16 = .ok (.getfield 242, 3) := by decide +kernel
theorem dX8_isDay_19 : decode cX8_isDay 19 = .ok (.if_icmp .gt 7, 3) := by decide +kernel
theorem dX8_isDay_22 : decode cX8_isDay 22 = .ok (.iconst 1, 1) := by decide +kernel
theorem dX8_isDay_23 : decode cX8_isDay 23 = .ok (.goto 4, 3) := by decide +kernel
theorem dX8_isDay_26 : decode cX8_isDay 26 = .ok (.iconst 0, 1) := by decide +kernel
theorem dX8_isDay_27 : decode cX8_isDay 27 = .ok (.ireturn, 1) := by decide +kernel
theorem dX8_isPart_0 : decode cX8_isPart 0 = .ok (.iload_n 0, 1) := by decide +kernel
theorem dX8_isPart_1 : decode cX8_isPart 1 = .ok (.ifCond .eq 8, 3) := by decide +kernel
theorem dX8_isPart_4 : decode cX8_isPart 4 = .ok (.iload_n 0, 1) := by decide +kernel
theorem dX8_isPart_5 : decode cX8_isPart 5 = .ok (.iconst 1, 1) := by decide +kernel
theorem dX8_isPart_6 : decode cX8_isPart 6 = .ok (.if_icmp .ne 7, 3) := by decide +kernel
theorem dX8_isPart_9 : decode cX8_isPart 9 = .ok (.iconst 1, 1) := by decide +kernel
theorem dX8_isPart_10 : decode cX8_isPart 10 = .ok (.goto 4, 3) := by decide +kernel
theorem dX8_isPart_13 : decode cX8_isPart 13 = .ok (.iconst 0, 1) := by decide +kernel
theorem dX8_isPart_14 : decode cX8_isPart 14 = .ok (.ireturn, 1) := by decide +kernel
theorem dX8_isPole_0 : decode cX8_isPole 0 = .ok (.iload_n 1, 1) := by decide +kernel
theorem dX8_isPole_1 : decode cX8_isPole 1 = .ok (.ifCond .lt 18, 3) := by decide +kernel
theorem dX8_isPole_4 : decode cX8_isPole 4 = .ok (.iload_n 1, 1) := by decide +kernel
theorem dX8_isPole_5 : decode cX8_isPole 5 = .ok (.aload_n 0, 1) := by decide +kernel
theorem dX8_isPole_6 : decode cX8_isPole 6 = .ok (.getfield 33, 3) := by decide +kernel
theorem dX8_isPole_9 : decode cX8_isPole 9 = .ok (.getfield 210, 3) := by decide +kernel
theorem dX8_isPole_12 : decode cX8_isPole 12 = .ok (.if_icmp .ge 7, 3) := by decide +kernel
theorem dX8_isPole_15 : decode cX8_isPole 15 = .ok (.iconst 1, 1) := by decide +kernel
theorem dX8_isPole_16 : decode cX8_isPole 16 = .ok (.goto 4, 3) := by decide +kernel
theorem dX8_isPole_19 : decode cX8_isPole 19 = .ok (.iconst 0, 1) := by decide +kernel
theorem dX8_isPole_20 : decode cX8_isPole 20 = .ok (.ireturn, 1) := by decide +kernel
theorem dX8_isSeed_0 : decode cX8_isSeed 0 = .ok (.iload_n 0, 1) := by decide +kernel
theorem dX8_isSeed_1 : decode cX8_isSeed 1 = .ok (.ifCond .lt 14, 3) := by decide +kernel
theorem dX8_isSeed_4 : decode cX8_isSeed 4 = .ok (.iload_n 0, 1) := by decide +kernel
theorem dX8_isSeed_5 : decode cX8_isSeed 5 = .ok (.ldc_w 391, 3) := by decide +kernel
theorem dX8_isSeed_8 : decode cX8_isSeed 8 = .ok (.if_icmp .gt 7, 3) := by decide +kernel
theorem dX8_isSeed_11 : decode cX8_isSeed 11 = .ok (.iconst 1, 1) := by decide +kernel
theorem dX8_isSeed_12 : decode cX8_isSeed 12 = .ok (.goto 4, 3) := by decide +kernel
theorem dX8_isSeed_15 : decode cX8_isSeed 15 = .ok (.iconst 0, 1) := by decide +kernel
theorem dX8_isSeed_16 : decode cX8_isSeed 16 = .ok (.ireturn, 1) := by decide +kernel
theorem dX8_isSlot_0 : decode cX8_isSlot 0 = .ok (.iload_n 0, 1) := by decide +kernel
theorem dX8_isSlot_1 : decode cX8_isSlot 1 = .ok (.ifCond .lt 12, 3) := by decide +kernel
theorem dX8_isSlot_4 : decode cX8_isSlot 4 = .ok (.iload_n 0, 1) := by decide +kernel
theorem dX8_isSlot_5 : decode cX8_isSlot 5 = .ok (.iconst 4, 1) := by decide +kernel
theorem dX8_isSlot_6 : decode cX8_isSlot 6 = .ok (.if_icmp .ge 7, 3) := by decide +kernel
theorem dX8_isSlot_9 : decode cX8_isSlot 9 = .ok (.iconst 1, 1) := by decide +kernel
theorem dX8_isSlot_10 : decode cX8_isSlot 10 = .ok (.goto 4, 3) := by decide +kernel
theorem dX8_isSlot_13 : decode cX8_isSlot 13 = .ok (.iconst 0, 1) := by decide +kernel
theorem dX8_isSlot_14 : decode cX8_isSlot 14 = .ok (.ireturn, 1) := by decide +kernel
theorem dX8_isStation_0 : decode cX8_isStation 0 = .ok (.aload_n 0, 1) := by decide +kernel
theorem dX8_isStation_1 : decode cX8_isStation 1 = .ok (.iload_n 1, 1) := by decide +kernel
theorem dX8_isStation_2 : decode cX8_isStation 2 = .ok (.invokevirtual 121, 3) := by decide +kernel
theorem dX8_isStation_5 : decode cX8_isStation 5 = .ok (.ifCond .eq 20, 3) := by decide +kernel
theorem dX8_isStation_8 : decode cX8_isStation 8 = .ok (.aload_n 0, 1) := by decide +kernel
theorem dX8_isStation_9 : decode cX8_isStation 9 = .ok (.getfield 33, 3) := by decide +kernel
theorem dX8_isStation_12 : decode cX8_isStation 12 = .ok (.getfield 131, 3) := by decide +kernel
theorem dX8_isStation_15 : decode cX8_isStation 15 = .ok (.iload_n 1, 1) := by decide +kernel
theorem dX8_isStation_16 : decode cX8_isStation 16 = .ok (.iaload, 1) := by decide +kernel
theorem dX8_isStation_17 : decode cX8_isStation 17 = .ok (.iconst (-1), 1) := by decide +kernel
theorem dX8_isStation_18 : decode cX8_isStation 18 = .ok (.if_icmp .eq 7, 3) := by decide +kernel
theorem dX8_isStation_21 : decode cX8_isStation 21 = .ok (.iconst 1, 1) := by decide +kernel
theorem dX8_isStation_22 : decode cX8_isStation 22 = .ok (.goto 4, 3) := by decide +kernel
theorem dX8_isStation_25 : decode cX8_isStation 25 = .ok (.iconst 0, 1) := by decide +kernel
theorem dX8_isStation_26 : decode cX8_isStation 26 = .ok (.ireturn, 1) := by decide +kernel
theorem dX8_isTold_0 : decode cX8_isTold 0 = .ok (.aload_n 0, 1) := by decide +kernel
theorem dX8_isTold_1 : decode cX8_isTold 1 = .ok (.getfield 33, 3) := by decide +kernel
theorem dX8_isTold_4 : decode cX8_isTold 4 = .ok (.getfield 118, 3) := by decide +kernel
theorem dX8_isTold_7 : decode cX8_isTold 7 = .ok (.ifCond .le 7, 3) := by decide +kernel
theorem dX8_isTold_10 : decode cX8_isTold 10 = .ok (.iconst 1, 1) := by decide +kernel
theorem dX8_isTold_11 : decode cX8_isTold 11 = .ok (.goto 4, 3) := by decide +kernel
theorem dX8_isTold_14 : decode cX8_isTold 14 = .ok (.iconst 0, 1) := by decide +kernel
theorem dX8_isTold_15 : decode cX8_isTold 15 = .ok (.ireturn, 1) := by decide +kernel
theorem dX8_joined_0 : decode cX8_joined 0 = .ok (.aload_n 0, 1) := by decide +kernel
theorem dX8_joined_1 : decode cX8_joined 1 = .ok (.iload_n 1, 1) := by decide +kernel
theorem dX8_joined_2 : decode cX8_joined 2 = .ok (.invokevirtual 145, 3) := by decide +kernel
theorem dX8_joined_5 : decode cX8_joined 5 = .ok (.ifCond .ne 6, 3) := by decide +kernel
theorem dX8_joined_8 : decode cX8_joined 8 = .ok (.bipush (-2), 2) := by decide +kernel
theorem dX8_joined_10 : decode cX8_joined 10 = .ok (.ireturn, 1) := by decide +kernel
theorem dX8_joined_11 : decode cX8_joined 11 = .ok (.aload_n 0, 1) := by decide +kernel
theorem dX8_joined_12 : decode cX8_joined 12 = .ok (.getfield 54, 3) := by decide +kernel
theorem dX8_joined_15 : decode cX8_joined 15 = .ok (.aload_n 0, 1) := by decide +kernel
theorem dX8_joined_16 : decode cX8_joined 16 = .ok (.getfield 33, 3) := by decide +kernel
theorem dX8_joined_19 : decode cX8_joined 19 = .ok (.invokevirtual 148, 3) := by decide +kernel
theorem dX8_joined_22 : decode cX8_joined 22 = .ok (.aload_n 0, 1) := by decide +kernel
theorem dX8_joined_23 : decode cX8_joined 23 = .ok (.getfield 54, 3) := by decide +kernel
theorem dX8_joined_26 : decode cX8_joined 26 = .ok (.aload_n 0, 1) := by decide +kernel
theorem dX8_joined_27 : decode cX8_joined 27 = .ok (.getfield 33, 3) := by decide +kernel
theorem dX8_joined_30 : decode cX8_joined 30 = .ok (.iload_n 1, 1) := by decide +kernel
theorem dX8_joined_31 : decode cX8_joined 31 = .ok (.invokevirtual 155, 3) := by decide +kernel
theorem dX8_joined_34 : decode cX8_joined 34 = .ok (.ireturn, 1) := by decide +kernel
theorem dX8_lack_0 : decode cX8_lack 0 = .ok (.aload_n 0, 1) := by decide +kernel
theorem dX8_lack_1 : decode cX8_lack 1 = .ok (.iload_n 1, 1) := by decide +kernel
theorem dX8_lack_2 : decode cX8_lack 2 = .ok (.invokevirtual 145, 3) := by decide +kernel
theorem dX8_lack_5 : decode cX8_lack 5 = .ok (.ifCond .ne 6, 3) := by decide +kernel
theorem dX8_lack_8 : decode cX8_lack 8 = .ok (.bipush (-2), 2) := by decide +kernel
theorem dX8_lack_10 : decode cX8_lack 10 = .ok (.ireturn, 1) := by decide +kernel
theorem dX8_lack_11 : decode cX8_lack 11 = .ok (.aload_n 0, 1) := by decide +kernel
theorem dX8_lack_12 : decode cX8_lack 12 = .ok (.getfield 54, 3) := by decide +kernel
theorem dX8_lack_15 : decode cX8_lack 15 = .ok (.aload_n 0, 1) := by decide +kernel
theorem dX8_lack_16 : decode cX8_lack 16 = .ok (.getfield 33, 3) := by decide +kernel
theorem dX8_lack_19 : decode cX8_lack 19 = .ok (.invokevirtual 148, 3) := by decide +kernel
theorem dX8_lack_22 : decode cX8_lack 22 = .ok (.aload_n 0, 1) := by decide +kernel
theorem dX8_lack_23 : decode cX8_lack 23 = .ok (.getfield 33, 3) := by decide +kernel
theorem dX8_lack_26 : decode cX8_lack 26 = .ok (.invokevirtual 138, 3) := by decide +kernel
theorem dX8_lack_29 : decode cX8_lack 29 = .ok (.aload_n 0, 1) := by decide +kernel
theorem dX8_lack_30 : decode cX8_lack 30 = .ok (.iload_n 1, 1) := by decide +kernel
theorem dX8_lack_31 : decode cX8_lack 31 = .ok (.invokevirtual 207, 3) := by decide +kernel
theorem dX8_lack_34 : decode cX8_lack 34 = .ok (.iconst (-1), 1) := by decide +kernel
theorem dX8_lack_35 : decode cX8_lack 35 = .ok (.ixor, 1) := by decide +kernel
theorem dX8_lack_36 : decode cX8_lack 36 = .ok (.iand, 1) := by decide +kernel
theorem dX8_lack_37 : decode cX8_lack 37 = .ok (.istore_n 2, 1) := by decide +kernel
theorem dX8_lack_38 : decode cX8_lack 38 = .ok (.iconst 0, 1) := by decide +kernel
theorem dX8_lack_39 : decode cX8_lack 39 = .ok (.istore_n 3, 1) := by decide +kernel
theorem dX8_lack_40 : decode cX8_lack 40 = .ok (.iconst 0, 1) := by decide +kernel
theorem dX8_lack_41 : decode cX8_lack 41 = .ok (.istore 4, 2) := by decide +kernel
theorem dX8_lack_43 : decode cX8_lack 43 = .ok (.iload 4, 2) := by decide +kernel
theorem dX8_lack_45 : decode cX8_lack 45 = .ok (.aload_n 0, 1) := by decide +kernel
theorem dX8_lack_46 : decode cX8_lack 46 = .ok (.getfield 33, 3) := by decide +kernel
theorem dX8_lack_49 : decode cX8_lack 49 = .ok (.getfield 210, 3) := by decide +kernel
theorem dX8_lack_52 : decode cX8_lack 52 = .ok (.if_icmp .ge 38, 3) := by decide +kernel
theorem dX8_lack_55 : decode cX8_lack 55 = .ok (.iload_n 2, 1) := by decide +kernel
theorem dX8_lack_56 : decode cX8_lack 56 = .ok (.iload 4, 2) := by decide +kernel
theorem dX8_lack_58 : decode cX8_lack 58 = .ok (.invokestatic 272, 3) := by decide +kernel
theorem dX8_lack_61 : decode cX8_lack 61 = .ok (.ifCond .eq 23, 3) := by decide +kernel
theorem dX8_lack_64 : decode cX8_lack 64 = .ok (.iload_n 3, 1) := by decide +kernel
theorem dX8_lack_65 : decode cX8_lack 65 = .ok (.aload_n 0, 1) := by decide +kernel
theorem dX8_lack_66 : decode cX8_lack 66 = .ok (.getfield 33, 3) := by decide +kernel
theorem dX8_lack_69 : decode cX8_lack 69 = .ok (.getfield 131, 3) := by decide +kernel
theorem dX8_lack_72 : decode cX8_lack 72 = .ok (.iload 4, 2) := by decide +kernel
theorem dX8_lack_74 : decode cX8_lack 74 = .ok (.iaload, 1) := by decide +kernel
theorem dX8_lack_75 : decode cX8_lack 75 = .ok (.aload_n 0, 1) := by decide +kernel
theorem dX8_lack_76 : decode cX8_lack 76 = .ok (.iload 4, 2) := by decide +kernel
theorem dX8_lack_78 : decode cX8_lack 78 = .ok (.invokevirtual 192, 3) := by decide +kernel
theorem dX8_lack_81 : decode cX8_lack 81 = .ok (.isub, 1) := by decide +kernel
theorem dX8_lack_82 : decode cX8_lack 82 = .ok (.iadd, 1) := by decide +kernel
theorem dX8_lack_83 : decode cX8_lack 83 = .ok (.istore_n 3, 1) := by decide +kernel
theorem dX8_lack_84 : decode cX8_lack 84 = .ok (.iinc 4 1, 3) := by decide +kernel
theorem dX8_lack_87 : decode cX8_lack 87 = .ok (.goto (-44), 3) := by decide +kernel
theorem dX8_lack_90 : decode cX8_lack 90 = .ok (.iload_n 3, 1) := by decide +kernel
theorem dX8_lack_91 : decode cX8_lack 91 = .ok (.ireturn, 1) := by decide +kernel
theorem dX8_last_0 : decode cX8_last 0 = .ok (.aload_n 0, 1) := by decide +kernel
theorem dX8_last_1 : decode cX8_last 1 = .ok (.invokevirtual 134, 3) := by decide +kernel
theorem dX8_last_4 : decode cX8_last 4 = .ok (.ifCond .ne 6, 3) := by decide +kernel
theorem dX8_last_7 : decode cX8_last 7 = .ok (.bipush (-2), 2) := by decide +kernel
theorem dX8_last_9 : decode cX8_last 9 = .ok (.ireturn, 1) := by decide +kernel
theorem dX8_last_10 : decode cX8_last 10 = .ok (.aload_n 0, 1) := by decide +kernel
theorem dX8_last_11 : decode cX8_last 11 = .ok (.invokevirtual 233, 3) := by decide +kernel
theorem dX8_last_14 : decode cX8_last 14 = .ok (.invokestatic 236, 3) := by decide +kernel
theorem dX8_last_17 : decode cX8_last 17 = .ok (.ireturn, 1) := by decide +kernel
theorem dX8_law_0 : decode cX8_law 0 = .ok (.aload_n 0, 1) := by decide +kernel
theorem dX8_law_1 : decode cX8_law 1 = .ok (.invokevirtual 134, 3) := by decide +kernel
theorem dX8_law_4 : decode cX8_law 4 = .ok (.ifCond .ne 6, 3) := by decide +kernel
theorem dX8_law_7 : decode cX8_law 7 = .ok (.bipush (-2), 2) := by decide +kernel
theorem dX8_law_9 : decode cX8_law 9 = .ok (.ireturn, 1) := by decide +kernel
theorem dX8_law_10 : decode cX8_law 10 = .ok (.iconst 0, 1) := by decide +kernel
theorem dX8_law_11 : decode cX8_law 11 = .ok (.istore_n 1, 1) := by decide +kernel
theorem dX8_law_12 : decode cX8_law 12 = .ok (.aload_n 0, 1) := by decide +kernel
theorem dX8_law_13 : decode cX8_law 13 = .ok (.iconst 0, 1) := by decide +kernel
theorem dX8_law_14 : decode cX8_law 14 = .ok (.invokevirtual 311, 3) := by decide +kernel
theorem dX8_law_17 : decode cX8_law 17 = .ok (.istore_n 2, 1) := by decide +kernel
theorem dX8_law_18 : decode cX8_law 18 = .ok (.iconst 1, 1) := by decide +kernel
theorem dX8_law_19 : decode cX8_law 19 = .ok (.istore_n 3, 1) := by decide +kernel
theorem dX8_law_20 : decode cX8_law 20 = .ok (.iload_n 3, 1) := by decide +kernel
theorem dX8_law_21 : decode cX8_law 21 = .ok (.iconst 4, 1) := by decide +kernel
theorem dX8_law_22 : decode cX8_law 22 = .ok (.if_icmp .ge 27, 3) := by decide +kernel
theorem dX8_law_25 : decode cX8_law 25 = .ok (.aload_n 0, 1) := by decide +kernel
theorem dX8_law_26 : decode cX8_law 26 = .ok (.iload_n 3, 1) := by decide +kernel
theorem dX8_law_27 : decode cX8_law 27 = .ok (.invokevirtual 311, 3) := by decide +kernel
theorem dX8_law_30 : decode cX8_law 30 = .ok (.istore 4, 2) := by decide +kernel
theorem dX8_law_32 : decode cX8_law 32 = .ok (.iload 4, 2) := by decide +kernel
theorem dX8_law_34 : decode cX8_law 34 = .ok (.iload_n 2, 1) := by decide +kernel
theorem dX8_law_35 : decode cX8_law 35 = .ok (.if_icmp .le 8, 3) := by decide +kernel
theorem dX8_law_38 : decode cX8_law 38 = .ok (.iload 4, 2) := by decide +kernel
theorem dX8_law_40 : decode cX8_law 40 = .ok (.istore_n 2, 1) := by decide +kernel
theorem dX8_law_41 : decode cX8_law 41 = .ok (.iload_n 3, 1) := by decide +kernel
theorem dX8_law_42 : decode cX8_law 42 = .ok (.istore_n 1, 1) := by decide +kernel
theorem dX8_law_43 : decode cX8_law 43 = .ok (.iinc 3 1, 3) := by decide +kernel
theorem dX8_law_46 : decode cX8_law 46 = .ok (.goto (-26), 3) := by decide +kernel
theorem dX8_law_49 : decode cX8_law 49 = .ok (.iload_n 1, 1) := by decide +kernel
theorem dX8_law_50 : decode cX8_law 50 = .ok (.ireturn, 1) := by decide +kernel
theorem dX8_laws_0 : decode cX8_laws 0 = .ok (.aload_n 0, 1) := by decide +kernel
theorem dX8_laws_1 : decode cX8_laws 1 = .ok (.iload_n 1, 1) := by decide +kernel
theorem dX8_laws_2 : decode cX8_laws 2 = .ok (.invokevirtual 302, 3) := by decide +kernel
theorem dX8_laws_5 : decode cX8_laws 5 = .ok (.istore_n 2, 1) := by decide +kernel
theorem dX8_laws_6 : decode cX8_laws 6 = .ok (.iload_n 2, 1) := by decide +kernel
theorem dX8_laws_7 : decode cX8_laws 7 = .ok (.ifCond .eq 5, 3) := by decide +kernel
theorem dX8_laws_10 : decode cX8_laws 10 = .ok (.iload_n 2, 1) := by decide +kernel
theorem dX8_laws_11 : decode cX8_laws 11 = .ok (.ireturn, 1) := by decide +kernel
theorem dX8_laws_12 : decode cX8_laws 12 = .ok (.aload_n 0, 1) := by decide +kernel
theorem dX8_laws_13 : decode cX8_laws 13 = .ok (.getfield 54, 3) := by decide +kernel
theorem dX8_laws_16 : decode cX8_laws 16 = .ok (.aload_n 0, 1) := by decide +kernel
theorem dX8_laws_17 : decode cX8_laws 17 = .ok (.getfield 33, 3) := by decide +kernel
theorem dX8_laws_20 : decode cX8_laws 20 = .ok (.invokevirtual 148, 3) := by decide +kernel
theorem dX8_laws_23 : decode cX8_laws 23 = .ok (.iconst 0, 1) := by decide +kernel
theorem dX8_laws_24 : decode cX8_laws 24 = .ok (.istore_n 3, 1) := by decide +kernel
theorem dX8_laws_25 : decode cX8_laws 25 = .ok (.iconst 0, 1) := by decide +kernel
theorem dX8_laws_26 : decode cX8_laws 26 = .ok (.istore 4, 2) := by decide +kernel
theorem dX8_laws_28 : decode cX8_laws 28 = .ok (.iload 4, 2) := by decide +kernel
theorem dX8_laws_30 : decode cX8_laws 30 = .ok (.iconst 4, 1) := by decide +kernel
theorem dX8_laws_31 : decode cX8_laws 31 = .ok (.if_icmp .ge 33, 3) := by decide +kernel
theorem dX8_laws_34 : decode cX8_laws 34 = .ok (.aload_n 0, 1) := by decide +kernel
theorem dX8_laws_35 : decode cX8_laws 35 = .ok (.getfield 54, 3) := by decide +kernel
theorem dX8_laws_38 : decode cX8_laws 38 = .ok (.iload 4, 2) := by decide +kernel
theorem dX8_laws_40 : decode cX8_laws 40 = .ok (.putfield 308, 3) := by decide +kernel
theorem dX8_laws_43 : decode cX8_laws 43 = .ok (.aload_n 0, 1) := by decide +kernel
theorem dX8_laws_44 : decode cX8_laws 44 = .ok (.iload_n 1, 1) := by decide +kernel
theorem dX8_laws_45 : decode cX8_laws 45 = .ok (.invokevirtual 305, 3) := by decide +kernel
theorem dX8_laws_48 : decode cX8_laws 48 = .ok (.ifCond .eq 10, 3) := by decide +kernel
theorem dX8_laws_51 : decode cX8_laws 51 = .ok (.iload_n 3, 1) := by decide +kernel
theorem dX8_laws_52 : decode cX8_laws 52 = .ok (.iconst 1, 1) := by decide +kernel
theorem dX8_laws_53 : decode cX8_laws 53 = .ok (.iload 4, 2) := by decide +kernel
theorem dX8_laws_55 : decode cX8_laws 55 = .ok (.ishl, 1) := by decide +kernel
theorem dX8_laws_56 : decode cX8_laws 56 = .ok (.ior, 1) := by decide +kernel
theorem dX8_laws_57 : decode cX8_laws 57 = .ok (.istore_n 3, 1) := by decide +kernel
theorem dX8_laws_58 : decode cX8_laws 58 = .ok (.iinc 4 1, 3) := by decide +kernel
theorem dX8_laws_61 : decode cX8_laws 61 = .ok (.goto (-33), 3) := by decide +kernel
theorem dX8_laws_64 : decode cX8_laws 64 = .ok (.iload_n 3, 1) := by decide +kernel
theorem dX8_laws_65 : decode cX8_laws 65 = .ok (.ireturn, 1) := by decide +kernel
theorem dX8_leak_0 : decode cX8_leak 0 = .ok (.aload_n 0, 1) := by decide +kernel
theorem dX8_leak_1 : decode cX8_leak 1 = .ok (.iload_n 1, 1) := by decide +kernel
theorem dX8_leak_2 : decode cX8_leak 2 = .ok (.invokevirtual 121, 3) := by decide +kernel
theorem dX8_leak_5 : decode cX8_leak 5 = .ok (.ifCond .eq 11, 3) := by decide +kernel
theorem dX8_leak_8 : decode cX8_leak 8 = .ok (.aload_n 0, 1) := by decide +kernel
theorem dX8_leak_9 : decode cX8_leak 9 = .ok (.iload_n 2, 1) := by decide +kernel
theorem dX8_leak_10 : decode cX8_leak 10 = .ok (.invokevirtual 145, 3) := by decide +kernel
theorem dX8_leak_13 : decode cX8_leak 13 = .ok (.ifCond .ne 6, 3) := by decide +kernel
theorem dX8_leak_16 : decode cX8_leak 16 = .ok (.bipush (-2), 2) := by decide +kernel
theorem dX8_leak_18 : decode cX8_leak 18 = .ok (.ireturn, 1) := by decide +kernel
theorem dX8_leak_19 : decode cX8_leak 19 = .ok (.aload_n 0, 1) := by decide +kernel
theorem dX8_leak_20 : decode cX8_leak 20 = .ok (.getfield 54, 3) := by decide +kernel
theorem dX8_leak_23 : decode cX8_leak 23 = .ok (.aload_n 0, 1) := by decide +kernel
theorem dX8_leak_24 : decode cX8_leak 24 = .ok (.getfield 33, 3) := by decide +kernel
theorem dX8_leak_27 : decode cX8_leak 27 = .ok (.invokevirtual 148, 3) := by decide +kernel
theorem dX8_leak_30 : decode cX8_leak 30 = .ok (.aload_n 0, 1) := by decide +kernel
theorem dX8_leak_31 : decode cX8_leak 31 = .ok (.getfield 54, 3) := by decide +kernel
theorem dX8_leak_34 : decode cX8_leak 34 = .ok (.aload_n 0, 1) := by decide +kernel
theorem dX8_leak_35 : decode cX8_leak 35 = .ok (.getfield 33, 3) := by decide +kernel
theorem dX8_leak_38 : decode cX8_leak 38 = .ok (.iload_n 1, 1) := by decide +kernel
theorem dX8_leak_39 : decode cX8_leak 39 = .ok (.iload_n 2, 1) := by decide +kernel
theorem dX8_leak_40 : decode cX8_leak 40 = .ok (.invokevirtual 151, 3) := by decide +kernel
theorem dX8_leak_43 : decode cX8_leak 43 = .ok (.ireturn, 1) := by decide +kernel
theorem dX8_leastBattery_0 : decode cX8_leastBattery 0 = .ok (.lconst 1, 1) := by decide +kernel
theorem dX8_leastBattery_1 : decode cX8_leastBattery 1 = .ok (.lstore_n 1, 1) := by decide +kernel
theorem dX8_leastBattery_2 : decode cX8_leastBattery 2 = .ok (.iconst 0, 1) := by decide +kernel
theorem dX8_leastBattery_3 : decode cX8_leastBattery 3 = .ok (.istore_n 3, 1) := by decide +kernel
theorem dX8_leastBattery_4 : decode cX8_leastBattery 4 = .ok (.iload_n 3, 1) := by decide +kernel
theorem dX8_leastBattery_5 : decode cX8_leastBattery 5 = .ok (.aload_n 0, 1) := by decide +kernel
theorem dX8_leastBattery_6 : decode cX8_leastBattery 6 = .ok (.getfield 33, 3) := by decide +kernel
theorem dX8_leastBattery_9 : decode cX8_leastBattery 9 = .ok (.getfield 210, 3) := by decide +kernel
theorem dX8_leastBattery_12 : decode cX8_leastBattery 12 = .ok (.if_icmp .ge 80, 3) := by decide +kernel
theorem dX8_leastBattery_15 : decode cX8_leastBattery 15 = .ok (.aload_n 0, 1) := by decide +kernel
theorem dX8_leastBattery_16 : decode cX8_leastBattery 16 = .ok (.iload_n 3, 1) := by decide +kernel
theorem dX8_leastBattery_17 : decode cX8_leastBattery 17 = .ok (.invokevirtual 213, 3) := by decide +kernel
theorem dX8_leastBattery_20 : decode cX8_leastBattery 20 = .ok (.ifCond .eq 66, 3) := by decide +kernel
theorem dX8_leastBattery_23 : decode cX8_leastBattery 23 = .ok (.aload_n 0, 1) := by decide +kernel
theorem dX8_leastBattery_24 : decode cX8_leastBattery 24 = .ok (.getfield 33, 3) := by decide +kernel
theorem dX8_leastBattery_27 : decode cX8_leastBattery 27 = .ok (.getfield 131, 3) := by decide +kernel
theorem dX8_leastBattery_30 : decode cX8_leastBattery 30 = .ok (.iload_n 3, 1) := by decide +kernel
theorem dX8_leastBattery_31 : decode cX8_leastBattery 31 = .ok (.iaload, 1) := by decide +kernel
theorem dX8_leastBattery_32 : decode cX8_leastBattery 32 = .ok (.ifCond .le 54, 3) := by decide +kernel
theorem dX8_leastBattery_35 : decode cX8_leastBattery 35 = .ok (.aload_n 0, 1) := by decide +kernel
theorem dX8_leastBattery_36 : decode cX8_leastBattery 36 = .ok (.getfield 61, 3) := by decide +kernel
theorem dX8_leastBattery_39 : decode cX8_leastBattery 39 = .ok (.getfield 190, 3) := by decide +kernel
theorem dX8_leastBattery_42 : decode cX8_leastBattery 42 = .ok (.iload_n 3, 1) := by decide +kernel
theorem dX8_leastBattery_43 : decode cX8_leastBattery 43 = .ok (.laload, 1) := by decide +kernel
theorem dX8_leastBattery_44 : decode cX8_leastBattery 44 = .ok (.lstore 4, 2) := by decide +kernel
theorem dX8_leastBattery_46 : decode cX8_leastBattery 46 = .ok (.lload 4, 2) := by decide +kernel
theorem dX8_leastBattery_48 : decode cX8_leastBattery 48 = .ok (.lconst 0, 1) := by decide +kernel
theorem dX8_leastBattery_49 : decode cX8_leastBattery 49 = .ok (.lcmp, 1) := by decide +kernel
theorem dX8_leastBattery_50 : decode cX8_leastBattery 50 = .ok (.ifCond .gt 5, 3) := by decide +kernel
theorem dX8_leastBattery_53 : decode cX8_leastBattery 53 = .ok (.iconst (-1), 1) := by decide +kernel
theorem dX8_leastBattery_54 : decode cX8_leastBattery 54 = .ok (.ireturn, 1) := by decide +kernel
theorem dX8_leastBattery_55 : decode cX8_leastBattery 55 = .ok (.lload_n 1, 1) := by decide +kernel
theorem dX8_leastBattery_56 : decode cX8_leastBattery 56 = .ok (.aload_n 0, 1) := by decide +kernel
theorem dX8_leastBattery_57 : decode cX8_leastBattery 57 = .ok (.getfield 33, 3) := by decide +kernel
theorem dX8_leastBattery_60 : decode cX8_leastBattery 60 = .ok (.getfield 131, 3) := by decide +kernel
theorem dX8_leastBattery_63 : decode cX8_leastBattery 63 = .ok (.iload_n 3, 1) := by decide +kernel
theorem dX8_leastBattery_64 : decode cX8_leastBattery 64 = .ok (.iaload, 1) := by decide +kernel
theorem dX8_leastBattery_65 : decode cX8_leastBattery 65 = .ok (.i2l, 1) := by decide +kernel
theorem dX8_leastBattery_66 : decode cX8_leastBattery 66 = .ok (.aload_n 0, 1) := by decide +kernel
theorem dX8_leastBattery_67 : decode cX8_leastBattery 67 = .ok (.getfield 61, 3) := by decide +kernel
theorem dX8_leastBattery_70 : decode cX8_leastBattery 70 = .ok (.getfield 182, 3) := by decide +kernel
theorem dX8_leastBattery_73 : decode cX8_leastBattery 73 = .ok (.lmul, 1) := by decide +kernel
theorem dX8_leastBattery_74 : decode cX8_leastBattery 74 = .ok (.lload 4, 2) := by decide +kernel
theorem dX8_leastBattery_76 : decode cX8_leastBattery 76 = .ok (.ladd, 1) := by decide +kernel
theorem dX8_leastBattery_77 : decode cX8_leastBattery 77 = .ok (.lconst 1, 1) := by decide +kernel
theorem dX8_leastBattery_78 : decode cX8_leastBattery 78 = .ok (.lsub, 1) := by decide +kernel
theorem dX8_leastBattery_79 : decode cX8_leastBattery 79 = .ok (.lload 4, 2) := by decide +kernel
theorem dX8_leastBattery_81 : decode cX8_leastBattery 81 = .ok (.ldiv, 1) := by decide +kernel
theorem dX8_leastBattery_82 : decode cX8_leastBattery 82 = .ok (.invokestatic 412, 3) := by decide +kernel
theorem dX8_leastBattery_85 : decode cX8_leastBattery 85 = .ok (.lstore_n 1, 1) := by decide +kernel
theorem dX8_leastBattery_86 : decode cX8_leastBattery 86 = .ok (.iinc 3 1, 3) := by decide +kernel
theorem dX8_leastBattery_89 : decode cX8_leastBattery 89 = .ok (.goto (-85), 3) := by decide +kernel
theorem dX8_leastBattery_92 : decode cX8_leastBattery 92 = .ok (.lload_n 1, 1) := by decide +kernel
theorem dX8_leastBattery_93 : decode cX8_leastBattery 93 = .ok (.ldc2_w 415, 3) := by decide +kernel
theorem dX8_leastBattery_96 : decode cX8_leastBattery 96 = .ok (.lcmp, 1) := by decide +kernel
theorem dX8_leastBattery_97 : decode cX8_leastBattery 97 = .ok (.ifCond .le 7, 3) := by decide +kernel
theorem dX8_leastBattery_100 : decode cX8_leastBattery 100 = .ok (.iconst (-1), 1) := by decide +kernel
theorem dX8_leastBattery_101 : decode cX8_leastBattery 101 = .ok (.goto 5, 3) := by decide +kernel
theorem dX8_leastBattery_104 : decode cX8_leastBattery 104 = .ok (.lload_n 1, 1) := by decide +kernel
theorem dX8_leastBattery_105 : decode cX8_leastBattery 105 = .ok (.l2i, 1) := by decide +kernel
theorem dX8_leastBattery_106 : decode cX8_leastBattery 106 = .ok (.ireturn, 1) := by decide +kernel
theorem dX8_leastCure_0 : decode cX8_leastCure 0 = .ok (.aload_n 0, 1) := by decide +kernel
theorem dX8_leastCure_1 : decode cX8_leastCure 1 = .ok (.getfield 54, 3) := by decide +kernel
theorem dX8_leastCure_4 : decode cX8_leastCure 4 = .ok (.aload_n 0, 1) := by decide +kernel
theorem dX8_leastCure_5 : decode cX8_leastCure 5 = .ok (.getfield 33, 3) := by decide +kernel
theorem dX8_leastCure_8 : decode cX8_leastCure 8 = .ok (.invokevirtual 148, 3) := by decide +kernel
theorem dX8_leastCure_11 : decode cX8_leastCure 11 = .ok (.iconst (-1), 1) := by decide +kernel
theorem dX8_leastCure_12 : decode cX8_leastCure 12 = .ok (.istore_n 2, 1) := by decide +kernel
theorem dX8_leastCure_13 : decode cX8_leastCure 13 = .ok (.iconst 0, 1) := by decide +kernel
theorem dX8_leastCure_14 : decode cX8_leastCure 14 = .ok (.istore_n 3, 1) := by decide +kernel
theorem dX8_leastCure_15 : decode cX8_leastCure 15 = .ok (.iload_n 3, 1) := by decide +kernel
theorem dX8_leastCure_16 : decode cX8_leastCure 16 = .ok (.aload_n 0, 1) := by decide +kernel
theorem dX8_leastCure_17 : decode cX8_leastCure 17 = .ok (.invokevirtual 257, 3) := by decide +kernel
theorem dX8_leastCure_20 : decode cX8_leastCure 20 = .ok (.if_icmp .gt 50, 3) := by decide +kernel
theorem dX8_leastCure_23 : decode cX8_leastCure 23 = .ok (.iload_n 2, 1) := by decide +kernel
theorem dX8_leastCure_24 : decode cX8_leastCure 24 = .ok (.iconst (-1), 1) := by decide +kernel
theorem dX8_leastCure_25 : decode cX8_leastCure 25 = .ok (.if_icmp .eq 14, 3) := by decide +kernel
theorem dX8_leastCure_28 : decode cX8_leastCure 28 = .ok (.iload_n 3, 1) := by decide +kernel
theorem dX8_leastCure_29 : decode cX8_leastCure 29 = .ok (.invokestatic 227, 3) := by decide +kernel
theorem dX8_leastCure_32 : decode cX8_leastCure 32 = .ok (.iload_n 2, 1) := by decide +kernel
theorem dX8_leastCure_33 : decode cX8_leastCure 33 = .ok (.invokestatic 227, 3) := by decide +kernel
theorem dX8_leastCure_36 : decode cX8_leastCure 36 = .ok (.if_icmp .ge 28, 3) := by decide +kernel
theorem dX8_leastCure_39 : decode cX8_leastCure 39 = .ok (.aload_n 0, 1) := by decide +kernel
theorem dX8_leastCure_40 : decode cX8_leastCure 40 = .ok (.getfield 54, 3) := by decide +kernel
theorem dX8_leastCure_43 : decode cX8_leastCure 43 = .ok (.iload_n 3, 1) := by decide +kernel
theorem dX8_leastCure_44 : decode cX8_leastCure 44 = .ok (.putfield 409, 3) := by decide +kernel
theorem dX8_leastCure_47 : decode cX8_leastCure 47 = .ok (.aload_n 0, 1) := by decide +kernel
theorem dX8_leastCure_48 : decode cX8_leastCure 48 = .ok (.iload_n 1, 1) := by decide +kernel
theorem dX8_leastCure_49 : decode cX8_leastCure 49 = .ok (.invokevirtual 207, 3) := by decide +kernel
theorem dX8_leastCure_52 : decode cX8_leastCure 52 = .ok (.aload_n 0, 1) := by decide +kernel
theorem dX8_leastCure_53 : decode cX8_leastCure 53 = .ok (.getfield 33, 3) := by decide +kernel
theorem dX8_leastCure_56 : decode cX8_leastCure 56 = .ok (.invokevirtual 138, 3) := by decide +kernel
theorem dX8_leastCure_59 : decode cX8_leastCure 59 = .ok (.if_icmp .ne 5, 3) := by decide +kernel
theorem dX8_leastCure_62 : decode cX8_leastCure 62 = .ok (.iload_n 3, 1) := by decide +kernel
theorem dX8_leastCure_63 : decode cX8_leastCure 63 = .ok (.istore_n 2, 1) := by decide +kernel
theorem dX8_leastCure_64 : decode cX8_leastCure 64 = .ok (.iinc 3 1, 3) := by decide +kernel
theorem dX8_leastCure_67 : decode cX8_leastCure 67 = .ok (.goto (-52), 3) := by decide +kernel
theorem dX8_leastCure_70 : decode cX8_leastCure 70 = .ok (.iload_n 2, 1) := by decide +kernel
theorem dX8_leastCure_71 : decode cX8_leastCure 71 = .ok (.ireturn, 1) := by decide +kernel
theorem dX8_leaves_0 : decode cX8_leaves 0 = .ok (.aload_n 0, 1) := by decide +kernel
theorem dX8_leaves_1 : decode cX8_leaves 1 = .ok (.iload_n 1, 1) := by decide +kernel
theorem dX8_leaves_2 : decode cX8_leaves 2 = .ok (.iload_n 2, 1) := by decide +kernel
theorem dX8_leaves_3 : decode cX8_leaves 3 = .ok (.invokevirtual 289, 3) := by decide +kernel
theorem dX8_leaves_6 : decode cX8_leaves 6 = .ok (.istore_n 3, 1) := by decide +kernel
theorem dX8_leaves_7 : decode cX8_leaves 7 = .ok (.iload_n 3, 1) := by decide +kernel
theorem dX8_leaves_8 : decode cX8_leaves 8 = .ok (.ifCond .eq 5, 3) := by decide +kernel
theorem dX8_leaves_11 : decode cX8_leaves 11 = .ok (.iload_n 3, 1) := by decide +kernel
theorem dX8_leaves_12 : decode cX8_leaves 12 = .ok (.ireturn, 1) := by decide +kernel
theorem dX8_leaves_13 : decode cX8_leaves 13 = .ok (.aload_n 0, 1) := by decide +kernel
theorem dX8_leaves_14 : decode cX8_leaves 14 = .ok (.iload_n 1, 1) := by decide +kernel
theorem dX8_leaves_15 : decode cX8_leaves 15 = .ok (.iload_n 2, 1) := by decide +kernel
theorem dX8_leaves_16 : decode cX8_leaves 16 = .ok (.invokevirtual 292, 3) := by decide +kernel
theorem dX8_leaves_19 : decode cX8_leaves 19 = .ok (.istore 4, 2) := by decide +kernel
theorem dX8_leaves_21 : decode cX8_leaves 21 = .ok (.aload_n 0, 1) := by decide +kernel
theorem dX8_leaves_22 : decode cX8_leaves 22 = .ok (.iload 4, 2) := by decide +kernel
theorem dX8_leaves_24 : decode cX8_leaves 24 = .ok (.iload_n 2, 1) := by decide +kernel
theorem dX8_leaves_25 : decode cX8_leaves 25 = .ok (.invokevirtual 295, 3) := by decide +kernel
theorem dX8_leaves_28 : decode cX8_leaves 28 = .ok (.istore 5, 2) := by decide +kernel
theorem dX8_leaves_30 : decode cX8_leaves 30 = .ok (.iload 5, 2) := by decide +kernel
theorem dX8_leaves_32 : decode cX8_leaves 32 = .ok (.iconst (-1), 1) := by decide +kernel
theorem dX8_leaves_33 : decode cX8_leaves 33 = .ok (.if_icmp .ne 11, 3) := by decide +kernel
theorem dX8_leaves_36 : decode cX8_leaves 36 = .ok (.iload 4, 2) := by decide +kernel
