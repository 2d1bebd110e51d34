theorem dX8_heardByChance_75 : decode cX8_heardByChance 75 = .ok (.aload_n 0, 1) := by decide +kernel
theorem dX8_heardByChance_76 : decode cX8_heardByChance 76 = .ok (.getfield 54, 3) := by decide +kernel
theorem dX8_heardByChance_79 : decode cX8_heardByChance 79 = .ok (.iload 6, 2) := by decide +kernel
theorem dX8_heardByChance_81 : decode cX8_heardByChance 81 = .ok (.putfield 248, 3) := by decide +kernel
theorem dX8_heardByChance_84 : decode cX8_heardByChance 84 = .ok (.lload 4, 2) := by decide +kernel
theorem dX8_heardByChance_86 : decode cX8_heardByChance 86 = .ok (.lload 8, 2) := by decide +kernel
theorem dX8_heardByChance_88 : decode cX8_heardByChance 88 = .ok (.aload_n 0, 1) := by decide +kernel
theorem dX8_heardByChance_89 : decode cX8_heardByChance 89 = .ok (.iload_n 1, 1) := by decide +kernel
theorem dX8_heardByChance_90 : decode cX8_heardByChance 90 = .ok (.invokevirtual 207, 3) := by decide +kernel
theorem dX8_heardByChance_93 : decode cX8_heardByChance 93 = .ok (.iload_n 2, 1) := by decide +kernel
theorem dX8_heardByChance_94 : decode cX8_heardByChance 94 = .ok (.iand, 1) := by decide +kernel
theorem dX8_heardByChance_95 : decode cX8_heardByChance 95 = .ok (.invokestatic 227, 3) := by decide +kernel
theorem dX8_heardByChance_98 : decode cX8_heardByChance 98 = .ok (.i2l, 1) := by decide +kernel
theorem dX8_heardByChance_99 : decode cX8_heardByChance 99 = .ok (.lmul, 1) := by decide +kernel
theorem dX8_heardByChance_100 : decode cX8_heardByChance 100 = .ok (.ladd, 1) := by decide +kernel
theorem dX8_heardByChance_101 : decode cX8_heardByChance 101 = .ok (.lstore 4, 2) := by decide +kernel
theorem dX8_heardByChance_103 : decode cX8_heardByChance 103 = .ok (.iinc 6 1, 3) := by decide +kernel
theorem dX8_heardByChance_106 : decode cX8_heardByChance 106 = .ok (.goto (-85), 3) := by decide +kernel
theorem dX8_heardByChance_109 : decode cX8_heardByChance 109 = .ok (.lload 4, 2) := by decide +kernel
theorem dX8_heardByChance_111 : decode cX8_heardByChance 111 = .ok (.lreturn, 1) := by decide +kernel
theorem dX8_heardByDraws_0 : decode cX8_heardByDraws 0 = .ok (.aload_n 0, 1) := by decide +kernel
theorem dX8_heardByDraws_1 : decode cX8_heardByDraws 1 = .ok (.getfield 54, 3) := by decide +kernel
theorem dX8_heardByDraws_4 : decode cX8_heardByDraws 4 = .ok (.aload_n 0, 1) := by decide +kernel
theorem dX8_heardByDraws_5 : decode cX8_heardByDraws 5 = .ok (.getfield 33, 3) := by decide +kernel
theorem dX8_heardByDraws_8 : decode cX8_heardByDraws 8 = .ok (.invokevirtual 148, 3) := by decide +kernel
theorem dX8_heardByDraws_11 : decode cX8_heardByDraws 11 = .ok (.aload_n 0, 1) := by decide +kernel
theorem dX8_heardByDraws_12 : decode cX8_heardByDraws 12 = .ok (.getfield 54, 3) := by decide +kernel
theorem dX8_heardByDraws_15 : decode cX8_heardByDraws 15 = .ok (.aload_n 0, 1) := by decide +kernel
theorem dX8_heardByDraws_16 : decode cX8_heardByDraws 16 = .ok (.iload_n 1, 1) := by decide +kernel
theorem dX8_heardByDraws_17 : decode cX8_heardByDraws 17 = .ok (.invokevirtual 348, 3) := by decide +kernel
theorem dX8_heardByDraws_20 : decode cX8_heardByDraws 20 = .ok (.putfield 248, 3) := by decide +kernel
theorem dX8_heardByDraws_23 : decode cX8_heardByDraws 23 = .ok (.aload_n 0, 1) := by decide +kernel
theorem dX8_heardByDraws_24 : decode cX8_heardByDraws 24 = .ok (.aload_n 0, 1) := by decide +kernel
theorem dX8_heardByDraws_25 : decode cX8_heardByDraws 25 = .ok (.getfield 33, 3) := by decide +kernel
theorem dX8_heardByDraws_28 : decode cX8_heardByDraws 28 = .ok (.getfield 242, 3) := by decide +kernel
theorem dX8_heardByDraws_31 : decode cX8_heardByDraws 31 = .ok (.invokevirtual 207, 3) := by decide +kernel
theorem dX8_heardByDraws_34 : decode cX8_heardByDraws 34 = .ok (.ireturn, 1) := by decide +kernel
theorem dX8_heardByLaw_0 : decode cX8_heardByLaw 0 = .ok (.aload_n 0, 1) := by decide +kernel
theorem dX8_heardByLaw_1 : decode cX8_heardByLaw 1 = .ok (.getfield 54, 3) := by decide +kernel
theorem dX8_heardByLaw_4 : decode cX8_heardByLaw 4 = .ok (.aload_n 0, 1) := by decide +kernel
theorem dX8_heardByLaw_5 : decode cX8_heardByLaw 5 = .ok (.getfield 33, 3) := by decide +kernel
theorem dX8_heardByLaw_8 : decode cX8_heardByLaw 8 = .ok (.invokevirtual 148, 3) := by decide +kernel
theorem dX8_heardByLaw_11 : decode cX8_heardByLaw 11 = .ok (.aload_n 0, 1) := by decide +kernel
theorem dX8_heardByLaw_12 : decode cX8_heardByLaw 12 = .ok (.getfield 54, 3) := by decide +kernel
theorem dX8_heardByLaw_15 : decode cX8_heardByLaw 15 = .ok (.iload_n 1, 1) := by decide +kernel
theorem dX8_heardByLaw_16 : decode cX8_heardByLaw 16 = .ok (.putfield 308, 3) := by decide +kernel
theorem dX8_heardByLaw_19 : decode cX8_heardByLaw 19 = .ok (.aload_n 0, 1) := by decide +kernel
theorem dX8_heardByLaw_20 : decode cX8_heardByLaw 20 = .ok (.invokevirtual 245, 3) := by decide +kernel
theorem dX8_heardByLaw_23 : decode cX8_heardByLaw 23 = .ok (.ireturn, 1) := by decide +kernel
theorem dX8_heardDaysOf_0 : decode cX8_heardDaysOf 0 = .ok (.iconst 0, 1) := by decide +kernel
theorem dX8_heardDaysOf_1 : decode cX8_heardDaysOf 1 = .ok (.istore_n 2, 1) := by decide +kernel
theorem dX8_heardDaysOf_2 : decode cX8_heardDaysOf 2 = .ok (.iconst 0, 1) := by decide +kernel
theorem dX8_heardDaysOf_3 : decode cX8_heardDaysOf 3 = .ok (.istore_n 3, 1) := by decide +kernel
theorem dX8_heardDaysOf_4 : decode cX8_heardDaysOf 4 = .ok (.iload_n 3, 1) := by decide +kernel
theorem dX8_heardDaysOf_5 : decode cX8_heardDaysOf 5 = .ok (.aload_n 0, 1) := by decide +kernel
theorem dX8_heardDaysOf_6 : decode cX8_heardDaysOf 6 = .ok (.getfield 33, 3) := by decide +kernel
theorem dX8_heardDaysOf_9 : decode cX8_heardDaysOf 9 = .ok (.getfield 242, 3) := by decide +kernel
theorem dX8_heardDaysOf_12 : decode cX8_heardDaysOf 12 = .ok (.if_icmp .gt 25, 3) := by decide +kernel
theorem dX8_heardDaysOf_15 : decode cX8_heardDaysOf 15 = .ok (.aload_n 0, 1) := by decide +kernel
theorem dX8_heardDaysOf_16 : decode cX8_heardDaysOf 16 = .ok (.getfield 72, 3) := by decide +kernel
theorem dX8_heardDaysOf_19 : decode cX8_heardDaysOf 19 = .ok (.iload_n 3, 1) := by decide +kernel
theorem dX8_heardDaysOf_20 : decode cX8_heardDaysOf 20 = .ok (.iaload, 1) := by decide +kernel
theorem dX8_heardDaysOf_21 : decode cX8_heardDaysOf 21 = .ok (.iload_n 1, 1) := by decide +kernel
theorem dX8_heardDaysOf_22 : decode cX8_heardDaysOf 22 = .ok (.invokestatic 272, 3) := by decide +kernel
theorem dX8_heardDaysOf_25 : decode cX8_heardDaysOf 25 = .ok (.ifCond .eq 6, 3) := by decide +kernel
theorem dX8_heardDaysOf_28 : decode cX8_heardDaysOf 28 = .ok (.iinc 2 1, 3) := by decide +kernel
theorem dX8_heardDaysOf_31 : decode cX8_heardDaysOf 31 = .ok (.iinc 3 1, 3) := by decide +kernel
theorem dX8_heardDaysOf_34 : decode cX8_heardDaysOf 34 = .ok (.goto (-30), 3) := by decide +kernel
theorem dX8_heardDaysOf_37 : decode cX8_heardDaysOf 37 = .ok (.iload_n 2, 1) := by decide +kernel
theorem dX8_heardDaysOf_38 : decode cX8_heardDaysOf 38 = .ok (.ireturn, 1) := by decide +kernel
theorem dX8_heardInAll_0 : decode cX8_heardInAll 0 = .ok (.iconst 0, 1) := by decide +kernel
theorem dX8_heardInAll_1 : decode cX8_heardInAll 1 = .ok (.istore_n 1, 1) := by decide +kernel
theorem dX8_heardInAll_2 : decode cX8_heardInAll 2 = .ok (.iconst 0, 1) := by decide +kernel
theorem dX8_heardInAll_3 : decode cX8_heardInAll 3 = .ok (.istore_n 2, 1) := by decide +kernel
theorem dX8_heardInAll_4 : decode cX8_heardInAll 4 = .ok (.iload_n 2, 1) := by decide +kernel
theorem dX8_heardInAll_5 : decode cX8_heardInAll 5 = .ok (.aload_n 0, 1) := by decide +kernel
theorem dX8_heardInAll_6 : decode cX8_heardInAll 6 = .ok (.getfield 33, 3) := by decide +kernel
theorem dX8_heardInAll_9 : decode cX8_heardInAll 9 = .ok (.getfield 242, 3) := by decide +kernel
theorem dX8_heardInAll_12 : decode cX8_heardInAll 12 = .ok (.if_icmp .gt 20, 3) := by decide +kernel
theorem dX8_heardInAll_15 : decode cX8_heardInAll 15 = .ok (.iload_n 1, 1) := by decide +kernel
theorem dX8_heardInAll_16 : decode cX8_heardInAll 16 = .ok (.aload_n 0, 1) := by decide +kernel
theorem dX8_heardInAll_17 : decode cX8_heardInAll 17 = .ok (.iload_n 2, 1) := by decide +kernel
theorem dX8_heardInAll_18 : decode cX8_heardInAll 18 = .ok (.invokevirtual 207, 3) := by decide +kernel
theorem dX8_heardInAll_21 : decode cX8_heardInAll 21 = .ok (.invokestatic 227, 3) := by decide +kernel
theorem dX8_heardInAll_24 : decode cX8_heardInAll 24 = .ok (.iadd, 1) := by decide +kernel
theorem dX8_heardInAll_25 : decode cX8_heardInAll 25 = .ok (.istore_n 1, 1) := by decide +kernel
theorem dX8_heardInAll_26 : decode cX8_heardInAll 26 = .ok (.iinc 2 1, 3) := by decide +kernel
theorem dX8_heardInAll_29 : decode cX8_heardInAll 29 = .ok (.goto (-25), 3) := by decide +kernel
theorem dX8_heardInAll_32 : decode cX8_heardInAll 32 = .ok (.iload_n 1, 1) := by decide +kernel
theorem dX8_heardInAll_33 : decode cX8_heardInAll 33 = .ok (.ireturn, 1) := by decide +kernel
theorem dX8_hearingDays_0 : decode cX8_hearingDays 0 = .ok (.aload_n 0, 1) := by decide +kernel
theorem dX8_hearingDays_1 : decode cX8_hearingDays 1 = .ok (.getfield 54, 3) := by decide +kernel
theorem dX8_hearingDays_4 : decode cX8_hearingDays 4 = .ok (.aload_n 0, 1) := by decide +kernel
theorem dX8_hearingDays_5 : decode cX8_hearingDays 5 = .ok (.getfield 33, 3) := by decide +kernel
theorem dX8_hearingDays_8 : decode cX8_hearingDays 8 = .ok (.invokevirtual 148, 3) := by decide +kernel
theorem dX8_hearingDays_11 : decode cX8_hearingDays 11 = .ok (.aload_n 0, 1) := by decide +kernel
theorem dX8_hearingDays_12 : decode cX8_hearingDays 12 = .ok (.iload_n 1, 1) := by decide +kernel
theorem dX8_hearingDays_13 : decode cX8_hearingDays 13 = .ok (.invokevirtual 403, 3) := by decide +kernel
theorem dX8_hearingDays_16 : decode cX8_hearingDays 16 = .ok (.ireturn, 1) := by decide +kernel
theorem dX8_hears_0 : decode cX8_hears 0 = .ok (.aload_n 0, 1) := by decide +kernel
theorem dX8_hears_1 : decode cX8_hears 1 = .ok (.iload_n 1, 1) := by decide +kernel
theorem dX8_hears_2 : decode cX8_hears 2 = .ok (.invokevirtual 145, 3) := by decide +kernel
theorem dX8_hears_5 : decode cX8_hears 5 = .ok (.ifCond .ne 6, 3) := by decide +kernel
theorem dX8_hears_8 : decode cX8_hears 8 = .ok (.bipush (-2), 2) := by decide +kernel
theorem dX8_hears_10 : decode cX8_hears 10 = .ok (.ireturn, 1) := by decide +kernel
theorem dX8_hears_11 : decode cX8_hears 11 = .ok (.aload_n 0, 1) := by decide +kernel
theorem dX8_hears_12 : decode cX8_hears 12 = .ok (.getfield 54, 3) := by decide +kernel
theorem dX8_hears_15 : decode cX8_hears 15 = .ok (.aload_n 0, 1) := by decide +kernel
theorem dX8_hears_16 : decode cX8_hears 16 = .ok (.getfield 33, 3) := by decide +kernel
theorem dX8_hears_19 : decode cX8_hears 19 = .ok (.invokevirtual 148, 3) := by decide +kernel
theorem dX8_hears_22 : decode cX8_hears 22 = .ok (.aload_n 0, 1) := by decide +kernel
theorem dX8_hears_23 : decode cX8_hears 23 = .ok (.iload_n 1, 1) := by decide +kernel
theorem dX8_hears_24 : decode cX8_hears 24 = .ok (.invokevirtual 207, 3) := by decide +kernel
theorem dX8_hears_27 : decode cX8_hears 27 = .ok (.ireturn, 1) := by decide +kernel
theorem dX8_high_0 : decode cX8_high 0 = .ok (.aload_n 0, 1) := by decide +kernel
theorem dX8_high_1 : decode cX8_high 1 = .ok (.iload_n 1, 1) := by decide +kernel
theorem dX8_high_2 : decode cX8_high 2 = .ok (.iload_n 2, 1) := by decide +kernel
theorem dX8_high_3 : decode cX8_high 3 = .ok (.invokevirtual 289, 3) := by decide +kernel
theorem dX8_high_6 : decode cX8_high 6 = .ok (.istore_n 3, 1) := by decide +kernel
theorem dX8_high_7 : decode cX8_high 7 = .ok (.iload_n 3, 1) := by decide +kernel
theorem dX8_high_8 : decode cX8_high 8 = .ok (.ifCond .eq 7, 3) := by decide +kernel
theorem dX8_high_11 : decode cX8_high 11 = .ok (.iload_n 3, 1) := by decide +kernel
theorem dX8_high_12 : decode cX8_high 12 = .ok (.goto 12, 3) := by decide +kernel
theorem dX8_high_15 : decode cX8_high 15 = .ok (.aload_n 0, 1) := by decide +kernel
theorem dX8_high_16 : decode cX8_high 16 = .ok (.iload_n 1, 1) := by decide +kernel
theorem dX8_high_17 : decode cX8_high 17 = .ok (.iload_n 2, 1) := by decide +kernel
theorem dX8_high_18 : decode cX8_high 18 = .ok (.invokevirtual 292, 3) := by decide +kernel
theorem dX8_high_21 : decode cX8_high 21 = .ok (.invokestatic 236, 3) := by decide +kernel
theorem dX8_high_24 : decode cX8_high 24 = .ok (.ireturn, 1) := by decide +kernel
theorem dX8_highestBit_0 : decode cX8_highestBit 0 = .ok (.iload_n 0, 1) := by decide +kernel
theorem dX8_highestBit_1 : decode cX8_highestBit 1 = .ok (.ifCond .ne 7, 3) := by decide +kernel
theorem dX8_highestBit_4 : decode cX8_highestBit 4 = .ok (.iconst (-1), 1) := by decide +kernel
theorem dX8_highestBit_5 : decode cX8_highestBit 5 = .ok (.goto 10, 3) := by decide +kernel
theorem dX8_highestBit_8 : decode cX8_highestBit 8 = .ok (.bipush 31, 2) := by decide +kernel
theorem dX8_highestBit_10 : decode cX8_highestBit 10 = .ok (.iload_n 0, 1) := by decide +kernel
theorem dX8_highestBit_11 : decode cX8_highestBit 11 = .ok (.invokestatic 392, 3) := by decide +kernel
theorem dX8_highestBit_14 : decode cX8_highestBit 14 = .ok (.isub, 1) := by decide +kernel
theorem dX8_highestBit_15 : decode cX8_highestBit 15 = .ok (.ireturn, 1) := by decide +kernel
theorem dX8_image_0 : decode cX8_image 0 = .ok (.iload_n 1, 1) := by decide +kernel
theorem dX8_image_1 : decode cX8_image 1 = .ok (.ifCond .lt 12, 3) := by decide +kernel
theorem dX8_image_4 : decode cX8_image 4 = .ok (.iload_n 1, 1) := by decide +kernel
theorem dX8_image_5 : decode cX8_image 5 = .ok (.aload_n 0, 1) := by decide +kernel
theorem dX8_image_6 : decode cX8_image 6 = .ok (.getfield 40, 3) := by decide +kernel
theorem dX8_image_9 : decode cX8_image 9 = .ok (.arraylength, 1) := by decide +kernel
theorem dX8_image_10 : decode cX8_image 10 = .ok (.if_icmp .lt 6, 3) := by decide +kernel
theorem dX8_image_13 : decode cX8_image 13 = .ok (.bipush (-2), 2) := by decide +kernel
theorem dX8_image_15 : decode cX8_image 15 = .ok (.ireturn, 1) := by decide +kernel
theorem dX8_image_16 : decode cX8_image 16 = .ok (.aload_n 0, 1) := by decide +kernel
theorem dX8_image_17 : decode cX8_image 17 = .ok (.getfield 40, 3) := by decide +kernel
theorem dX8_image_20 : decode cX8_image 20 = .ok (.iload_n 1, 1) := by decide +kernel
theorem dX8_image_21 : decode cX8_image 21 = .ok (.aaload, 1) := by decide +kernel
theorem dX8_image_22 : decode cX8_image 22 = .ok (.astore_n 2, 1) := by decide +kernel
theorem dX8_image_23 : decode cX8_image 23 = .ok (.aload_n 2, 1) := by decide +kernel
theorem dX8_image_24 : decode cX8_image 24 = .ok (.ifnonnull 18, 3) := by decide +kernel
theorem dX8_image_27 : decode cX8_image 27 = .ok (.new 30, 3) := by decide +kernel
theorem dX8_image_30 : decode cX8_image 30 = .ok (.dup, 1) := by decide +kernel
theorem dX8_image_31 : decode cX8_image 31 = .ok (.invokespecial 32, 3) := by decide +kernel
theorem dX8_image_34 : decode cX8_image 34 = .ok (.astore_n 2, 1) := by decide +kernel
theorem dX8_image_35 : decode cX8_image 35 = .ok (.aload_n 0, 1) := by decide +kernel
theorem dX8_image_36 : decode cX8_image 36 = .ok (.getfield 40, 3) := by decide +kernel
theorem dX8_image_39 : decode cX8_image 39 = .ok (.iload_n 1, 1) := by decide +kernel
theorem dX8_image_40 : decode cX8_image 40 = .ok (.aload_n 2, 1) := by decide +kernel
theorem dX8_image_41 : decode cX8_image 41 = .ok (.aastore, 1) := by decide +kernel
theorem dX8_image_42 : decode cX8_image 42 = .ok (.aload_n 2, 1) := by decide +kernel
theorem dX8_image_43 : decode cX8_image 43 = .ok (.aload_n 0, 1) := by decide +kernel
theorem dX8_image_44 : decode cX8_image 44 = .ok (.getfield 33, 3) := by decide +kernel
theorem dX8_image_47 : decode cX8_image 47 = .ok (.invokevirtual 114, 3) := by decide +kernel
theorem dX8_image_50 : decode cX8_image 50 = .ok (.iconst 0, 1) := by decide +kernel
theorem dX8_image_51 : decode cX8_image 51 = .ok (.ireturn, 1) := by decide +kernel
theorem dX8_init_0 : decode cX8_init 0 = .ok (.aload_n 0, 1) := by decide +kernel
theorem dX8_init_1 : decode cX8_init 1 = .ok (.invokespecial 1, 3) := by decide +kernel
theorem dX8_init_4 : decode cX8_init 4 = .ok (.aload_n 0, 1) := by decide +kernel
theorem dX8_init_5 : decode cX8_init 5 = .ok (.new 7, 3) := by decide +kernel
theorem dX8_init_8 : decode cX8_init 8 = .ok (.dup, 1) := by decide +kernel
theorem dX8_init_9 : decode cX8_init 9 = .ok (.invokespecial 9, 3) := by decide +kernel
theorem dX8_init_12 : decode cX8_init 12 = .ok (.putfield 10, 3) := by decide +kernel
theorem dX8_init_15 : decode cX8_init 15 = .ok (.aload_n 0, 1) := by decide +kernel
theorem dX8_init_16 : decode cX8_init 16 = .ok (.new 16, 3) := by decide +kernel
theorem dX8_init_19 : decode cX8_init 19 = .ok (.dup, 1) := by decide +kernel
theorem dX8_init_20 : decode cX8_init 20 = .ok (.invokespecial 18, 3) := by decide +kernel
theorem dX8_init_23 : decode cX8_init 23 = .ok (.putfield 19, 3) := by decide +kernel
theorem dX8_init_26 : decode cX8_init 26 = .ok (.aload_n 0, 1) := by decide +kernel
theorem dX8_init_27 : decode cX8_init 27 = .ok (.new 23, 3) := by decide +kernel
theorem dX8_init_30 : decode cX8_init 30 = .ok (.dup, 1) := by decide +kernel
theorem dX8_init_31 : decode cX8_init 31 = .ok (.invokespecial 25, 3) := by decide +kernel
theorem dX8_init_34 : decode cX8_init 34 = .ok (.putfield 26, 3) := by decide +kernel
theorem dX8_init_37 : decode cX8_init 37 = .ok (.aload_n 0, 1) := by decide +kernel
theorem dX8_init_38 : decode cX8_init 38 = .ok (.new 30, 3) := by decide +kernel
theorem dX8_init_41 : decode cX8_init 41 = .ok (.dup, 1) := by decide +kernel
theorem dX8_init_42 : decode cX8_init 42 = .ok (.invokespecial 32, 3) := by decide +kernel
theorem dX8_init_45 : decode cX8_init 45 = .ok (.putfield 33, 3) := by decide +kernel
theorem dX8_init_48 : decode cX8_init 48 = .ok (.aload_n 0, 1) := by decide +kernel
theorem dX8_init_49 : decode cX8_init 49 = .ok (.new 30, 3) := by decide +kernel
theorem dX8_init_52 : decode cX8_init 52 = .ok (.dup, 1) := by decide +kernel
theorem dX8_init_53 : decode cX8_init 53 = .ok (.invokespecial 32, 3) := by decide +kernel
theorem dX8_init_56 : decode cX8_init 56 = .ok (.putfield 37, 3) := by decide +kernel
theorem dX8_init_59 : decode cX8_init 59 = .ok (.aload_n 0, 1) := by decide +kernel
theorem dX8_init_60 : decode cX8_init 60 = .ok (.iconst 3, 1) := by decide +kernel
theorem dX8_init_61 : decode cX8_init 61 = .ok (.anewarray 30, 3) := by decide +kernel
theorem dX8_init_64 : decode cX8_init 64 = .ok (.putfield 40, 3) := by decide +kernel
theorem dX8_init_67 : decode cX8_init 67 = .ok (.aload_n 0, 1) := by decide +kernel
theorem dX8_init_68 : decode cX8_init 68 = .ok (.new 44, 3) := by decide +kernel
theorem dX8_init_71 : decode cX8_init 71 = .ok (.dup, 1) := by decide +kernel
theorem dX8_init_72 : decode cX8_init 72 = .ok (.invokespecial 46, 3) := by decide +kernel
theorem dX8_init_75 : decode cX8_init 75 = .ok (.putfield 47, 3) := by decide +kernel
theorem dX8_init_78 : decode cX8_init 78 = .ok (.aload_n 0, 1) := by decide +kernel
theorem dX8_init_79 : decode cX8_init 79 = .ok (.new 51, 3) := by decide +kernel
theorem dX8_init_82 : decode cX8_init 82 = .ok (.dup, 1) := by decide +kernel
theorem dX8_init_83 : decode cX8_init 83 = .ok (.invokespecial 53, 3) := by decide +kernel
theorem dX8_init_86 : decode cX8_init 86 = .ok (.putfield 54, 3) := by decide +kernel
theorem dX8_init_89 : decode cX8_init 89 = .ok (.aload_n 0, 1) := by decide +kernel
theorem dX8_init_90 : decode cX8_init 90 = .ok (.new 58, 3) := by decide +kernel
theorem dX8_init_93 : decode cX8_init 93 = .ok (.dup, 1) := by decide +kernel
theorem dX8_init_94 : decode cX8_init 94 = .ok (.invokespecial 60, 3) := by decide +kernel
theorem dX8_init_97 : decode cX8_init 97 = .ok (.putfield 61, 3) := by decide +kernel
theorem dX8_init_100 : decode cX8_init 100 = .ok (.aload_n 0, 1) := by decide +kernel
theorem dX8_init_101 : decode cX8_init 101 = .ok (.new 65, 3) := by decide +kernel
theorem dX8_init_104 : decode cX8_init 104 = .ok (.dup, 1) := by decide +kernel
theorem dX8_init_105 : decode cX8_init 105 = .ok (.invokespecial 67, 3) := by decide +kernel
theorem dX8_init_108 : decode cX8_init 108 = .ok (.putfield 68, 3) := by decide +kernel
theorem dX8_init_111 : decode cX8_init 111 = .ok (.aload_n 0, 1) := by decide +kernel
theorem dX8_init_112 : decode cX8_init 112 = .ok (.bipush 14, 2) := by decide +kernel
theorem dX8_init_114 : decode cX8_init 114 = .ok (.newarray .int, 2) := by decide +kernel
theorem dX8_init_116 : decode cX8_init 116 = .ok (.putfield 72, 3) := by decide +kernel
theorem dX8_init_119 : decode cX8_init 119 = .ok (.aload_n 0, 1) := by decide +kernel
theorem dX8_init_120 : decode cX8_init 120 = .ok (.bipush 32, 2) := by decide +kernel
theorem dX8_init_122 : decode cX8_init 122 = .ok (.newarray .int, 2) := by decide +kernel
theorem dX8_init_124 : decode cX8_init 124 = .ok (.putfield 76, 3) := by decide +kernel
theorem dX8_init_127 : decode cX8_init 127 = .ok (.aload_n 0, 1) := by decide +kernel
theorem dX8_init_128 : decode cX8_init 128 = .ok (.bipush 31, 2) := by decide +kernel
theorem dX8_init_130 : decode cX8_init 130 = .ok (.newarray .long, 2) := by decide +kernel
theorem dX8_init_132 : decode cX8_init 132 = .ok (.putfield 79, 3) := by decide +kernel
theorem dX8_init_135 : decode cX8_init 135 = .ok (.aload_n 0, 1) := by decide +kernel
theorem dX8_init_136 : decode cX8_init 136 = .ok (.bipush 31, 2) := by decide +kernel
theorem dX8_init_138 : decode cX8_init 138 = .ok (.newarray .long, 2) := by decide +kernel
theorem dX8_init_140 : decode cX8_init 140 = .ok (.putfield 83, 3) := by decide +kernel
theorem dX8_init_143 : decode cX8_init 143 = .ok (.aload_n 0, 1) := by decide +kernel
theorem dX8_init_144 : decode cX8_init 144 = .ok (.iconst 0, 1) := by decide +kernel
theorem dX8_init_145 : decode cX8_init 145 = .ok (.putfield 86, 3) := by decide +kernel
theorem dX8_init_148 : decode cX8_init 148 = .ok (.aload_n 0, 1) := by decide +kernel
theorem dX8_init_149 : decode cX8_init 149 = .ok (.iconst (-1), 1) := by decide +kernel
theorem dX8_init_150 : decode cX8_init 150 = .ok (.putfield 90, 3) := by decide +kernel
theorem dX8_init_153 : decode cX8_init 153 = .ok (.return_, 1) := by decide +kernel
theorem dX8_isAsSeen_0 : decode cX8_isAsSeen 0 = .ok (.aload_n 0, 1) := by decide +kernel
theorem dX8_isAsSeen_1 : decode cX8_isAsSeen 1 = .ok (.getfield 47, 3) := by decide +kernel
theorem dX8_isAsSeen_4 : decode cX8_isAsSeen 4 = .ok (.getfield 373, 3) := by decide +kernel
theorem dX8_isAsSeen_7 : decode cX8_isAsSeen 7 = .ok (.iload_n 1, 1) := by decide +kernel
theorem dX8_isAsSeen_8 : decode cX8_isAsSeen 8 = .ok (.iaload, 1) := by decide +kernel
theorem dX8_isAsSeen_9 : decode cX8_isAsSeen 9 = .ok (.istore_n 2, 1) := by decide +kernel
theorem dX8_isAsSeen_10 : decode cX8_isAsSeen 10 = .ok (.iconst 0, 1) := by decide +kernel
theorem dX8_isAsSeen_11 : decode cX8_isAsSeen 11 = .ok (.istore_n 3, 1) := by decide +kernel
theorem dX8_isAsSeen_12 : decode cX8_isAsSeen 12 = .ok (.iload_n 3, 1) := by decide +kernel
theorem dX8_isAsSeen_13 : decode cX8_isAsSeen 13 = .ok (.iconst 2, 1) := by decide +kernel
theorem dX8_isAsSeen_14 : decode cX8_isAsSeen 14 = .ok (.iadd, 1) := by decide +kernel
theorem dX8_isAsSeen_15 : decode cX8_isAsSeen 15 = .ok (.iload_n 2, 1) := by decide +kernel
theorem dX8_isAsSeen_16 : decode cX8_isAsSeen 16 = .ok (.if_icmp .ge 91, 3) := by decide +kernel
theorem dX8_isAsSeen_19 : decode cX8_isAsSeen 19 = .ok (.aload_n 0, 1) := by decide +kernel
theorem dX8_isAsSeen_20 : decode cX8_isAsSeen 20 = .ok (.getfield 61, 3) := by decide +kernel
theorem dX8_isAsSeen_23 : decode cX8_isAsSeen 23 = .ok (.aload_n 0, 1) := by decide +kernel
theorem dX8_isAsSeen_24 : decode cX8_isAsSeen 24 = .ok (.getfield 33, 3) := by decide +kernel
theorem dX8_isAsSeen_27 : decode cX8_isAsSeen 27 = .ok (.aload_n 0, 1) := by decide +kernel
theorem dX8_isAsSeen_28 : decode cX8_isAsSeen 28 = .ok (.getfield 54, 3) := by decide +kernel
theorem dX8_isAsSeen_31 : decode cX8_isAsSeen 31 = .ok (.aload_n 0, 1) := by decide +kernel
theorem dX8_isAsSeen_32 : decode cX8_isAsSeen 32 = .ok (.getfield 47, 3) := by decide +kernel
theorem dX8_isAsSeen_35 : decode cX8_isAsSeen 35 = .ok (.iload_n 1, 1) := by decide +kernel
theorem dX8_isAsSeen_36 : decode cX8_isAsSeen 36 = .ok (.iload_n 3, 1) := by decide +kernel
theorem dX8_isAsSeen_37 : decode cX8_isAsSeen 37 = .ok (.invokevirtual 417, 3) := by decide +kernel
theorem dX8_isAsSeen_40 : decode cX8_isAsSeen 40 = .ok (.l2i, 1) := by decide +kernel
theorem dX8_isAsSeen_41 : decode cX8_isAsSeen 41 = .ok (.invokevirtual 281, 3) := by decide +kernel
theorem dX8_isAsSeen_44 : decode cX8_isAsSeen 44 = .ok (.aload_n 0, 1) := by decide +kernel
theorem dX8_isAsSeen_45 : decode cX8_isAsSeen 45 = .ok (.getfield 61, 3) := by decide +kernel
theorem dX8_isAsSeen_48 : decode cX8_isAsSeen 48 = .ok (.aload_n 0, 1) := by decide +kernel
theorem dX8_isAsSeen_49 : decode cX8_isAsSeen 49 = .ok (.getfield 68, 3) := by decide +kernel
theorem dX8_isAsSeen_52 : decode cX8_isAsSeen 52 = .ok (.invokevirtual 167, 3) := by decide +kernel
theorem dX8_isAsSeen_55 : decode cX8_isAsSeen 55 = .ok (.aload_n 0, 1) := by decide +kernel
theorem dX8_isAsSeen_56 : decode cX8_isAsSeen 56 = .ok (.getfield 68, 3) := by decide +kernel
theorem dX8_isAsSeen_59 : decode cX8_isAsSeen 59 = .ok (.getfield 420, 3) := by decide +kernel
theorem dX8_isAsSeen_62 : decode cX8_isAsSeen 62 = .ok (.aload_n 0, 1) := by decide +kernel
theorem dX8_isAsSeen_63 : decode cX8_isAsSeen 63 = .ok (.getfield 47, 3) := by decide +kernel
theorem dX8_isAsSeen_66 : decode cX8_isAsSeen 66 = .ok (.iload_n 1, 1) := by decide +kernel
theorem dX8_isAsSeen_67 : decode cX8_isAsSeen 67 = .ok (.iload_n 3, 1) := by decide +kernel
theorem dX8_isAsSeen_68 : decode cX8_isAsSeen 68 = .ok (.iconst 1, 1) := by decide +kernel
theorem dX8_isAsSeen_69 : decode cX8_isAsSeen 69 = .ok (.iadd, 1) := by decide +kernel
theorem dX8_isAsSeen_70 : decode cX8_isAsSeen 70 = .ok (.invokevirtual 417, 3) := by decide +kernel
theorem dX8_isAsSeen_73 : decode cX8_isAsSeen 73 = .ok (.lcmp, 1) := by decide +kernel
theorem dX8_isAsSeen_74 : decode cX8_isAsSeen 74 = .ok (.ifCond .ne 25, 3) := by decide +kernel
theorem dX8_isAsSeen_77 : decode cX8_isAsSeen 77 = .ok (.aload_n 0, 1) := by decide +kernel
theorem dX8_isAsSeen_78 : decode cX8_isAsSeen 78 = .ok (.getfield 68, 3) := by decide +kernel
theorem dX8_isAsSeen_81 : decode cX8_isAsSeen 81 = .ok (.getfield 423, 3) := by decide +kernel
theorem dX8_isAsSeen_84 : decode cX8_isAsSeen 84 = .ok (.aload_n 0, 1) := by decide +kernel
theorem dX8_isAsSeen_85 : decode cX8_isAsSeen 85 = .ok (.getfield 47, 3) := by decide +kernel
theorem dX8_isAsSeen_88 : decode cX8_isAsSeen 88 = .ok (.iload_n 1, 1) := by decide +kernel
theorem dX8_isAsSeen_89 : decode cX8_isAsSeen 89 = .ok (.iload_n 3, 1) := by decide +kernel
theorem dX8_isAsSeen_90 : decode cX8_isAsSeen 90 = .ok (.iconst 2, 1) := by decide +kernel
theorem dX8_isAsSeen_91 : decode cX8_isAsSeen 91 = .ok (.iadd, 1) := by decide +kernel
theorem dX8_isAsSeen_92 : decode cX8_isAsSeen 92 = .ok (.invokevirtual 417, 3) := by decide +kernel
theorem dX8_isAsSeen_95 : decode cX8_isAsSeen 95 = .ok (.lcmp, 1) := by decide +kernel
theorem dX8_isAsSeen_96 : decode cX8_isAsSeen 96 = .ok (.ifCond .eq 5, 3) := by decide +kernel
theorem dX8_isAsSeen_99 : decode cX8_isAsSeen 99 = .ok (.iconst 0, 1) := by decide +kernel
theorem dX8_isAsSeen_100 : decode cX8_isAsSeen 100 = .ok (.ireturn, 1) := by decide +kernel
theorem dX8_isAsSeen_101 : decode cX8_isAsSeen 101 = .ok (.iinc 3 3, 3) := by decide +kernel
theorem dX8_isAsSeen_104 : decode cX8_isAsSeen 104 = .ok (.goto (-92), 3) := by decide +kernel
theorem dX8_isAsSeen_107 : decode cX8_isAsSeen 107 = .ok (.iconst 1, 1) := by decide +kernel
theorem dX8_isAsSeen_108 : decode cX8_isAsSeen 108 = .ok (.ireturn, 1) := by decide +kernel
theorem dX8_isChanceDay_0 : decode cX8_isChanceDay 0 = .ok (.aload_n 0, 1) := by decide +kernel
theorem dX8_isChanceDay_1 : decode cX8_isChanceDay 1 = .ok (.iload_n 1, 1) := by decide +kernel
theorem dX8_isChanceDay_2 : decode cX8_isChanceDay 2 = .ok (.invokevirtual 145, 3) := by decide +kernel
theorem dX8_isChanceDay_5 : decode cX8_isChanceDay 5 = .ok (.ifCond .eq 13, 3) := by decide +kernel
theorem dX8_isChanceDay_8 : decode cX8_isChanceDay 8 = .ok (.iload_n 1, 1) := by decide +kernel
theorem dX8_isChanceDay_9 : decode cX8_isChanceDay 9 = .ok (.bipush 7, 2) := by decide +kernel
theorem dX8_isChanceDay_11 : decode cX8_isChanceDay 11 = .ok (.if_icmp .gt 7, 3) := by decide +kernel
theorem dX8_isChanceDay_14 : decode cX8_isChanceDay 14 = .ok (.iconst 1, 1) := by decide +kernel
theorem dX8_isChanceDay_15 : decode cX8_isChanceDay 15 = .ok (.goto 4, 3) := by decide +kernel
theorem dX8_isChanceDay_18 : decode cX8_isChanceDay 18 = .ok (.iconst 0, 1) := by decide +kernel
theorem dX8_isChanceDay_19 : decode cX8_isChanceDay 19 = .ok (.ireturn, 1) := by decide +kernel
theorem dX8_isDay_0 : decode cX8_isDay 0 = .ok (.aload_n 0, 1) := by decide +kernel
theorem dX8_isDay_1 : decode cX8_isDay 1 = .ok (.invokevirtual 134, 3) := by decide +kernel
theorem dX8_isDay_4 : decode cX8_isDay 4 = .ok (.ifCond .eq 22, 3) := by decide +kernel
theorem dX8_isDay_7 : decode cX8_isDay 7 = .ok (.iload_n 1, 1) := by decide +kernel
theorem dX8_isDay_8 : decode cX8_isDay 8 = .ok (.ifCond .lt 18, 3) := by decide +kernel
theorem dX8_isDay_11 : decode cX8_isDay 11 = .ok (.iload_n 1, 1) := by decide +kernel
theorem dX8_isDay_12 : decode cX8_isDay 12 = .ok (.aload_n 0, 1) := by decide +kernel
theorem dX8_isDay_13 : decode cX8_isDay 13 = .ok (.getfield 33, 3) := by decide +kernel
theorem dX8_isDay_16 : decode cX8_isDay 16 = .ok (.getfield 242, 3) := by decide +kernel
theorem dX8_isDay_19 : decode cX8_isDay 19 = .ok (.if_icmp .gt 7, 3) := by decide +kernel
theorem dX8_isDay_22 : decode cX8_isDay 22 = .ok (.iconst 1, 1) := by decide +kernel
theorem dX8_isDay_23 : decode cX8_isDay 23 = .ok (.goto 4, 3) := by decide +kernel
theorem dX8_isDay_26 : decode cX8_isDay 26 = .ok (.iconst 0, 1) := by decide +kernel
theorem dX8_isDay_27 : decode cX8_isDay 27 = .ok (.ireturn, 1) := by decide +kernel
theorem dX8_isPart_0 : decode cX8_isPart 0 = .ok (.iload_n 0, 1) := by decide +kernel
theorem dX8_isPart_1 : decode cX8_isPart 1 = .ok (.ifCond .eq 8, 3) := by decide +kernel
theorem dX8_isPart_4 : decode cX8_isPart 4 = .ok (.iload_n 0, 1) := by decide +kernel
theorem dX8_isPart_5 : decode cX8_isPart 5 = .ok (.iconst 1, 1) := by decide +kernel
theorem dX8_isPart_6 : decode cX8_isPart 6 = .ok (.if_icmp .ne 7, 3) := by decide +kernel
theorem dX8_isPart_9 : decode cX8_isPart 9 = .ok (.iconst 1, 1) := by decide +kernel
theorem dX8_isPart_10 : decode cX8_isPart 10 = .ok (.goto 4, 3) := by decide +kernel
theorem dX8_isPart_13 : decode cX8_isPart 13 = .ok (.iconst 0, 1) := by decide +kernel
theorem dX8_isPart_14 : decode cX8_isPart 14 = .ok (.ireturn, 1) := by decide +kernel
theorem dX8_isPole_0 : decode cX8_isPole 0 = .ok (.iload_n 1, 1) := by decide +kernel
theorem dX8_isPole_1 : decode cX8_isPole 1 = .ok (.ifCond .lt 18, 3) := by decide +kernel
theorem dX8_isPole_4 : decode cX8_isPole 4 = .ok (.iload_n 1, 1) := by decide +kernel
theorem dX8_isPole_5 : decode cX8_isPole 5 = .ok (.aload_n 0, 1) := by decide +kernel
theorem dX8_isPole_6 : decode cX8_isPole 6 = .ok (.getfield 33, 3) := by decide +kernel
theorem dX8_isPole_9 : decode cX8_isPole 9 = .ok (.getfield 210, 3) := by decide +kernel
theorem dX8_isPole_12 : decode cX8_isPole 12 = .ok (.if_icmp .ge 7, 3) := by decide +kernel
theorem dX8_isPole_15 : decode cX8_isPole 15 = .ok (.iconst 1, 1) := by decide +kernel
theorem dX8_isPole_16 : decode cX8_isPole 16 = .ok (.goto 4, 3) := by decide +kernel
theorem dX8_isPole_19 : decode cX8_isPole 19 = .ok (.iconst 0, 1) := by decide +kernel
theorem dX8_isPole_20 : decode cX8_isPole 20 = .ok (.ireturn, 1) := by decide +kernel
theorem dX8_isSeed_0 : decode cX8_isSeed 0 = .ok (.iload_n 0, 1) := by decide +kernel
theorem dX8_isSeed_1 : decode cX8_isSeed 1 = .ok (.ifCond .lt 14, 3) := by decide +kernel
theorem dX8_isSeed_4 : decode cX8_isSeed 4 = .ok (.iload_n 0, 1) := by decide +kernel
theorem dX8_isSeed_5 : decode cX8_isSeed 5 = .ok (.ldc_w 391, 3) := by decide +kernel
theorem dX8_isSeed_8 : decode cX8_isSeed 8 = .ok (.if_icmp .gt 7, 3) := by decide +kernel
theorem dX8_isSeed_11 : decode cX8_isSeed 11 = .ok (.iconst 1, 1) := by decide +kernel
theorem dX8_isSeed_12 : decode cX8_isSeed 12 = .ok (.goto 4, 3) := by decide +kernel
theorem dX8_isSeed_15 : decode cX8_isSeed 15 = .ok (.iconst 0, 1) := by decide +kernel
theorem dX8_isSeed_16 : decode cX8_isSeed 16 = .ok (.ireturn, 1) := by decide +kernel
theorem dX8_isSlot_0 : decode cX8_isSlot 0 = .ok (.iload_n 0, 1) := by decide +kernel
theorem dX8_isSlot_1 : decode cX8_isSlot 1 = .ok (.ifCond .lt 12, 3) := by decide +kernel
theorem dX8_isSlot_4 : decode cX8_isSlot 4 = .ok (.iload_n 0, 1) := by decide +kernel
theorem dX8_isSlot_5 : decode cX8_isSlot 5 = .ok (.iconst 4, 1) := by decide +kernel
theorem dX8_isSlot_6 : decode cX8_isSlot 6 = .ok (.if_icmp .ge 7, 3) := by decide +kernel
theorem dX8_isSlot_9 : decode cX8_isSlot 9 = .ok (.iconst 1, 1) := by decide +kernel
theorem dX8_isSlot_10 : decode cX8_isSlot 10 = .ok (.goto 4, 3) := by decide +kernel
theorem dX8_isSlot_13 : decode cX8_isSlot 13 = .ok (.iconst 0, 1) := by decide +kernel
theorem dX8_isSlot_14 : decode cX8_isSlot 14 = .ok (.ireturn, 1) := by decide +kernel
theorem dX8_isStation_0 : decode cX8_isStation 0 = .ok (.aload_n 0, 1) := by decide +kernel
theorem dX8_isStation_1 : decode cX8_isStation 1 = .ok (.iload_n 1, 1) := by decide +kernel
theorem dX8_isStation_2 : decode cX8_isStation 2 = .ok (.invokevirtual 121, 3) := by decide +kernel
theorem dX8_isStation_5 : decode cX8_isStation 5 = .ok (.ifCond .eq 20, 3) := by decide +kernel
theorem dX8_isStation_8 : decode cX8_isStation 8 = .ok (.aload_n 0, 1) := by decide +kernel
theorem dX8_isStation_9 : decode cX8_isStation 9 = .ok (.getfield 33, 3) := by decide +kernel
theorem dX8_isStation_12 : decode cX8_isStation 12 = .ok (.getfield 131, 3) := by decide +kernel
theorem dX8_isStation_15 : decode cX8_isStation 15 = .ok (.iload_n 1, 1) := by decide +kernel
theorem dX8_isStation_16 : decode cX8_isStation 16 = .ok (.iaload, 1) := by decide +kernel
theorem dX8_isStation_17 : decode cX8_isStation 17 = .ok (.iconst (-1), 1) := by decide +kernel
theorem dX8_isStation_18 : decode cX8_isStation 18 = .ok (.if_icmp .eq 7, 3) := by decide +kernel
theorem dX8_isStation_21 : decode cX8_isStation 21 = .ok (.iconst 1, 1) := by decide +kernel
theorem dX8_isStation_22 : decode cX8_isStation 22 = .ok (.goto 4, 3) := by decide +kernel
theorem dX8_isStation_25 : decode cX8_isStation 25 = .ok (.iconst 0, 1) := by decide +kernel
theorem dX8_isStation_26 : decode cX8_isStation 26 = .ok (.ireturn, 1) := by decide +kernel
theorem dX8_isTold_0 : decode cX8_isTold 0 = .ok (.aload_n 0, 1) := by decide +kernel
theorem dX8_isTold_1 : decode cX8_isTold 1 = .ok (.getfield 33, 3) := by decide +kernel
theorem dX8_isTold_4 : decode cX8_isTold 4 = .ok (.getfield 118, 3) := by decide +kernel
theorem dX8_isTold_7 : decode cX8_isTold 7 = .ok (.ifCond .le 7, 3) := by decide +kernel
theorem dX8_isTold_10 : decode cX8_isTold 10 = .ok (.iconst 1, 1) := by decide +kernel
theorem dX8_isTold_11 : decode cX8_isTold 11 = .ok (.goto 4, 3) := by decide +kernel
theorem dX8_isTold_14 : decode cX8_isTold 14 = .ok (.iconst 0, 1) := by decide +kernel
theorem dX8_isTold_15 : decode cX8_isTold 15 = .ok (.ireturn, 1) := by decide +kernel
theorem dX8_joined_0 : decode cX8_joined 0 = .ok (.aload_n 0, 1) := by decide +kernel
theorem dX8_joined_1 : decode cX8_joined 1 = .ok (.iload_n 1, 1) := by decide +kernel
theorem dX8_joined_2 : decode cX8_joined 2 = .ok (.invokevirtual 145, 3) := by decide +kernel
theorem dX8_joined_5 : decode cX8_joined 5 = .ok (.ifCond .ne 6, 3) := by decide +kernel
theorem dX8_joined_8 : decode cX8_joined 8 = .ok (.bipush (-2), 2) := by decide +kernel
theorem dX8_joined_10 : decode cX8_joined 10 = .ok (.ireturn, 1) := by decide +kernel
theorem dX8_joined_11 : decode cX8_joined 11 = .ok (.aload_n 0, 1) := by decide +kernel
theorem dX8_joined_12 : decode cX8_joined 12 = .ok (.getfield 54, 3) := by decide +kernel
theorem dX8_joined_15 : decode cX8_joined 15 = .ok (.aload_n 0, 1) := by decide +kernel
theorem dX8_joined_16 : decode cX8_joined 16 = .ok (.getfield 33, 3) := by decide +kernel
