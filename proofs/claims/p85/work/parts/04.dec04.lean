theorem dX8_flips_21 : decode cX8_flips 21 = .ok (.ixor, 1) := by decide +kernel
theorem dX8_flips_22 : decode cX8_flips 22 = .ok (.aload_n 0, 1) := by decide +kernel
theorem dX8_flips_23 : decode cX8_flips 23 = .ok (.invokevirtual 216, 3) := by decide +kernel
theorem dX8_flips_26 : decode cX8_flips 26 = .ok (.iand, 1) := by decide +kernel
theorem dX8_flips_27 : decode cX8_flips 27 = .ok (.bipush (-2), 2) := by decide +kernel
theorem dX8_flips_29 : decode cX8_flips 29 = .ok (.iand, 1) := by decide +kernel
theorem dX8_flips_30 : decode cX8_flips 30 = .ok (.invokestatic 227, 3) := by decide +kernel
theorem dX8_flips_33 : decode cX8_flips 33 = .ok (.ireturn, 1) := by decide +kernel
theorem dX8_gainOf_0 : decode cX8_gainOf 0 = .ok (.aload_n 0, 1) := by decide +kernel
theorem dX8_gainOf_1 : decode cX8_gainOf 1 = .ok (.getfield 54, 3) := by decide +kernel
theorem dX8_gainOf_4 : decode cX8_gainOf 4 = .ok (.aload_n 0, 1) := by decide +kernel
theorem dX8_gainOf_5 : decode cX8_gainOf 5 = .ok (.getfield 33, 3) := by decide +kernel
theorem dX8_gainOf_8 : decode cX8_gainOf 8 = .ok (.invokevirtual 148, 3) := by decide +kernel
theorem dX8_gainOf_11 : decode cX8_gainOf 11 = .ok (.aload_n 0, 1) := by decide +kernel
theorem dX8_gainOf_12 : decode cX8_gainOf 12 = .ok (.getfield 54, 3) := by decide +kernel
theorem dX8_gainOf_15 : decode cX8_gainOf 15 = .ok (.iload_n 2, 1) := by decide +kernel
theorem dX8_gainOf_16 : decode cX8_gainOf 16 = .ok (.putfield 409, 3) := by decide +kernel
theorem dX8_gainOf_19 : decode cX8_gainOf 19 = .ok (.aload_n 0, 1) := by decide +kernel
theorem dX8_gainOf_20 : decode cX8_gainOf 20 = .ok (.iload_n 1, 1) := by decide +kernel
theorem dX8_gainOf_21 : decode cX8_gainOf 21 = .ok (.invokevirtual 403, 3) := by decide +kernel
theorem dX8_gainOf_24 : decode cX8_gainOf 24 = .ok (.invokestatic 227, 3) := by decide +kernel
theorem dX8_gainOf_27 : decode cX8_gainOf 27 = .ok (.istore_n 3, 1) := by decide +kernel
theorem dX8_gainOf_28 : decode cX8_gainOf 28 = .ok (.iload_n 2, 1) := by decide +kernel
theorem dX8_gainOf_29 : decode cX8_gainOf 29 = .ok (.iload_n 1, 1) := by decide +kernel
theorem dX8_gainOf_30 : decode cX8_gainOf 30 = .ok (.invokestatic 272, 3) := by decide +kernel
theorem dX8_gainOf_33 : decode cX8_gainOf 33 = .ok (.ifCond .eq 9, 3) := by decide +kernel
theorem dX8_gainOf_36 : decode cX8_gainOf 36 = .ok (.iload_n 3, 1) := by decide +kernel
theorem dX8_gainOf_37 : decode cX8_gainOf 37 = .ok (.iconst 2, 1) := by decide +kernel
theorem dX8_gainOf_38 : decode cX8_gainOf 38 = .ok (.isub, 1) := by decide +kernel
theorem dX8_gainOf_39 : decode cX8_gainOf 39 = .ok (.goto 4, 3) := by decide +kernel
theorem dX8_gainOf_42 : decode cX8_gainOf 42 = .ok (.iload_n 3, 1) := by decide +kernel
theorem dX8_gainOf_43 : decode cX8_gainOf 43 = .ok (.ireturn, 1) := by decide +kernel
theorem dX8_gets_0 : decode cX8_gets 0 = .ok (.aload_n 0, 1) := by decide +kernel
theorem dX8_gets_1 : decode cX8_gets 1 = .ok (.iload_n 1, 1) := by decide +kernel
theorem dX8_gets_2 : decode cX8_gets 2 = .ok (.invokevirtual 121, 3) := by decide +kernel
theorem dX8_gets_5 : decode cX8_gets 5 = .ok (.ifCond .eq 16, 3) := by decide +kernel
theorem dX8_gets_8 : decode cX8_gets 8 = .ok (.aload_n 0, 1) := by decide +kernel
theorem dX8_gets_9 : decode cX8_gets 9 = .ok (.iload_n 2, 1) := by decide +kernel
theorem dX8_gets_10 : decode cX8_gets 10 = .ok (.invokevirtual 121, 3) := by decide +kernel
theorem dX8_gets_13 : decode cX8_gets 13 = .ok (.ifCond .eq 8, 3) := by decide +kernel
theorem dX8_gets_16 : decode cX8_gets 16 = .ok (.iload_n 1, 1) := by decide +kernel
theorem dX8_gets_17 : decode cX8_gets 17 = .ok (.iload_n 2, 1) := by decide +kernel
theorem dX8_gets_18 : decode cX8_gets 18 = .ok (.if_icmp .ne 7, 3) := by decide +kernel
theorem dX8_gets_21 : decode cX8_gets 21 = .ok (.sipush (-1000), 3) := by decide +kernel
theorem dX8_gets_24 : decode cX8_gets 24 = .ok (.ireturn, 1) := by decide +kernel
theorem dX8_gets_25 : decode cX8_gets 25 = .ok (.iload_n 3, 1) := by decide +kernel
theorem dX8_gets_26 : decode cX8_gets 26 = .ok (.invokestatic 159, 3) := by decide +kernel
theorem dX8_gets_29 : decode cX8_gets 29 = .ok (.ifCond .eq 11, 3) := by decide +kernel
theorem dX8_gets_32 : decode cX8_gets 32 = .ok (.iload 4, 2) := by decide +kernel
theorem dX8_gets_34 : decode cX8_gets 34 = .ok (.invokestatic 159, 3) := by decide +kernel
theorem dX8_gets_37 : decode cX8_gets 37 = .ok (.ifCond .ne 7, 3) := by decide +kernel
theorem dX8_gets_40 : decode cX8_gets 40 = .ok (.sipush (-1000), 3) := by decide +kernel
theorem dX8_gets_43 : decode cX8_gets 43 = .ok (.ireturn, 1) := by decide +kernel
theorem dX8_gets_44 : decode cX8_gets 44 = .ok (.aload_n 0, 1) := by decide +kernel
theorem dX8_gets_45 : decode cX8_gets 45 = .ok (.iload_n 1, 1) := by decide +kernel
theorem dX8_gets_46 : decode cX8_gets 46 = .ok (.iload_n 1, 1) := by decide +kernel
theorem dX8_gets_47 : decode cX8_gets 47 = .ok (.iload_n 2, 1) := by decide +kernel
theorem dX8_gets_48 : decode cX8_gets 48 = .ok (.iload_n 3, 1) := by decide +kernel
theorem dX8_gets_49 : decode cX8_gets 49 = .ok (.iload 4, 2) := by decide +kernel
theorem dX8_gets_51 : decode cX8_gets 51 = .ok (.invokestatic 318, 3) := by decide +kernel
theorem dX8_gets_54 : decode cX8_gets 54 = .ok (.invokevirtual 322, 3) := by decide +kernel
theorem dX8_gets_57 : decode cX8_gets 57 = .ok (.ireturn, 1) := by decide +kernel
theorem dX8_grounds_0 : decode cX8_grounds 0 = .ok (.aload_n 0, 1) := by decide +kernel
theorem dX8_grounds_1 : decode cX8_grounds 1 = .ok (.iload_n 1, 1) := by decide +kernel
theorem dX8_grounds_2 : decode cX8_grounds 2 = .ok (.invokevirtual 145, 3) := by decide +kernel
theorem dX8_grounds_5 : decode cX8_grounds 5 = .ok (.ifCond .ne 6, 3) := by decide +kernel
theorem dX8_grounds_8 : decode cX8_grounds 8 = .ok (.bipush (-2), 2) := by decide +kernel
theorem dX8_grounds_10 : decode cX8_grounds 10 = .ok (.ireturn, 1) := by decide +kernel
theorem dX8_grounds_11 : decode cX8_grounds 11 = .ok (.aload_n 0, 1) := by decide +kernel
theorem dX8_grounds_12 : decode cX8_grounds 12 = .ok (.iload_n 1, 1) := by decide +kernel
theorem dX8_grounds_13 : decode cX8_grounds 13 = .ok (.invokevirtual 164, 3) := by decide +kernel
theorem dX8_grounds_16 : decode cX8_grounds 16 = .ok (.iconst 0, 1) := by decide +kernel
theorem dX8_grounds_17 : decode cX8_grounds 17 = .ok (.istore_n 2, 1) := by decide +kernel
theorem dX8_grounds_18 : decode cX8_grounds 18 = .ok (.iconst 0, 1) := by decide +kernel
theorem dX8_grounds_19 : decode cX8_grounds 19 = .ok (.istore_n 3, 1) := by decide +kernel
theorem dX8_grounds_20 : decode cX8_grounds 20 = .ok (.iload_n 3, 1) := by decide +kernel
theorem dX8_grounds_21 : decode cX8_grounds 21 = .ok (.aload_n 0, 1) := by decide +kernel
theorem dX8_grounds_22 : decode cX8_grounds 22 = .ok (.getfield 33, 3) := by decide +kernel
theorem dX8_grounds_25 : decode cX8_grounds 25 = .ok (.getfield 210, 3) := by decide +kernel
theorem dX8_grounds_28 : decode cX8_grounds 28 = .ok (.if_icmp .ge 21, 3) := by decide +kernel
theorem dX8_grounds_31 : decode cX8_grounds 31 = .ok (.iload_n 2, 1) := by decide +kernel
theorem dX8_grounds_32 : decode cX8_grounds 32 = .ok (.aload_n 0, 1) := by decide +kernel
theorem dX8_grounds_33 : decode cX8_grounds 33 = .ok (.getfield 61, 3) := by decide +kernel
theorem dX8_grounds_36 : decode cX8_grounds 36 = .ok (.getfield 199, 3) := by decide +kernel
theorem dX8_grounds_39 : decode cX8_grounds 39 = .ok (.iload_n 3, 1) := by decide +kernel
theorem dX8_grounds_40 : decode cX8_grounds 40 = .ok (.iaload, 1) := by decide +kernel
theorem dX8_grounds_41 : decode cX8_grounds 41 = .ok (.iadd, 1) := by decide +kernel
theorem dX8_grounds_42 : decode cX8_grounds 42 = .ok (.istore_n 2, 1) := by decide +kernel
theorem dX8_grounds_43 : decode cX8_grounds 43 = .ok (.iinc 3 1, 3) := by decide +kernel
theorem dX8_grounds_46 : decode cX8_grounds 46 = .ok (.goto (-26), 3) := by decide +kernel
theorem dX8_grounds_49 : decode cX8_grounds 49 = .ok (.iload_n 2, 1) := by decide +kernel
theorem dX8_grounds_50 : decode cX8_grounds 50 = .ok (.ireturn, 1) := by decide +kernel
theorem dX8_half_0 : decode cX8_half 0 = .ok (.aload_n 0, 1) := by decide +kernel
theorem dX8_half_1 : decode cX8_half 1 = .ok (.iload_n 1, 1) := by decide +kernel
theorem dX8_half_2 : decode cX8_half 2 = .ok (.invokevirtual 145, 3) := by decide +kernel
theorem dX8_half_5 : decode cX8_half 5 = .ok (.ifCond .ne 6, 3) := by decide +kernel
theorem dX8_half_8 : decode cX8_half 8 = .ok (.bipush (-2), 2) := by decide +kernel
theorem dX8_half_10 : decode cX8_half 10 = .ok (.ireturn, 1) := by decide +kernel
theorem dX8_half_11 : decode cX8_half 11 = .ok (.aload_n 0, 1) := by decide +kernel
theorem dX8_half_12 : decode cX8_half 12 = .ok (.iload_n 1, 1) := by decide +kernel
theorem dX8_half_13 : decode cX8_half 13 = .ok (.invokevirtual 164, 3) := by decide +kernel
theorem dX8_half_16 : decode cX8_half 16 = .ok (.iconst 0, 1) := by decide +kernel
theorem dX8_half_17 : decode cX8_half 17 = .ok (.istore_n 2, 1) := by decide +kernel
theorem dX8_half_18 : decode cX8_half 18 = .ok (.iload_n 2, 1) := by decide +kernel
theorem dX8_half_19 : decode cX8_half 19 = .ok (.aload_n 0, 1) := by decide +kernel
theorem dX8_half_20 : decode cX8_half 20 = .ok (.getfield 33, 3) := by decide +kernel
theorem dX8_half_23 : decode cX8_half 23 = .ok (.getfield 210, 3) := by decide +kernel
theorem dX8_half_26 : decode cX8_half 26 = .ok (.if_icmp .ge 35, 3) := by decide +kernel
theorem dX8_half_29 : decode cX8_half 29 = .ok (.ldc2_w 255, 3) := by decide +kernel
theorem dX8_half_32 : decode cX8_half 32 = .ok (.aload_n 0, 1) := by decide +kernel
theorem dX8_half_33 : decode cX8_half 33 = .ok (.getfield 61, 3) := by decide +kernel
theorem dX8_half_36 : decode cX8_half 36 = .ok (.getfield 190, 3) := by decide +kernel
theorem dX8_half_39 : decode cX8_half 39 = .ok (.iload_n 2, 1) := by decide +kernel
theorem dX8_half_40 : decode cX8_half 40 = .ok (.laload, 1) := by decide +kernel
theorem dX8_half_41 : decode cX8_half 41 = .ok (.lmul, 1) := by decide +kernel
theorem dX8_half_42 : decode cX8_half 42 = .ok (.aload_n 0, 1) := by decide +kernel
theorem dX8_half_43 : decode cX8_half 43 = .ok (.getfield 61, 3) := by decide +kernel
theorem dX8_half_46 : decode cX8_half 46 = .ok (.getfield 182, 3) := by decide +kernel
theorem dX8_half_49 : decode cX8_half 49 = .ok (.lcmp, 1) := by decide +kernel
theorem dX8_half_50 : decode cX8_half 50 = .ok (.ifCond .gt 5, 3) := by decide +kernel
theorem dX8_half_53 : decode cX8_half 53 = .ok (.iload_n 2, 1) := by decide +kernel
theorem dX8_half_54 : decode cX8_half 54 = .ok (.ireturn, 1) := by decide +kernel
theorem dX8_half_55 : decode cX8_half 55 = .ok (.iinc 2 1, 3) := by decide +kernel
theorem dX8_half_58 : decode cX8_half 58 = .ok (.goto (-40), 3) := by decide +kernel
theorem dX8_half_61 : decode cX8_half 61 = .ok (.iconst (-1), 1) := by decide +kernel
theorem dX8_half_62 : decode cX8_half 62 = .ok (.ireturn, 1) := by decide +kernel
theorem dX8_hasBit_0 : decode cX8_hasBit 0 = .ok (.iload_n 0, 1) := by decide +kernel
theorem dX8_hasBit_1 : decode cX8_hasBit 1 = .ok (.iload_n 1, 1) := by decide +kernel
theorem dX8_hasBit_2 : decode cX8_hasBit 2 = .ok (.ishr, 1) := by decide +kernel
theorem dX8_hasBit_3 : decode cX8_hasBit 3 = .ok (.iconst 1, 1) := by decide +kernel
theorem dX8_hasBit_4 : decode cX8_hasBit 4 = .ok (.iand, 1) := by decide +kernel
theorem dX8_hasBit_5 : decode cX8_hasBit 5 = .ok (.iconst 1, 1) := by decide +kernel
theorem dX8_hasBit_6 : decode cX8_hasBit 6 = .ok (.if_icmp .ne 7, 3) := by decide +kernel
theorem dX8_hasBit_9 : decode cX8_hasBit 9 = .ok (.iconst 1, 1) := by decide +kernel
theorem dX8_hasBit_10 : decode cX8_hasBit 10 = .ok (.goto 4, 3) := by decide +kernel
theorem dX8_hasBit_13 : decode cX8_hasBit 13 = .ok (.iconst 0, 1) := by decide +kernel
theorem dX8_hasBit_14 : decode cX8_hasBit 14 = .ok (.ireturn, 1) := by decide +kernel
theorem dX8_heardBits_0 : decode cX8_heardBits 0 = .ok (.aload_n 0, 1) := by decide +kernel
theorem dX8_heardBits_1 : decode cX8_heardBits 1 = .ok (.getfield 61, 3) := by decide +kernel
theorem dX8_heardBits_4 : decode cX8_heardBits 4 = .ok (.aload_n 0, 1) := by decide +kernel
theorem dX8_heardBits_5 : decode cX8_heardBits 5 = .ok (.getfield 33, 3) := by decide +kernel
theorem dX8_heardBits_8 : decode cX8_heardBits 8 = .ok (.aload_n 0, 1) := by decide +kernel
theorem dX8_heardBits_9 : decode cX8_heardBits 9 = .ok (.getfield 54, 3) := by decide +kernel
theorem dX8_heardBits_12 : decode cX8_heardBits 12 = .ok (.iload_n 1, 1) := by decide +kernel
theorem dX8_heardBits_13 : decode cX8_heardBits 13 = .ok (.invokevirtual 281, 3) := by decide +kernel
theorem dX8_heardBits_16 : decode cX8_heardBits 16 = .ok (.iconst 0, 1) := by decide +kernel
theorem dX8_heardBits_17 : decode cX8_heardBits 17 = .ok (.istore_n 2, 1) := by decide +kernel
theorem dX8_heardBits_18 : decode cX8_heardBits 18 = .ok (.iconst 0, 1) := by decide +kernel
theorem dX8_heardBits_19 : decode cX8_heardBits 19 = .ok (.istore_n 3, 1) := by decide +kernel
theorem dX8_heardBits_20 : decode cX8_heardBits 20 = .ok (.iload_n 3, 1) := by decide +kernel
theorem dX8_heardBits_21 : decode cX8_heardBits 21 = .ok (.aload_n 0, 1) := by decide +kernel
theorem dX8_heardBits_22 : decode cX8_heardBits 22 = .ok (.getfield 33, 3) := by decide +kernel
theorem dX8_heardBits_25 : decode cX8_heardBits 25 = .ok (.getfield 210, 3) := by decide +kernel
theorem dX8_heardBits_28 : decode cX8_heardBits 28 = .ok (.if_icmp .ge 52, 3) := by decide +kernel
theorem dX8_heardBits_31 : decode cX8_heardBits 31 = .ok (.aload_n 0, 1) := by decide +kernel
theorem dX8_heardBits_32 : decode cX8_heardBits 32 = .ok (.iload_n 3, 1) := by decide +kernel
theorem dX8_heardBits_33 : decode cX8_heardBits 33 = .ok (.invokevirtual 213, 3) := by decide +kernel
theorem dX8_heardBits_36 : decode cX8_heardBits 36 = .ok (.ifCond .eq 38, 3) := by decide +kernel
theorem dX8_heardBits_39 : decode cX8_heardBits 39 = .ok (.aload_n 0, 1) := by decide +kernel
theorem dX8_heardBits_40 : decode cX8_heardBits 40 = .ok (.getfield 61, 3) := by decide +kernel
theorem dX8_heardBits_43 : decode cX8_heardBits 43 = .ok (.iload_n 3, 1) := by decide +kernel
theorem dX8_heardBits_44 : decode cX8_heardBits 44 = .ok (.aload_n 0, 1) := by decide +kernel
theorem dX8_heardBits_45 : decode cX8_heardBits 45 = .ok (.getfield 33, 3) := by decide +kernel
theorem dX8_heardBits_48 : decode cX8_heardBits 48 = .ok (.getfield 175, 3) := by decide +kernel
theorem dX8_heardBits_51 : decode cX8_heardBits 51 = .ok (.i2l, 1) := by decide +kernel
theorem dX8_heardBits_52 : decode cX8_heardBits 52 = .ok (.aload_n 0, 1) := by decide +kernel
theorem dX8_heardBits_53 : decode cX8_heardBits 53 = .ok (.getfield 33, 3) := by decide +kernel
theorem dX8_heardBits_56 : decode cX8_heardBits 56 = .ok (.getfield 131, 3) := by decide +kernel
theorem dX8_heardBits_59 : decode cX8_heardBits 59 = .ok (.iload_n 3, 1) := by decide +kernel
theorem dX8_heardBits_60 : decode cX8_heardBits 60 = .ok (.iaload, 1) := by decide +kernel
theorem dX8_heardBits_61 : decode cX8_heardBits 61 = .ok (.i2l, 1) := by decide +kernel
theorem dX8_heardBits_62 : decode cX8_heardBits 62 = .ok (.invokevirtual 399, 3) := by decide +kernel
theorem dX8_heardBits_65 : decode cX8_heardBits 65 = .ok (.ifCond .eq 9, 3) := by decide +kernel
theorem dX8_heardBits_68 : decode cX8_heardBits 68 = .ok (.iload_n 2, 1) := by decide +kernel
theorem dX8_heardBits_69 : decode cX8_heardBits 69 = .ok (.iconst 1, 1) := by decide +kernel
theorem dX8_heardBits_70 : decode cX8_heardBits 70 = .ok (.iload_n 3, 1) := by decide +kernel
theorem dX8_heardBits_71 : decode cX8_heardBits 71 = .ok (.ishl, 1) := by decide +kernel
theorem dX8_heardBits_72 : decode cX8_heardBits 72 = .ok (.ior, 1) := by decide +kernel
theorem dX8_heardBits_73 : decode cX8_heardBits 73 = .ok (.istore_n 2, 1) := by decide +kernel
theorem dX8_heardBits_74 : decode cX8_heardBits 74 = .ok (.iinc 3 1, 3) := by decide +kernel
theorem dX8_heardBits_77 : decode cX8_heardBits 77 = .ok (.goto (-57), 3) := by decide +kernel
theorem dX8_heardBits_80 : decode cX8_heardBits 80 = .ok (.iload_n 2, 1) := by decide +kernel
theorem dX8_heardBits_81 : decode cX8_heardBits 81 = .ok (.ireturn, 1) := by decide +kernel
theorem dX8_heardByChance_0 : decode cX8_heardByChance 0 = .ok (.aload_n 0, 1) := by decide +kernel
theorem dX8_heardByChance_1 : decode cX8_heardByChance 1 = .ok (.getfield 54, 3) := by decide +kernel
theorem dX8_heardByChance_4 : decode cX8_heardByChance 4 = .ok (.aload_n 0, 1) := by decide +kernel
theorem dX8_heardByChance_5 : decode cX8_heardByChance 5 = .ok (.getfield 33, 3) := by decide +kernel
theorem dX8_heardByChance_8 : decode cX8_heardByChance 8 = .ok (.invokevirtual 148, 3) := by decide +kernel
theorem dX8_heardByChance_11 : decode cX8_heardByChance 11 = .ok (.iload_n 1, 1) := by decide +kernel
theorem dX8_heardByChance_12 : decode cX8_heardByChance 12 = .ok (.iconst 1, 1) := by decide +kernel
theorem dX8_heardByChance_13 : decode cX8_heardByChance 13 = .ok (.iadd, 1) := by decide +kernel
theorem dX8_heardByChance_14 : decode cX8_heardByChance 14 = .ok (.istore_n 3, 1) := by decide +kernel
theorem dX8_heardByChance_15 : decode cX8_heardByChance 15 = .ok (.lconst 0, 1) := by decide +kernel
theorem dX8_heardByChance_16 : decode cX8_heardByChance 16 = .ok (.lstore 4, 2) := by decide +kernel
theorem dX8_heardByChance_18 : decode cX8_heardByChance 18 = .ok (.iconst 0, 1) := by decide +kernel
theorem dX8_heardByChance_19 : decode cX8_heardByChance 19 = .ok (.istore 6, 2) := by decide +kernel
theorem dX8_heardByChance_21 : decode cX8_heardByChance 21 = .ok (.iload 6, 2) := by decide +kernel
theorem dX8_heardByChance_23 : decode cX8_heardByChance 23 = .ok (.iconst 1, 1) := by decide +kernel
theorem dX8_heardByChance_24 : decode cX8_heardByChance 24 = .ok (.iload_n 3, 1) := by decide +kernel
theorem dX8_heardByChance_25 : decode cX8_heardByChance 25 = .ok (.ishl, 1) := by decide +kernel
theorem dX8_heardByChance_26 : decode cX8_heardByChance 26 = .ok (.if_icmp .ge 83, 3) := by decide +kernel
theorem dX8_heardByChance_29 : decode cX8_heardByChance 29 = .ok (.iload 6, 2) := by decide +kernel
theorem dX8_heardByChance_31 : decode cX8_heardByChance 31 = .ok (.invokestatic 227, 3) := by decide +kernel
theorem dX8_heardByChance_34 : decode cX8_heardByChance 34 = .ok (.istore 7, 2) := by decide +kernel
theorem dX8_heardByChance_36 : decode cX8_heardByChance 36 = .ok (.aload_n 0, 1) := by decide +kernel
theorem dX8_heardByChance_37 : decode cX8_heardByChance 37 = .ok (.getfield 33, 3) := by decide +kernel
theorem dX8_heardByChance_40 : decode cX8_heardByChance 40 = .ok (.getfield 355, 3) := by decide +kernel
theorem dX8_heardByChance_43 : decode cX8_heardByChance 43 = .ok (.iload 7, 2) := by decide +kernel
theorem dX8_heardByChance_45 : decode cX8_heardByChance 45 = .ok (.invokestatic 332, 3) := by decide +kernel
theorem dX8_heardByChance_48 : decode cX8_heardByChance 48 = .ok (.bipush 10, 2) := by decide +kernel
theorem dX8_heardByChance_50 : decode cX8_heardByChance 50 = .ok (.aload_n 0, 1) := by decide +kernel
theorem dX8_heardByChance_51 : decode cX8_heardByChance 51 = .ok (.getfield 33, 3) := by decide +kernel
theorem dX8_heardByChance_54 : decode cX8_heardByChance 54 = .ok (.getfield 355, 3) := by decide +kernel
theorem dX8_heardByChance_57 : decode cX8_heardByChance 57 = .ok (.isub, 1) := by decide +kernel
theorem dX8_heardByChance_58 : decode cX8_heardByChance 58 = .ok (.iload_n 3, 1) := by decide +kernel
theorem dX8_heardByChance_59 : decode cX8_heardByChance 59 = .ok (.iload 7, 2) := by decide +kernel
theorem dX8_heardByChance_61 : decode cX8_heardByChance 61 = .ok (.isub, 1) := by decide +kernel
theorem dX8_heardByChance_62 : decode cX8_heardByChance 62 = .ok (.invokestatic 332, 3) := by decide +kernel
theorem dX8_heardByChance_65 : decode cX8_heardByChance 65 = .ok (.lmul, 1) := by decide +kernel
theorem dX8_heardByChance_66 : decode cX8_heardByChance 66 = .ok (.lstore 8, 2) := by decide +kernel
theorem dX8_heardByChance_68 : decode cX8_heardByChance 68 = .ok (.lload 8, 2) := by decide +kernel
theorem dX8_heardByChance_70 : decode cX8_heardByChance 70 = .ok (.lconst 0, 1) := by decide +kernel
theorem dX8_heardByChance_71 : decode cX8_heardByChance 71 = .ok (.lcmp, 1) := by decide +kernel
theorem dX8_heardByChance_72 : decode cX8_heardByChance 72 = .ok (.ifCond .le 31, 3) := by decide +kernel
theorem dX8_heardByChance_75 : decode cX8_heardByChance 75 = .ok (.aload_n 0, 1) := by decide +kernel
theorem dX8_heardByChance_76 : decode cX8_heardByChance 76 = .ok (.getfield 54, 3) := by decide +kernel
theorem dX8_heardByChance_79 : decode cX8_heardByChance 79 = .ok (.iload 6, 2) := by decide +kernel
theorem dX8_heardByChance_81 : decode cX8_heardByChance 81 = .ok (.putfield 248, 3) := by decide +kernel
theorem dX8_heardByChance_84 : decode cX8_heardByChance 84 = .ok (.lload 4, 2) := by decide +kernel
theorem dX8_heardByChance_86 : decode cX8_heardByChance 86 = .ok (.lload 8, 2) := by decide +kernel
theorem dX8_heardByChance_88 : decode cX8_heardByChance 88 = .ok (.aload_n 0, 1) := by decide +kernel
theorem dX8_heardByChance_89 : decode cX8_heardByChance 89 = .ok (.iload_n 1, 1) := by decide +kernel
theorem dX8_heardByChance_90 : decode cX8_heardByChance 90 = .ok (.invokevirtual 207, 3) := by decide +kernel
theorem dX8_heardByChance_93 : decode cX8_heardByChance 93 = .ok (.iload_n 2, 1) := by decide +kernel
theorem dX8_heardByChance_94 : decode cX8_heardByChance 94 = .ok (.iand, 1) := by decide +kernel
theorem dX8_heardByChance_95 : decode cX8_heardByChance 95 = .ok (.invokestatic 227, 3) := by decide +kernel
theorem dX8_heardByChance_98 : decode cX8_heardByChance 98 = .ok (.i2l, 1) := by decide +kernel
theorem dX8_heardByChance_99 : decode cX8_heardByChance 99 = .ok (.lmul, 1) := by decide +kernel
theorem dX8_heardByChance_100 : decode cX8_heardByChance 100 = .ok (.ladd, 1) := by decide +kernel
theorem dX8_heardByChance_101 : decode cX8_heardByChance 101 = .ok (.lstore 4, 2) := by decide +kernel
theorem dX8_heardByChance_103 : decode cX8_heardByChance 103 = .ok (.iinc 6 1, 3) := by decide +kernel
theorem dX8_heardByChance_106 : decode cX8_heardByChance 106 = .ok (.goto (-85), 3) := by decide +kernel
theorem dX8_heardByChance_109 : decode cX8_heardByChance 109 = .ok (.lload 4, 2) := by decide +kernel
theorem dX8_heardByChance_111 : decode cX8_heardByChance 111 = .ok (.lreturn, 1) := by decide +kernel
theorem dX8_heardByDraws_0 : decode cX8_heardByDraws 0 = .ok (.aload_n 0, 1) := by decide +kernel
theorem dX8_heardByDraws_1 : decode cX8_heardByDraws 1 = .ok (.getfield 54, 3) := by decide +kernel
theorem dX8_heardByDraws_4 : decode cX8_heardByDraws 4 = .ok (.aload_n 0, 1) := by decide +kernel
theorem dX8_heardByDraws_5 : decode cX8_heardByDraws 5 = .ok (.getfield 33, 3) := by decide +kernel
theorem dX8_heardByDraws_8 : decode cX8_heardByDraws 8 = .ok (.invokevirtual 148, 3) := by decide +kernel
theorem dX8_heardByDraws_11 : decode cX8_heardByDraws 11 = .ok (.aload_n 0, 1) := by decide +kernel
theorem dX8_heardByDraws_12 : decode cX8_heardByDraws 12 = .ok (.getfield 54, 3) := by decide +kernel
theorem dX8_heardByDraws_15 : decode cX8_heardByDraws 15 = .ok (.aload_n 0, 1) := by decide +kernel
theorem dX8_heardByDraws_16 : decode cX8_heardByDraws 16 = .ok (.iload_n 1, 1) := by decide +kernel
theorem dX8_heardByDraws_17 : decode cX8_heardByDraws 17 = .ok (.invokevirtual 348, 3) := by decide +kernel
theorem dX8_heardByDraws_20 : decode cX8_heardByDraws 20 = .ok (.putfield 248, 3) := by decide +kernel
theorem dX8_heardByDraws_23 : decode cX8_heardByDraws 23 = .ok (.aload_n 0, 1) := by decide +kernel
theorem dX8_heardByDraws_24 : decode cX8_heardByDraws 24 = .ok (.aload_n 0, 1) := by decide +kernel
theorem dX8_heardByDraws_25 : decode cX8_heardByDraws 25 = .ok (.getfield 33, 3) := by decide +kernel
theorem dX8_heardByDraws_28 : decode cX8_heardByDraws 28 = .ok (.getfield 242, 3) := by decide +kernel
theorem dX8_heardByDraws_31 : decode cX8_heardByDraws 31 = .ok (.invokevirtual 207, 3) := by decide +kernel
theorem dX8_heardByDraws_34 : decode cX8_heardByDraws 34 = .ok (.ireturn, 1) := by decide +kernel
theorem dX8_heardByLaw_0 : decode cX8_heardByLaw 0 = .ok (.aload_n 0, 1) := by decide +kernel
theorem dX8_heardByLaw_1 : decode cX8_heardByLaw 1 = .ok (.getfield 54, 3) := by decide +kernel
theorem dX8_heardByLaw_4 : decode cX8_heardByLaw 4 = .ok (.aload_n 0, 1) := by decide +kernel
theorem dX8_heardByLaw_5 : decode cX8_heardByLaw 5 = .ok (.getfield 33, 3) := by decide +kernel
theorem dX8_heardByLaw_8 : decode cX8_heardByLaw 8 = .ok (.invokevirtual 148, 3) := by decide +kernel
theorem dX8_heardByLaw_11 : decode cX8_heardByLaw 11 = .ok (.aload_n 0, 1) := by decide +kernel
theorem dX8_heardByLaw_12 : decode cX8_heardByLaw 12 = .ok (.getfield 54, 3) := by decide +kernel
theorem dX8_heardByLaw_15 : decode cX8_heardByLaw 15 = .ok (.iload_n 1, 1) := by decide +kernel
theorem dX8_heardByLaw_16 : decode cX8_heardByLaw 16 = .ok (.putfield 308, 3) := by decide +kernel
theorem dX8_heardByLaw_19 : decode cX8_heardByLaw 19 = .ok (.aload_n 0, 1) := by decide +kernel
theorem dX8_heardByLaw_20 : decode cX8_heardByLaw 20 = .ok (.invokevirtual 245, 3) := by decide +kernel
theorem dX8_heardByLaw_23 : decode cX8_heardByLaw 23 = .ok (.ireturn, 1) := by decide +kernel
theorem dX8_heardDaysOf_0 : decode cX8_heardDaysOf 0 = .ok (.iconst 0, 1) := by decide +kernel
theorem dX8_heardDaysOf_1 : decode cX8_heardDaysOf 1 = .ok (.istore_n 2, 1) := by decide +kernel
theorem dX8_heardDaysOf_2 : decode cX8_heardDaysOf 2 = .ok (.iconst 0, 1) := by decide +kernel
theorem dX8_heardDaysOf_3 : decode cX8_heardDaysOf 3 = .ok (.istore_n 3, 1) := by decide +kernel
theorem dX8_heardDaysOf_4 : decode cX8_heardDaysOf 4 = .ok (.iload_n 3, 1) := by decide +kernel
theorem dX8_heardDaysOf_5 : decode cX8_heardDaysOf 5 = .ok (.aload_n 0, 1) := by decide +kernel
theorem dX8_heardDaysOf_6 : decode cX8_heardDaysOf 6 = .ok (.getfield 33, 3) := by decide +kernel
theorem dX8_heardDaysOf_9 : decode cX8_heardDaysOf 9 = .ok (.getfield 242, 3) := by decide +kernel
theorem dX8_heardDaysOf_12 : decode cX8_heardDaysOf 12 = .ok (.if_icmp .gt 25, 3) := by decide +kernel
theorem dX8_heardDaysOf_15 : decode cX8_heardDaysOf 15 = .ok (.aload_n 0, 1) := by decide +kernel
theorem dX8_heardDaysOf_16 : decode cX8_heardDaysOf 16 = .ok (.getfield 72, 3) := by decide +kernel
theorem dX8_heardDaysOf_19 : decode cX8_heardDaysOf 19 = .ok (.iload_n 3, 1) := by decide +kernel
theorem dX8_heardDaysOf_20 : decode cX8_heardDaysOf 20 = .ok (.iaload, 1) := by decide +kernel
theorem dX8_heardDaysOf_21 : decode cX8_heardDaysOf 21 = .ok (.iload_n 1, 1) := by decide +kernel
theorem dX8_heardDaysOf_22 : decode cX8_heardDaysOf 22 = .ok (.invokestatic 272, 3) := by decide +kernel
theorem dX8_heardDaysOf_25 : decode cX8_heardDaysOf 25 = .ok (.ifCond .eq 6, 3) := by decide +kernel
theorem dX8_heardDaysOf_28 : decode cX8_heardDaysOf 28 = .ok (.iinc 2 1, 3) := by decide +kernel
theorem dX8_heardDaysOf_31 : decode cX8_heardDaysOf 31 = .ok (.iinc 3 1, 3) := by decide +kernel
theorem dX8_heardDaysOf_34 : decode cX8_heardDaysOf 34 = .ok (.goto (-30), 3) := by decide +kernel
theorem dX8_heardDaysOf_37 : decode cX8_heardDaysOf 37 = .ok (.iload_n 2, 1) := by decide +kernel
theorem dX8_heardDaysOf_38 : decode cX8_heardDaysOf 38 = .ok (.ireturn, 1) := by decide +kernel
theorem dX8_heardInAll_0 : decode cX8_heardInAll 0 = .ok (.iconst 0, 1) := by decide +kernel
theorem dX8_heardInAll_1 : decode cX8_heardInAll 1 = .ok (.istore_n 1, 1) := by decide +kernel
theorem dX8_heardInAll_2 : decode cX8_heardInAll 2 = .ok (.iconst 0, 1) := by decide +kernel
theorem dX8_heardInAll_3 : decode cX8_heardInAll 3 = .ok (.istore_n 2, 1) := by decide +kernel
theorem dX8_heardInAll_4 : decode cX8_heardInAll 4 = .ok (.iload_n 2, 1) := by decide +kernel
theorem dX8_heardInAll_5 : decode cX8_heardInAll 5 = .ok (.aload_n 0, 1) := by decide +kernel
theorem dX8_heardInAll_6 : decode cX8_heardInAll 6 = .ok (.getfield 33, 3) := by decide +kernel
theorem dX8_heardInAll_9 : decode cX8_heardInAll 9 = .ok (.getfield 242, 3) := by decide +kernel
theorem dX8_heardInAll_12 : decode cX8_heardInAll 12 = .ok (.if_icmp .gt 20, 3) := by decide +kernel
theorem dX8_heardInAll_15 : decode cX8_heardInAll 15 = .ok (.iload_n 1, 1) := by decide +kernel
theorem dX8_heardInAll_16 : decode cX8_heardInAll 16 = .ok (.aload_n 0, 1) := by decide +kernel
theorem dX8_heardInAll_17 : decode cX8_heardInAll 17 = .ok (.iload_n 2, 1) := by decide +kernel
theorem dX8_heardInAll_18 : decode cX8_heardInAll 18 = .ok (.invokevirtual 207, 3) := by decide +kernel
theorem dX8_heardInAll_21 : decode cX8_heardInAll 21 = .ok (.invokestatic 227, 3) := by decide +kernel
theorem dX8_heardInAll_24 : decode cX8_heardInAll 24 = .ok (.iadd, 1) := by decide +kernel
theorem dX8_heardInAll_25 : decode cX8_heardInAll 25 = .ok (.istore_n 1, 1) := by decide +kernel
theorem dX8_heardInAll_26 : decode cX8_heardInAll 26 = .ok (.iinc 2 1, 3) := by decide +kernel
theorem dX8_heardInAll_29 : decode cX8_heardInAll 29 = .ok (.goto (-25), 3) := by decide +kernel
theorem dX8_heardInAll_32 : decode cX8_heardInAll 32 = .ok (.iload_n 1, 1) := by decide +kernel
theorem dX8_heardInAll_33 : decode cX8_heardInAll 33 = .ok (.ireturn, 1) := by decide +kernel
theorem dX8_hearingDays_0 : decode cX8_hearingDays 0 = .ok (.aload_n 0, 1) := by decide +kernel
theorem dX8_hearingDays_1 : decode cX8_hearingDays 1 = .ok (.getfield 54, 3) := by decide +kernel
theorem dX8_hearingDays_4 : decode cX8_hearingDays 4 = .ok (.aload_n 0, 1) := by decide +kernel
theorem dX8_hearingDays_5 : decode cX8_hearingDays 5 = .ok (.getfield 33, 3) := by decide +kernel
theorem dX8_hearingDays_8 : decode cX8_hearingDays 8 = .ok (.invokevirtual 148, 3) := by decide +kernel
theorem dX8_hearingDays_11 : decode cX8_hearingDays 11 = .ok (.aload_n 0, 1) := by decide +kernel
theorem dX8_hearingDays_12 : decode cX8_hearingDays 12 = .ok (.iload_n 1, 1) := by decide +kernel
theorem dX8_hearingDays_13 : decode cX8_hearingDays 13 = .ok (.invokevirtual 403, 3) := by decide +kernel
theorem dX8_hearingDays_16 : decode cX8_hearingDays 16 = .ok (.ireturn, 1) := by decide +kernel
theorem dX8_hears_0 : decode cX8_hears 0 = .ok (.aload_n 0, 1) := by decide +kernel
theorem dX8_hears_1 : decode cX8_hears 1 = .ok (.iload_n 1, 1) := by decide +kernel
theorem dX8_hears_2 : decode cX8_hears 2 = .ok (.invokevirtual 145, 3) := by decide +kernel
theorem dX8_hears_5 : decode cX8_hears 5 = .ok (.ifCond .ne 6, 3) := by decide +kernel
theorem dX8_hears_8 : decode cX8_hears 8 = .ok (.bipush (-2), 2) := by decide +kernel
theorem dX8_hears_10 : decode cX8_hears 10 = .ok (.ireturn, 1) := by decide +kernel
theorem dX8_hears_11 : decode cX8_hears 11 = .ok (.aload_n 0, 1) := by decide +kernel
theorem dX8_hears_12 : decode cX8_hears 12 = .ok (.getfield 54, 3) := by decide +kernel
theorem dX8_hears_15 : decode cX8_hears 15 = .ok (.aload_n 0, 1) := by decide +kernel
theorem dX8_hears_16 : decode cX8_hears 16 = .ok (.getfield 33, 3) := by decide +kernel
theorem dX8_hears_19 : decode cX8_hears 19 = .ok (.invokevirtual 148, 3) := by decide +kernel
theorem dX8_hears_22 : decode cX8_hears 22 = .ok (.aload_n 0, 1) := by decide +kernel
theorem dX8_hears_23 : decode cX8_hears 23 = .ok (.iload_n 1, 1) := by decide +kernel
theorem dX8_hears_24 : decode cX8_hears 24 = .ok (.invokevirtual 207, 3) := by decide +kernel
theorem dX8_hears_27 : decode cX8_hears 27 = .ok (.ireturn, 1) := by decide +kernel
theorem dX8_high_0 : decode cX8_high 0 = .ok (.aload_n 0, 1) := by decide +kernel
theorem dX8_high_1 : decode cX8_high 1 = .ok (.iload_n 1, 1) := by decide +kernel
theorem dX8_high_2 : decode cX8_high 2 = .ok (.iload_n 2, 1) := by decide +kernel
theorem dX8_high_3 : decode cX8_high 3 = .ok (.invokevirtual 289, 3) := by decide +kernel
theorem dX8_high_6 : decode cX8_high 6 = .ok (.istore_n 3, 1) := by decide +kernel
theorem dX8_high_7 : decode cX8_high 7 = .ok (.iload_n 3, 1) := by decide +kernel
theorem dX8_high_8 : decode cX8_high 8 = .ok (.ifCond .eq 7, 3) := by decide +kernel
theorem dX8_high_11 : decode cX8_high 11 = .ok (.iload_n 3, 1) := by decide +kernel
theorem dX8_high_12 : decode cX8_high 12 = .ok (.goto 12, 3) := by decide +kernel
theorem dX8_high_15 : decode cX8_high 15 = .ok (.aload_n 0, 1) := by decide +kernel
theorem dX8_high_16 : decode cX8_high 16 = .ok (.iload_n 1, 1) := by decide +kernel
theorem dX8_high_17 : decode cX8_high 17 = .ok (.iload_n 2, 1) := by decide +kernel
theorem dX8_high_18 : decode cX8_high 18 = .ok (.invokevirtual 292, 3) := by decide +kernel
theorem dX8_high_21 : decode cX8_high 21 = .ok (.invokestatic 236, 3) := by decide +kernel
theorem dX8_high_24 : decode cX8_high 24 = .ok (.ireturn, 1) := by decide +kernel
theorem dX8_highestBit_0 : decode cX8_highestBit 0 = .ok (.iload_n 0, 1) := by decide +kernel
theorem dX8_highestBit_1 : decode cX8_highestBit 1 = .ok (.ifCond .ne 7, 3) := by decide +kernel
theorem dX8_highestBit_4 : decode cX8_highestBit 4 = .ok (.iconst (-1), 1) := by decide +kernel
theorem dX8_highestBit_5 : decode cX8_highestBit 5 = .ok (.goto 10, 3) := by decide +kernel
theorem dX8_highestBit_8 : decode cX8_highestBit 8 = .ok (.bipush 31, 2) := by decide +kernel
theorem dX8_highestBit_10 : decode cX8_highestBit 10 = .ok (.iload_n 0, 1) := by decide +kernel
theorem dX8_highestBit_11 : decode cX8_highestBit 11 = .ok (.invokestatic 392, 3) := by decide +kernel
theorem dX8_highestBit_14 : decode cX8_highestBit 14 = .ok (.isub, 1) := by decide +kernel
theorem dX8_highestBit_15 : decode cX8_highestBit 15 = .ok (.ireturn, 1) := by decide +kernel
theorem dX8_isAsSeen_0 : decode cX8_isAsSeen 0 = .ok (.aload_n 0, 1) := by decide +kernel
theorem dX8_isAsSeen_1 : decode cX8_isAsSeen 1 = .ok (.getfield 47, 3) := by decide +kernel
theorem dX8_isAsSeen_4 : decode cX8_isAsSeen 4 = .ok (.getfield 373, 3) := by decide +kernel
theorem dX8_isAsSeen_7 : decode cX8_isAsSeen 7 = .ok (.iload_n 1, 1) := by decide +kernel
theorem dX8_isAsSeen_8 : decode cX8_isAsSeen 8 = .ok (.iaload, 1) := by decide +kernel
theorem dX8_isAsSeen_9 : decode cX8_isAsSeen 9 = .ok (.istore_n 2, 1) := by decide +kernel
theorem dX8_isAsSeen_10 : decode cX8_isAsSeen 10 = .ok (.iconst 0, 1) := by decide +kernel
theorem dX8_isAsSeen_11 : decode cX8_isAsSeen 11 = .ok (.istore_n 3, 1) := by decide +kernel
theorem dX8_isAsSeen_12 : decode cX8_isAsSeen 12 = .ok (.iload_n 3, 1) := by decide +kernel
theorem dX8_isAsSeen_13 : decode cX8_isAsSeen 13 = .ok (.iconst 2, 1) := by decide +kernel
theorem dX8_isAsSeen_14 : decode cX8_isAsSeen 14 = .ok (.iadd, 1) := by decide +kernel
theorem dX8_isAsSeen_15 : decode cX8_isAsSeen 15 = .ok (.iload_n 2, 1) := by decide +kernel
theorem dX8_isAsSeen_16 : decode cX8_isAsSeen 16 = .ok (.if_icmp .ge 91, 3) := by decide +kernel
theorem dX8_isAsSeen_19 : decode cX8_isAsSeen 19 = .ok (.aload_n 0, 1) := by decide +kernel
theorem dX8_isAsSeen_20 : decode cX8_isAsSeen 20 = .ok (.getfield 61, 3) := by decide +kernel
theorem dX8_isAsSeen_23 : decode cX8_isAsSeen 23 = .ok (.aload_n 0, 1) := by decide +kernel
theorem dX8_isAsSeen_24 : decode cX8_isAsSeen 24 = .ok (.getfield 33, 3) := by decide +kernel
theorem dX8_isAsSeen_27 : decode cX8_isAsSeen 27 = .ok (.aload_n 0, 1) := by decide +kernel
theorem dX8_isAsSeen_28 : decode cX8_isAsSeen 28 = .ok (.getfield 54, 3) := by decide +kernel
theorem dX8_isAsSeen_31 : decode cX8_isAsSeen 31 = .ok (.aload_n 0, 1) := by decide +kernel
theorem dX8_isAsSeen_32 : decode cX8_isAsSeen 32 = .ok (.getfield 47, 3) := by decide +kernel
theorem dX8_isAsSeen_35 : decode cX8_isAsSeen 35 = .ok (.iload_n 1, 1) := by decide +kernel
theorem dX8_isAsSeen_36 : decode cX8_isAsSeen 36 = .ok (.iload_n 3, 1) := by decide +kernel
theorem dX8_isAsSeen_37 : decode cX8_isAsSeen 37 = .ok (.invokevirtual 417, 3) := by decide +kernel
theorem dX8_isAsSeen_40 : decode cX8_isAsSeen 40 = .ok (.l2i, 1) := by decide +kernel
theorem dX8_isAsSeen_41 : decode cX8_isAsSeen 41 = .ok (.invokevirtual 281, 3) := by decide +kernel
theorem dX8_isAsSeen_44 : decode cX8_isAsSeen 44 = .ok (.aload_n 0, 1) := by decide +kernel
theorem dX8_isAsSeen_45 : decode cX8_isAsSeen 45 = .ok (.getfield 61, 3) := by decide +kernel
theorem dX8_isAsSeen_48 : decode cX8_isAsSeen 48 = .ok (.aload_n 0, 1) := by decide +kernel
theorem dX8_isAsSeen_49 : decode cX8_isAsSeen 49 = .ok (.getfield 68, 3) := by decide +kernel
theorem dX8_isAsSeen_52 : decode cX8_isAsSeen 52 = .ok (.invokevirtual 167, 3) := by decide +kernel
theorem dX8_isAsSeen_55 : decode cX8_isAsSeen 55 = .ok (.aload_n 0, 1) := by decide +kernel
theorem dX8_isAsSeen_56 : decode cX8_isAsSeen 56 = .ok (.getfield 68, 3) := by decide +kernel
theorem dX8_isAsSeen_59 : decode cX8_isAsSeen 59 = .ok (.getfield 420, 3) := by decide +kernel
theorem dX8_isAsSeen_62 : decode cX8_isAsSeen 62 = .ok (.aload_n 0, 1) := by decide +kernel
theorem dX8_isAsSeen_63 : decode cX8_isAsSeen 63 = .ok (.getfield 47, 3) := by decide +kernel
theorem dX8_isAsSeen_66 : decode cX8_isAsSeen 66 = .ok (.iload_n 1, 1) := by decide +kernel
theorem dX8_isAsSeen_67 : decode cX8_isAsSeen 67 = .ok (.iload_n 3, 1) := by decide +kernel
