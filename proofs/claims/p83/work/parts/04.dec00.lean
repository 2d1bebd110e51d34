theorem dJ6_bitCount_0f7a4_0 : decode cJ6_bitCount_0f7a4 0 = .ok (.iload_n 0, 1) := by decide +kernel
theorem dJ6_bitCount_0f7a4_1 : decode cJ6_bitCount_0f7a4 1 = .ok (.iload_n 0, 1) := by decide +kernel
theorem dJ6_bitCount_0f7a4_2 : decode cJ6_bitCount_0f7a4 2 = .ok (.iconst 1, 1) := by decide +kernel
theorem dJ6_bitCount_0f7a4_3 : decode cJ6_bitCount_0f7a4 3 = .ok (.iushr, 1) := by decide +kernel
theorem dJ6_bitCount_0f7a4_4 : decode cJ6_bitCount_0f7a4 4 = .ok (.ldc_w 265, 3) := by decide +kernel
theorem dJ6_bitCount_0f7a4_7 : decode cJ6_bitCount_0f7a4 7 = .ok (.iand, 1) := by decide +kernel
theorem dJ6_bitCount_0f7a4_8 : decode cJ6_bitCount_0f7a4 8 = .ok (.isub, 1) := by decide +kernel
theorem dJ6_bitCount_0f7a4_9 : decode cJ6_bitCount_0f7a4 9 = .ok (.istore_n 0, 1) := by decide +kernel
theorem dJ6_bitCount_0f7a4_10 : decode cJ6_bitCount_0f7a4 10 = .ok (.iload_n 0, 1) := by decide +kernel
theorem dJ6_bitCount_0f7a4_11 : decode cJ6_bitCount_0f7a4 11 = .ok (.ldc_w 266, 3) := by decide +kernel
theorem dJ6_bitCount_0f7a4_14 : decode cJ6_bitCount_0f7a4 14 = .ok (.iand, 1) := by decide +kernel
theorem dJ6_bitCount_0f7a4_15 : decode cJ6_bitCount_0f7a4 15 = .ok (.iload_n 0, 1) := by decide +kernel
theorem dJ6_bitCount_0f7a4_16 : decode cJ6_bitCount_0f7a4 16 = .ok (.iconst 2, 1) := by decide +kernel
theorem dJ6_bitCount_0f7a4_17 : decode cJ6_bitCount_0f7a4 17 = .ok (.iushr, 1) := by decide +kernel
theorem dJ6_bitCount_0f7a4_18 : decode cJ6_bitCount_0f7a4 18 = .ok (.ldc_w 266, 3) := by decide +kernel
theorem dJ6_bitCount_0f7a4_21 : decode cJ6_bitCount_0f7a4 21 = .ok (.iand, 1) := by decide +kernel
theorem dJ6_bitCount_0f7a4_22 : decode cJ6_bitCount_0f7a4 22 = .ok (.iadd, 1) := by decide +kernel
theorem dJ6_bitCount_0f7a4_23 : decode cJ6_bitCount_0f7a4 23 = .ok (.istore_n 0, 1) := by decide +kernel
theorem dJ6_bitCount_0f7a4_24 : decode cJ6_bitCount_0f7a4 24 = .ok (.iload_n 0, 1) := by decide +kernel
theorem dJ6_bitCount_0f7a4_25 : decode cJ6_bitCount_0f7a4 25 = .ok (.iload_n 0, 1) := by decide +kernel
theorem dJ6_bitCount_0f7a4_26 : decode cJ6_bitCount_0f7a4 26 = .ok (.iconst 4, 1) := by decide +kernel
theorem dJ6_bitCount_0f7a4_27 : decode cJ6_bitCount_0f7a4 27 = .ok (.iushr, 1) := by decide +kernel
theorem dJ6_bitCount_0f7a4_28 : decode cJ6_bitCount_0f7a4 28 = .ok (.iadd, 1) := by decide +kernel
theorem dJ6_bitCount_0f7a4_29 : decode cJ6_bitCount_0f7a4 29 = .ok (.ldc_w 267, 3) := by decide +kernel
theorem dJ6_bitCount_0f7a4_32 : decode cJ6_bitCount_0f7a4 32 = .ok (.iand, 1) := by decide +kernel
theorem dJ6_bitCount_0f7a4_33 : decode cJ6_bitCount_0f7a4 33 = .ok (.istore_n 0, 1) := by decide +kernel
theorem dJ6_bitCount_0f7a4_34 : decode cJ6_bitCount_0f7a4 34 = .ok (.iload_n 0, 1) := by decide +kernel
theorem dJ6_bitCount_0f7a4_35 : decode cJ6_bitCount_0f7a4 35 = .ok (.iload_n 0, 1) := by decide +kernel
theorem dJ6_bitCount_0f7a4_36 : decode cJ6_bitCount_0f7a4 36 = .ok (.bipush 8, 2) := by decide +kernel
theorem dJ6_bitCount_0f7a4_38 : decode cJ6_bitCount_0f7a4 38 = .ok (.iushr, 1) := by decide +kernel
theorem dJ6_bitCount_0f7a4_39 : decode cJ6_bitCount_0f7a4 39 = .ok (.iadd, 1) := by decide +kernel
theorem dJ6_bitCount_0f7a4_40 : decode cJ6_bitCount_0f7a4 40 = .ok (.istore_n 0, 1) := by decide +kernel
theorem dJ6_bitCount_0f7a4_41 : decode cJ6_bitCount_0f7a4 41 = .ok (.iload_n 0, 1) := by decide +kernel
theorem dJ6_bitCount_0f7a4_42 : decode cJ6_bitCount_0f7a4 42 = .ok (.iload_n 0, 1) := by decide +kernel
theorem dJ6_bitCount_0f7a4_43 : decode cJ6_bitCount_0f7a4 43 = .ok (.bipush 16, 2) := by decide +kernel
theorem dJ6_bitCount_0f7a4_45 : decode cJ6_bitCount_0f7a4 45 = .ok (.iushr, 1) := by decide +kernel
theorem dJ6_bitCount_0f7a4_46 : decode cJ6_bitCount_0f7a4 46 = .ok (.iadd, 1) := by decide +kernel
theorem dJ6_bitCount_0f7a4_47 : decode cJ6_bitCount_0f7a4 47 = .ok (.istore_n 0, 1) := by decide +kernel
theorem dJ6_bitCount_0f7a4_48 : decode cJ6_bitCount_0f7a4 48 = .ok (.iload_n 0, 1) := by decide +kernel
theorem dJ6_bitCount_0f7a4_49 : decode cJ6_bitCount_0f7a4 49 = .ok (.bipush 63, 2) := by decide +kernel
theorem dJ6_bitCount_0f7a4_51 : decode cJ6_bitCount_0f7a4 51 = .ok (.iand, 1) := by decide +kernel
theorem dJ6_bitCount_0f7a4_52 : decode cJ6_bitCount_0f7a4 52 = .ok (.ireturn, 1) := by decide +kernel
theorem dJ6_numberOfLeadingZeros_0f7a4_0 : decode cJ6_numberOfLeadingZeros_0f7a4 0 = .ok (.iload_n 0, 1) := by decide +kernel
theorem dJ6_numberOfLeadingZeros_0f7a4_1 : decode cJ6_numberOfLeadingZeros_0f7a4 1 = .ok (.ifCond .gt 14, 3) := by decide +kernel
theorem dJ6_numberOfLeadingZeros_0f7a4_4 : decode cJ6_numberOfLeadingZeros_0f7a4 4 = .ok (.iload_n 0, 1) := by decide +kernel
theorem dJ6_numberOfLeadingZeros_0f7a4_5 : decode cJ6_numberOfLeadingZeros_0f7a4 5 = .ok (.ifCond .ne 8, 3) := by decide +kernel
theorem dJ6_numberOfLeadingZeros_0f7a4_8 : decode cJ6_numberOfLeadingZeros_0f7a4 8 = .ok (.bipush 32, 2) := by decide +kernel
theorem dJ6_numberOfLeadingZeros_0f7a4_10 : decode cJ6_numberOfLeadingZeros_0f7a4 10 = .ok (.goto 4, 3) := by decide +kernel
theorem dJ6_numberOfLeadingZeros_0f7a4_13 : decode cJ6_numberOfLeadingZeros_0f7a4 13 = .ok (.iconst 0, 1) := by decide +kernel
theorem dJ6_numberOfLeadingZeros_0f7a4_14 : decode cJ6_numberOfLeadingZeros_0f7a4 14 = .ok (.ireturn, 1) := by decide +kernel
theorem dJ6_numberOfLeadingZeros_0f7a4_15 : decode cJ6_numberOfLeadingZeros_0f7a4 15 = .ok (.bipush 31, 2) := by decide +kernel
theorem dJ6_numberOfLeadingZeros_0f7a4_17 : decode cJ6_numberOfLeadingZeros_0f7a4 17 = .ok (.istore_n 1, 1) := by decide +kernel
theorem dJ6_numberOfLeadingZeros_0f7a4_18 : decode cJ6_numberOfLeadingZeros_0f7a4 18 = .ok (.iload_n 0, 1) := by decide +kernel
theorem dJ6_numberOfLeadingZeros_0f7a4_19 : decode cJ6_numberOfLeadingZeros_0f7a4 19 = .ok (.ldc_w 264, 3) := by decide +kernel
theorem dJ6_numberOfLeadingZeros_0f7a4_22 : decode cJ6_numberOfLeadingZeros_0f7a4 22 = .ok (.if_icmp .lt 11, 3) := by decide +kernel
theorem dJ6_numberOfLeadingZeros_0f7a4_25 : decode cJ6_numberOfLeadingZeros_0f7a4 25 = .ok (.iinc 1 (-16), 3) := by decide +kernel
theorem dJ6_numberOfLeadingZeros_0f7a4_28 : decode cJ6_numberOfLeadingZeros_0f7a4 28 = .ok (.iload_n 0, 1) := by decide +kernel
theorem dJ6_numberOfLeadingZeros_0f7a4_29 : decode cJ6_numberOfLeadingZeros_0f7a4 29 = .ok (.bipush 16, 2) := by decide +kernel
theorem dJ6_numberOfLeadingZeros_0f7a4_31 : decode cJ6_numberOfLeadingZeros_0f7a4 31 = .ok (.iushr, 1) := by decide +kernel
theorem dJ6_numberOfLeadingZeros_0f7a4_32 : decode cJ6_numberOfLeadingZeros_0f7a4 32 = .ok (.istore_n 0, 1) := by decide +kernel
theorem dJ6_numberOfLeadingZeros_0f7a4_33 : decode cJ6_numberOfLeadingZeros_0f7a4 33 = .ok (.iload_n 0, 1) := by decide +kernel
theorem dJ6_numberOfLeadingZeros_0f7a4_34 : decode cJ6_numberOfLeadingZeros_0f7a4 34 = .ok (.sipush 256, 3) := by decide +kernel
theorem dJ6_numberOfLeadingZeros_0f7a4_37 : decode cJ6_numberOfLeadingZeros_0f7a4 37 = .ok (.if_icmp .lt 11, 3) := by decide +kernel
theorem dJ6_numberOfLeadingZeros_0f7a4_40 : decode cJ6_numberOfLeadingZeros_0f7a4 40 = .ok (.iinc 1 (-8), 3) := by decide +kernel
theorem dJ6_numberOfLeadingZeros_0f7a4_43 : decode cJ6_numberOfLeadingZeros_0f7a4 43 = .ok (.iload_n 0, 1) := by decide +kernel
theorem dJ6_numberOfLeadingZeros_0f7a4_44 : decode cJ6_numberOfLeadingZeros_0f7a4 44 = .ok (.bipush 8, 2) := by decide +kernel
theorem dJ6_numberOfLeadingZeros_0f7a4_46 : decode cJ6_numberOfLeadingZeros_0f7a4 46 = .ok (.iushr, 1) := by decide +kernel
theorem dJ6_numberOfLeadingZeros_0f7a4_47 : decode cJ6_numberOfLeadingZeros_0f7a4 47 = .ok (.istore_n 0, 1) := by decide +kernel
theorem dJ6_numberOfLeadingZeros_0f7a4_48 : decode cJ6_numberOfLeadingZeros_0f7a4 48 = .ok (.iload_n 0, 1) := by decide +kernel
theorem dJ6_numberOfLeadingZeros_0f7a4_49 : decode cJ6_numberOfLeadingZeros_0f7a4 49 = .ok (.bipush 16, 2) := by decide +kernel
theorem dJ6_numberOfLeadingZeros_0f7a4_51 : decode cJ6_numberOfLeadingZeros_0f7a4 51 = .ok (.if_icmp .lt 10, 3) := by decide +kernel
theorem dJ6_numberOfLeadingZeros_0f7a4_54 : decode cJ6_numberOfLeadingZeros_0f7a4 54 = .ok (.iinc 1 (-4), 3) := by decide +kernel
theorem dJ6_numberOfLeadingZeros_0f7a4_57 : decode cJ6_numberOfLeadingZeros_0f7a4 57 = .ok (.iload_n 0, 1) := by decide +kernel
theorem dJ6_numberOfLeadingZeros_0f7a4_58 : decode cJ6_numberOfLeadingZeros_0f7a4 58 = .ok (.iconst 4, 1) := by decide +kernel
theorem dJ6_numberOfLeadingZeros_0f7a4_59 : decode cJ6_numberOfLeadingZeros_0f7a4 59 = .ok (.iushr, 1) := by decide +kernel
theorem dJ6_numberOfLeadingZeros_0f7a4_60 : decode cJ6_numberOfLeadingZeros_0f7a4 60 = .ok (.istore_n 0, 1) := by decide +kernel
theorem dJ6_numberOfLeadingZeros_0f7a4_61 : decode cJ6_numberOfLeadingZeros_0f7a4 61 = .ok (.iload_n 0, 1) := by decide +kernel
theorem dJ6_numberOfLeadingZeros_0f7a4_62 : decode cJ6_numberOfLeadingZeros_0f7a4 62 = .ok (.iconst 4, 1) := by decide +kernel
theorem dJ6_numberOfLeadingZeros_0f7a4_63 : decode cJ6_numberOfLeadingZeros_0f7a4 63 = .ok (.if_icmp .lt 10, 3) := by decide +kernel
theorem dJ6_numberOfLeadingZeros_0f7a4_66 : decode cJ6_numberOfLeadingZeros_0f7a4 66 = .ok (.iinc 1 (-2), 3) := by decide +kernel
theorem dJ6_numberOfLeadingZeros_0f7a4_69 : decode cJ6_numberOfLeadingZeros_0f7a4 69 = .ok (.iload_n 0, 1) := by decide +kernel
theorem dJ6_numberOfLeadingZeros_0f7a4_70 : decode cJ6_numberOfLeadingZeros_0f7a4 70 = .ok (.iconst 2, 1) := by decide +kernel
theorem dJ6_numberOfLeadingZeros_0f7a4_71 : decode cJ6_numberOfLeadingZeros_0f7a4 71 = .ok (.iushr, 1) := by decide +kernel
theorem dJ6_numberOfLeadingZeros_0f7a4_72 : decode cJ6_numberOfLeadingZeros_0f7a4 72 = .ok (.istore_n 0, 1) := by decide +kernel
theorem dJ6_numberOfLeadingZeros_0f7a4_73 : decode cJ6_numberOfLeadingZeros_0f7a4 73 = .ok (.iload_n 1, 1) := by decide +kernel
theorem dJ6_numberOfLeadingZeros_0f7a4_74 : decode cJ6_numberOfLeadingZeros_0f7a4 74 = .ok (.iload_n 0, 1) := by decide +kernel
theorem dJ6_numberOfLeadingZeros_0f7a4_75 : decode cJ6_numberOfLeadingZeros_0f7a4 75 = .ok (.iconst 1, 1) := by decide +kernel
theorem dJ6_numberOfLeadingZeros_0f7a4_76 : decode cJ6_numberOfLeadingZeros_0f7a4 76 = .ok (.iushr, 1) := by decide +kernel
theorem dJ6_numberOfLeadingZeros_0f7a4_77 : decode cJ6_numberOfLeadingZeros_0f7a4 77 = .ok (.isub, 1) := by decide +kernel
theorem dJ6_numberOfLeadingZeros_0f7a4_78 : decode cJ6_numberOfLeadingZeros_0f7a4 78 = .ok (.ireturn, 1) := by decide +kernel
theorem dJ6_numberOfTrailingZeros_0f7a4_0 : decode cJ6_numberOfTrailingZeros_0f7a4 0 = .ok (.iload_n 0, 1) := by decide +kernel
theorem dJ6_numberOfTrailingZeros_0f7a4_1 : decode cJ6_numberOfTrailingZeros_0f7a4 1 = .ok (.iconst (-1), 1) := by decide +kernel
theorem dJ6_numberOfTrailingZeros_0f7a4_2 : decode cJ6_numberOfTrailingZeros_0f7a4 2 = .ok (.ixor, 1) := by decide +kernel
theorem dJ6_numberOfTrailingZeros_0f7a4_3 : decode cJ6_numberOfTrailingZeros_0f7a4 3 = .ok (.iload_n 0, 1) := by decide +kernel
theorem dJ6_numberOfTrailingZeros_0f7a4_4 : decode cJ6_numberOfTrailingZeros_0f7a4 4 = .ok (.iconst 1, 1) := by decide +kernel
theorem dJ6_numberOfTrailingZeros_0f7a4_5 : decode cJ6_numberOfTrailingZeros_0f7a4 5 = .ok (.isub, 1) := by decide +kernel
theorem dJ6_numberOfTrailingZeros_0f7a4_6 : decode cJ6_numberOfTrailingZeros_0f7a4 6 = .ok (.iand, 1) := by decide +kernel
theorem dJ6_numberOfTrailingZeros_0f7a4_7 : decode cJ6_numberOfTrailingZeros_0f7a4 7 = .ok (.istore_n 0, 1) := by decide +kernel
theorem dJ6_numberOfTrailingZeros_0f7a4_8 : decode cJ6_numberOfTrailingZeros_0f7a4 8 = .ok (.iload_n 0, 1) := by decide +kernel
theorem dJ6_numberOfTrailingZeros_0f7a4_9 : decode cJ6_numberOfTrailingZeros_0f7a4 9 = .ok (.ifCond .gt 8, 3) := by decide +kernel
theorem dJ6_numberOfTrailingZeros_0f7a4_12 : decode cJ6_numberOfTrailingZeros_0f7a4 12 = .ok (.iload_n 0, 1) := by decide +kernel
theorem dJ6_numberOfTrailingZeros_0f7a4_13 : decode cJ6_numberOfTrailingZeros_0f7a4 13 = .ok (.bipush 32, 2) := by decide +kernel
theorem dJ6_numberOfTrailingZeros_0f7a4_15 : decode cJ6_numberOfTrailingZeros_0f7a4 15 = .ok (.iand, 1) := by decide +kernel
theorem dJ6_numberOfTrailingZeros_0f7a4_16 : decode cJ6_numberOfTrailingZeros_0f7a4 16 = .ok (.ireturn, 1) := by decide +kernel
theorem dJ6_numberOfTrailingZeros_0f7a4_17 : decode cJ6_numberOfTrailingZeros_0f7a4 17 = .ok (.iconst 1, 1) := by decide +kernel
theorem dJ6_numberOfTrailingZeros_0f7a4_18 : decode cJ6_numberOfTrailingZeros_0f7a4 18 = .ok (.istore_n 1, 1) := by decide +kernel
theorem dJ6_numberOfTrailingZeros_0f7a4_19 : decode cJ6_numberOfTrailingZeros_0f7a4 19 = .ok (.iload_n 0, 1) := by decide +kernel
theorem dJ6_numberOfTrailingZeros_0f7a4_20 : decode cJ6_numberOfTrailingZeros_0f7a4 20 = .ok (.ldc_w 264, 3) := by decide +kernel
theorem dJ6_numberOfTrailingZeros_0f7a4_23 : decode cJ6_numberOfTrailingZeros_0f7a4 23 = .ok (.if_icmp .le 11, 3) := by decide +kernel
theorem dJ6_numberOfTrailingZeros_0f7a4_26 : decode cJ6_numberOfTrailingZeros_0f7a4 26 = .ok (.iinc 1 16, 3) := by decide +kernel
theorem dJ6_numberOfTrailingZeros_0f7a4_29 : decode cJ6_numberOfTrailingZeros_0f7a4 29 = .ok (.iload_n 0, 1) := by decide +kernel
theorem dJ6_numberOfTrailingZeros_0f7a4_30 : decode cJ6_numberOfTrailingZeros_0f7a4 30 = .ok (.bipush 16, 2) := by decide +kernel
theorem dJ6_numberOfTrailingZeros_0f7a4_32 : decode cJ6_numberOfTrailingZeros_0f7a4 32 = .ok (.iushr, 1) := by decide +kernel
theorem dJ6_numberOfTrailingZeros_0f7a4_33 : decode cJ6_numberOfTrailingZeros_0f7a4 33 = .ok (.istore_n 0, 1) := by decide +kernel
theorem dJ6_numberOfTrailingZeros_0f7a4_34 : decode cJ6_numberOfTrailingZeros_0f7a4 34 = .ok (.iload_n 0, 1) := by decide +kernel
theorem dJ6_numberOfTrailingZeros_0f7a4_35 : decode cJ6_numberOfTrailingZeros_0f7a4 35 = .ok (.sipush 256, 3) := by decide +kernel
theorem dJ6_numberOfTrailingZeros_0f7a4_38 : decode cJ6_numberOfTrailingZeros_0f7a4 38 = .ok (.if_icmp .le 11, 3) := by decide +kernel
theorem dJ6_numberOfTrailingZeros_0f7a4_41 : decode cJ6_numberOfTrailingZeros_0f7a4 41 = .ok (.iinc 1 8, 3) := by decide +kernel
theorem dJ6_numberOfTrailingZeros_0f7a4_44 : decode cJ6_numberOfTrailingZeros_0f7a4 44 = .ok (.iload_n 0, 1) := by decide +kernel
theorem dJ6_numberOfTrailingZeros_0f7a4_45 : decode cJ6_numberOfTrailingZeros_0f7a4 45 = .ok (.bipush 8, 2) := by decide +kernel
theorem dJ6_numberOfTrailingZeros_0f7a4_47 : decode cJ6_numberOfTrailingZeros_0f7a4 47 = .ok (.iushr, 1) := by decide +kernel
theorem dJ6_numberOfTrailingZeros_0f7a4_48 : decode cJ6_numberOfTrailingZeros_0f7a4 48 = .ok (.istore_n 0, 1) := by decide +kernel
theorem dJ6_numberOfTrailingZeros_0f7a4_49 : decode cJ6_numberOfTrailingZeros_0f7a4 49 = .ok (.iload_n 0, 1) := by decide +kernel
theorem dJ6_numberOfTrailingZeros_0f7a4_50 : decode cJ6_numberOfTrailingZeros_0f7a4 50 = .ok (.bipush 16, 2) := by decide +kernel
theorem dJ6_numberOfTrailingZeros_0f7a4_52 : decode cJ6_numberOfTrailingZeros_0f7a4 52 = .ok (.if_icmp .le 10, 3) := by decide +kernel
theorem dJ6_numberOfTrailingZeros_0f7a4_55 : decode cJ6_numberOfTrailingZeros_0f7a4 55 = .ok (.iinc 1 4, 3) := by decide +kernel
theorem dJ6_numberOfTrailingZeros_0f7a4_58 : decode cJ6_numberOfTrailingZeros_0f7a4 58 = .ok (.iload_n 0, 1) := by decide +kernel
theorem dJ6_numberOfTrailingZeros_0f7a4_59 : decode cJ6_numberOfTrailingZeros_0f7a4 59 = .ok (.iconst 4, 1) := by decide +kernel
theorem dJ6_numberOfTrailingZeros_0f7a4_60 : decode cJ6_numberOfTrailingZeros_0f7a4 60 = .ok (.iushr, 1) := by decide +kernel
theorem dJ6_numberOfTrailingZeros_0f7a4_61 : decode cJ6_numberOfTrailingZeros_0f7a4 61 = .ok (.istore_n 0, 1) := by decide +kernel
theorem dJ6_numberOfTrailingZeros_0f7a4_62 : decode cJ6_numberOfTrailingZeros_0f7a4 62 = .ok (.iload_n 0, 1) := by decide +kernel
theorem dJ6_numberOfTrailingZeros_0f7a4_63 : decode cJ6_numberOfTrailingZeros_0f7a4 63 = .ok (.iconst 4, 1) := by decide +kernel
theorem dJ6_numberOfTrailingZeros_0f7a4_64 : decode cJ6_numberOfTrailingZeros_0f7a4 64 = .ok (.if_icmp .le 10, 3) := by decide +kernel
theorem dJ6_numberOfTrailingZeros_0f7a4_67 : decode cJ6_numberOfTrailingZeros_0f7a4 67 = .ok (.iinc 1 2, 3) := by decide +kernel
theorem dJ6_numberOfTrailingZeros_0f7a4_70 : decode cJ6_numberOfTrailingZeros_0f7a4 70 = .ok (.iload_n 0, 1) := by decide +kernel
theorem dJ6_numberOfTrailingZeros_0f7a4_71 : decode cJ6_numberOfTrailingZeros_0f7a4 71 = .ok (.iconst 2, 1) := by decide +kernel
theorem dJ6_numberOfTrailingZeros_0f7a4_72 : decode cJ6_numberOfTrailingZeros_0f7a4 72 = .ok (.iushr, 1) := by decide +kernel
theorem dJ6_numberOfTrailingZeros_0f7a4_73 : decode cJ6_numberOfTrailingZeros_0f7a4 73 = .ok (.istore_n 0, 1) := by decide +kernel
theorem dJ6_numberOfTrailingZeros_0f7a4_74 : decode cJ6_numberOfTrailingZeros_0f7a4 74 = .ok (.iload_n 1, 1) := by decide +kernel
theorem dJ6_numberOfTrailingZeros_0f7a4_75 : decode cJ6_numberOfTrailingZeros_0f7a4 75 = .ok (.iload_n 0, 1) := by decide +kernel
theorem dJ6_numberOfTrailingZeros_0f7a4_76 : decode cJ6_numberOfTrailingZeros_0f7a4 76 = .ok (.iconst 1, 1) := by decide +kernel
theorem dJ6_numberOfTrailingZeros_0f7a4_77 : decode cJ6_numberOfTrailingZeros_0f7a4 77 = .ok (.iushr, 1) := by decide +kernel
theorem dJ6_numberOfTrailingZeros_0f7a4_78 : decode cJ6_numberOfTrailingZeros_0f7a4 78 = .ok (.iadd, 1) := by decide +kernel
theorem dJ6_numberOfTrailingZeros_0f7a4_79 : decode cJ6_numberOfTrailingZeros_0f7a4 79 = .ok (.ireturn, 1) := by decide +kernel
theorem dJ7_fill_53178_0 : decode cJ7_fill_53178 0 = .ok (.iconst 0, 1) := by decide +kernel
theorem dJ7_fill_53178_1 : decode cJ7_fill_53178 1 = .ok (.istore_n 2, 1) := by decide +kernel
theorem dJ7_fill_53178_2 : decode cJ7_fill_53178 2 = .ok (.aload_n 0, 1) := by decide +kernel
theorem dJ7_fill_53178_3 : decode cJ7_fill_53178 3 = .ok (.arraylength, 1) := by decide +kernel
theorem dJ7_fill_53178_4 : decode cJ7_fill_53178 4 = .ok (.istore_n 3, 1) := by decide +kernel
theorem dJ7_fill_53178_5 : decode cJ7_fill_53178 5 = .ok (.iload_n 2, 1) := by decide +kernel
theorem dJ7_fill_53178_6 : decode cJ7_fill_53178 6 = .ok (.iload_n 3, 1) := by decide +kernel
theorem dJ7_fill_53178_7 : decode cJ7_fill_53178 7 = .ok (.if_icmp .ge 13, 3) := by decide +kernel
theorem dJ7_fill_53178_10 : decode cJ7_fill_53178 10 = .ok (.aload_n 0, 1) := by decide +kernel
theorem dJ7_fill_53178_11 : decode cJ7_fill_53178 11 = .ok (.iload_n 2, 1) := by decide +kernel
theorem dJ7_fill_53178_12 : decode cJ7_fill_53178 12 = .ok (.iload_n 1, 1) := by decide +kernel
theorem dJ7_fill_53178_13 : decode cJ7_fill_53178 13 = .ok (.iastore, 1) := by decide +kernel
theorem dJ7_fill_53178_14 : decode cJ7_fill_53178 14 = .ok (.iinc 2 1, 3) := by decide +kernel
theorem dJ7_fill_53178_17 : decode cJ7_fill_53178 17 = .ok (.goto (-12), 3) := by decide +kernel
theorem dJ7_fill_53178_20 : decode cJ7_fill_53178 20 = .ok (.return_, 1) := by decide +kernel
theorem dJ7_fill_bad5a_0 : decode cJ7_fill_bad5a 0 = .ok (.aload_n 0, 1) := by decide +kernel
theorem dJ7_fill_bad5a_1 : decode cJ7_fill_bad5a 1 = .ok (.arraylength, 1) := by decide +kernel
theorem dJ7_fill_bad5a_2 : decode cJ7_fill_bad5a 2 = .ok (.iload_n 1, 1) := by decide +kernel
theorem dJ7_fill_bad5a_3 : decode cJ7_fill_bad5a 3 = .ok (.iload_n 2, 1) := by decide +kernel
theorem dJ7_fill_bad5a_4 : decode cJ7_fill_bad5a 4 = .ok (.invokestatic 13, 3) := by decide +kernel
theorem dJ7_fill_bad5a_7 : decode cJ7_fill_bad5a 7 = .ok (.iload_n 1, 1) := by decide +kernel
theorem dJ7_fill_bad5a_8 : decode cJ7_fill_bad5a 8 = .ok (.istore 5, 2) := by decide +kernel
theorem dJ7_fill_bad5a_10 : decode cJ7_fill_bad5a 10 = .ok (.iload 5, 2) := by decide +kernel
theorem dJ7_fill_bad5a_12 : decode cJ7_fill_bad5a 12 = .ok (.iload_n 2, 1) := by decide +kernel
theorem dJ7_fill_bad5a_13 : decode cJ7_fill_bad5a 13 = .ok (.if_icmp .ge 14, 3) := by decide +kernel
theorem dJ7_fill_bad5a_16 : decode cJ7_fill_bad5a 16 = .ok (.aload_n 0, 1) := by decide +kernel
theorem dJ7_fill_bad5a_17 : decode cJ7_fill_bad5a 17 = .ok (.iload 5, 2) := by decide +kernel
theorem dJ7_fill_bad5a_19 : decode cJ7_fill_bad5a 19 = .ok (.lload_n 3, 1) := by decide +kernel
theorem dJ7_fill_bad5a_20 : decode cJ7_fill_bad5a 20 = .ok (.lastore, 1) := by decide +kernel
theorem dJ7_fill_bad5a_21 : decode cJ7_fill_bad5a 21 = .ok (.iinc 5 1, 3) := by decide +kernel
theorem dJ7_fill_bad5a_24 : decode cJ7_fill_bad5a 24 = .ok (.goto (-14), 3) := by decide +kernel
theorem dJ7_fill_bad5a_27 : decode cJ7_fill_bad5a 27 = .ok (.return_, 1) := by decide +kernel
theorem dJ7_rangeCheck_23922_0 : decode cJ7_rangeCheck_23922 0 = .ok (.iload_n 1, 1) := by decide +kernel
theorem dJ7_rangeCheck_23922_1 : decode cJ7_rangeCheck_23922 1 = .ok (.iload_n 2, 1) := by decide +kernel
theorem dJ7_rangeCheck_23922_2 : decode cJ7_rangeCheck_23922 2 = .ok (.if_icmp .le 44, 3) := by decide +kernel
theorem dJ7_rangeCheck_23922_5 : decode cJ7_rangeCheck_23922 5 = .ok (.new 43, 3) := by decide +kernel
theorem dJ7_rangeCheck_23922_8 : decode cJ7_rangeCheck_23922 8 = .ok (.dup, 1) := by decide +kernel
theorem dJ7_rangeCheck_23922_9 : decode cJ7_rangeCheck_23922 9 = .ok (.new 45, 3) := by decide +kernel
theorem dJ7_rangeCheck_23922_12 : decode cJ7_rangeCheck_23922 12 = .ok (.dup, 1) := by decide +kernel
theorem dJ7_rangeCheck_23922_13 : decode cJ7_rangeCheck_23922 13 = .ok (.invokespecial 47, 3) := by decide +kernel
theorem dJ7_rangeCheck_23922_16 : decode cJ7_rangeCheck_23922 16 = .ok (.ldc 48, 2) := by decide +kernel
theorem dJ7_rangeCheck_23922_18 : decode cJ7_rangeCheck_23922 18 = .ok (.invokevirtual 50, 3) := by decide +kernel
theorem dJ7_rangeCheck_23922_21 : decode cJ7_rangeCheck_23922 21 = .ok (.iload_n 1, 1) := by decide +kernel
theorem dJ7_rangeCheck_23922_22 : decode cJ7_rangeCheck_23922 22 = .ok (.invokevirtual 54, 3) := by decide +kernel
theorem dJ7_rangeCheck_23922_25 : decode cJ7_rangeCheck_23922 25 = .ok (.ldc 57, 2) := by decide +kernel
theorem dJ7_rangeCheck_23922_27 : decode cJ7_rangeCheck_23922 27 = .ok (.invokevirtual 50, 3) := by decide +kernel
theorem dJ7_rangeCheck_23922_30 : decode cJ7_rangeCheck_23922 30 = .ok (.iload_n 2, 1) := by decide +kernel
theorem dJ7_rangeCheck_23922_31 : decode cJ7_rangeCheck_23922 31 = .ok (.invokevirtual 54, 3) := by decide +kernel
theorem dJ7_rangeCheck_23922_34 : decode cJ7_rangeCheck_23922 34 = .ok (.ldc 59, 2) := by decide +kernel
theorem dJ7_rangeCheck_23922_36 : decode cJ7_rangeCheck_23922 36 = .ok (.invokevirtual 50, 3) := by decide +kernel
theorem dJ7_rangeCheck_23922_39 : decode cJ7_rangeCheck_23922 39 = .ok (.invokevirtual 61, 3) := by decide +kernel
theorem dJ7_rangeCheck_23922_42 : decode cJ7_rangeCheck_23922 42 = .ok (.invokespecial 65, 3) := by decide +kernel
theorem dJ7_rangeCheck_23922_45 : decode cJ7_rangeCheck_23922 45 = .ok (.athrow, 1) := by decide +kernel
theorem dJ7_rangeCheck_23922_46 : decode cJ7_rangeCheck_23922 46 = .ok (.iload_n 1, 1) := by decide +kernel
theorem dJ7_rangeCheck_23922_47 : decode cJ7_rangeCheck_23922 47 = .ok (.ifCond .ge 12, 3) := by decide +kernel
theorem dJ7_rangeCheck_23922_50 : decode cJ7_rangeCheck_23922 50 = .ok (.new 68, 3) := by decide +kernel
theorem dJ7_rangeCheck_23922_53 : decode cJ7_rangeCheck_23922 53 = .ok (.dup, 1) := by decide +kernel
theorem dJ7_rangeCheck_23922_54 : decode cJ7_rangeCheck_23922 54 = .ok (.iload_n 1, 1) := by decide +kernel
theorem dJ7_rangeCheck_23922_55 : decode cJ7_rangeCheck_23922 55 = .ok (.invokespecial 70, 3) := by decide +kernel
theorem dJ7_rangeCheck_23922_58 : decode cJ7_rangeCheck_23922 58 = .ok (.athrow, 1) := by decide +kernel
theorem dJ7_rangeCheck_23922_59 : decode cJ7_rangeCheck_23922 59 = .ok (.iload_n 2, 1) := by decide +kernel
theorem dJ7_rangeCheck_23922_60 : decode cJ7_rangeCheck_23922 60 = .ok (.iload_n 0, 1) := by decide +kernel
theorem dJ7_rangeCheck_23922_61 : decode cJ7_rangeCheck_23922 61 = .ok (.if_icmp .le 12, 3) := by decide +kernel
theorem dJ7_rangeCheck_23922_64 : decode cJ7_rangeCheck_23922 64 = .ok (.new 68, 3) := by decide +kernel
theorem dJ7_rangeCheck_23922_67 : decode cJ7_rangeCheck_23922 67 = .ok (.dup, 1) := by decide +kernel
theorem dJ7_rangeCheck_23922_68 : decode cJ7_rangeCheck_23922 68 = .ok (.iload_n 2, 1) := by decide +kernel
theorem dJ7_rangeCheck_23922_69 : decode cJ7_rangeCheck_23922 69 = .ok (.invokespecial 70, 3) := by decide +kernel
theorem dJ7_rangeCheck_23922_72 : decode cJ7_rangeCheck_23922 72 = .ok (.athrow, 1) := by decide +kernel
theorem dJ7_rangeCheck_23922_73 : decode cJ7_rangeCheck_23922 73 = .ok (.return_, 1) := by decide +kernel
theorem dJ9_abs_067f4_0 : decode cJ9_abs_067f4 0 = .ok (.lload_n 0, 1) := by decide +kernel
theorem dJ9_abs_067f4_1 : decode cJ9_abs_067f4 1 = .ok (.lconst 0, 1) := by decide +kernel
theorem dJ9_abs_067f4_2 : decode cJ9_abs_067f4 2 = .ok (.lcmp, 1) := by decide +kernel
theorem dJ9_abs_067f4_3 : decode cJ9_abs_067f4 3 = .ok (.ifCond .ge 8, 3) := by decide +kernel
theorem dJ9_abs_067f4_6 : decode cJ9_abs_067f4 6 = .ok (.lload_n 0, 1) := by decide +kernel
theorem dJ9_abs_067f4_7 : decode cJ9_abs_067f4 7 = .ok (.lneg, 1) := by decide +kernel
theorem dJ9_abs_067f4_8 : decode cJ9_abs_067f4 8 = .ok (.goto 4, 3) := by decide +kernel
theorem dJ9_abs_067f4_11 : decode cJ9_abs_067f4 11 = .ok (.lload_n 0, 1) := by decide +kernel
theorem dJ9_abs_067f4_12 : decode cJ9_abs_067f4 12 = .ok (.lreturn, 1) := by decide +kernel
theorem dJ9_max_7cf53_0 : decode cJ9_max_7cf53 0 = .ok (.iload_n 0, 1) := by decide +kernel
theorem dJ9_max_7cf53_1 : decode cJ9_max_7cf53 1 = .ok (.iload_n 1, 1) := by decide +kernel
theorem dJ9_max_7cf53_2 : decode cJ9_max_7cf53 2 = .ok (.if_icmp .lt 7, 3) := by decide +kernel
theorem dJ9_max_7cf53_5 : decode cJ9_max_7cf53 5 = .ok (.iload_n 0, 1) := by decide +kernel
theorem dJ9_max_7cf53_6 : decode cJ9_max_7cf53 6 = .ok (.goto 4, 3) := by decide +kernel
theorem dJ9_max_7cf53_9 : decode cJ9_max_7cf53 9 = .ok (.iload_n 1, 1) := by decide +kernel
theorem dJ9_max_7cf53_10 : decode cJ9_max_7cf53 10 = .ok (.ireturn, 1) := by decide +kernel
theorem dJ9_max_f86c9_0 : decode cJ9_max_f86c9 0 = .ok (.lload_n 0, 1) := by decide +kernel
theorem dJ9_max_f86c9_1 : decode cJ9_max_f86c9 1 = .ok (.lload_n 2, 1) := by decide +kernel
theorem dJ9_max_f86c9_2 : decode cJ9_max_f86c9 2 = .ok (.lcmp, 1) := by decide +kernel
theorem dJ9_max_f86c9_3 : decode cJ9_max_f86c9 3 = .ok (.ifCond .lt 7, 3) := by decide +kernel
theorem dJ9_max_f86c9_6 : decode cJ9_max_f86c9 6 = .ok (.lload_n 0, 1) := by decide +kernel
theorem dJ9_max_f86c9_7 : decode cJ9_max_f86c9 7 = .ok (.goto 4, 3) := by decide +kernel
theorem dJ9_max_f86c9_10 : decode cJ9_max_f86c9 10 = .ok (.lload_n 2, 1) := by decide +kernel
theorem dJ9_max_f86c9_11 : decode cJ9_max_f86c9 11 = .ok (.lreturn, 1) := by decide +kernel
theorem dJ9_min_7cf53_0 : decode cJ9_min_7cf53 0 = .ok (.iload_n 0, 1) := by decide +kernel
theorem dJ9_min_7cf53_1 : decode cJ9_min_7cf53 1 = .ok (.iload_n 1, 1) := by decide +kernel
theorem dJ9_min_7cf53_2 : decode cJ9_min_7cf53 2 = .ok (.if_icmp .gt 7, 3) := by decide +kernel
theorem dJ9_min_7cf53_5 : decode cJ9_min_7cf53 5 = .ok (.iload_n 0, 1) := by decide +kernel
theorem dJ9_min_7cf53_6 : decode cJ9_min_7cf53 6 = .ok (.goto 4, 3) := by decide +kernel
theorem dJ9_min_7cf53_9 : decode cJ9_min_7cf53 9 = .ok (.iload_n 1, 1) := by decide +kernel
theorem dJ9_min_7cf53_10 : decode cJ9_min_7cf53 10 = .ok (.ireturn, 1) := by decide +kernel
theorem dX0_commonDivisor_0 : decode cX0_commonDivisor 0 = .ok (.lload_n 0, 1) := by decide +kernel
theorem dX0_commonDivisor_1 : decode cX0_commonDivisor 1 = .ok (.lstore 4, 2) := by decide +kernel
theorem dX0_commonDivisor_3 : decode cX0_commonDivisor 3 = .ok (.lload_n 2, 1) := by decide +kernel
theorem dX0_commonDivisor_4 : decode cX0_commonDivisor 4 = .ok (.lstore 6, 2) := by decide +kernel
theorem dX0_commonDivisor_6 : decode cX0_commonDivisor 6 = .ok (.iconst 0, 1) := by decide +kernel
theorem dX0_commonDivisor_7 : decode cX0_commonDivisor 7 = .ok (.istore 8, 2) := by decide +kernel
theorem dX0_commonDivisor_9 : decode cX0_commonDivisor 9 = .ok (.iload 8, 2) := by decide +kernel
theorem dX0_commonDivisor_11 : decode cX0_commonDivisor 11 = .ok (.bipush 100, 2) := by decide +kernel
theorem dX0_commonDivisor_13 : decode cX0_commonDivisor 13 = .ok (.if_icmp .ge 31, 3) := by decide +kernel
theorem dX0_commonDivisor_16 : decode cX0_commonDivisor 16 = .ok (.lload 6, 2) := by decide +kernel
theorem dX0_commonDivisor_18 : decode cX0_commonDivisor 18 = .ok (.lconst 0, 1) := by decide +kernel
theorem dX0_commonDivisor_19 : decode cX0_commonDivisor 19 = .ok (.lcmp, 1) := by decide +kernel
theorem dX0_commonDivisor_20 : decode cX0_commonDivisor 20 = .ok (.ifCond .eq 24, 3) := by decide +kernel
theorem dX0_commonDivisor_23 : decode cX0_commonDivisor 23 = .ok (.lload 4, 2) := by decide +kernel
theorem dX0_commonDivisor_25 : decode cX0_commonDivisor 25 = .ok (.lload 6, 2) := by decide +kernel
theorem dX0_commonDivisor_27 : decode cX0_commonDivisor 27 = .ok (.lrem, 1) := by decide +kernel
theorem dX0_commonDivisor_28 : decode cX0_commonDivisor 28 = .ok (.lstore 9, 2) := by decide +kernel
theorem dX0_commonDivisor_30 : decode cX0_commonDivisor 30 = .ok (.lload 6, 2) := by decide +kernel
theorem dX0_commonDivisor_32 : decode cX0_commonDivisor 32 = .ok (.lstore 4, 2) := by decide +kernel
theorem dX0_commonDivisor_34 : decode cX0_commonDivisor 34 = .ok (.lload 9, 2) := by decide +kernel
theorem dX0_commonDivisor_36 : decode cX0_commonDivisor 36 = .ok (.lstore 6, 2) := by decide +kernel
theorem dX0_commonDivisor_38 : decode cX0_commonDivisor 38 = .ok (.iinc 8 1, 3) := by decide +kernel
theorem dX0_commonDivisor_41 : decode cX0_commonDivisor 41 = .ok (.goto (-32), 3) := by decide +kernel
theorem dX0_commonDivisor_44 : decode cX0_commonDivisor 44 = .ok (.lload 4, 2) := by decide +kernel
theorem dX0_commonDivisor_46 : decode cX0_commonDivisor 46 = .ok (.lreturn, 1) := by decide +kernel
theorem dX0_init_0 : decode cX0_init 0 = .ok (.aload_n 0, 1) := by decide +kernel
theorem dX0_init_1 : decode cX0_init 1 = .ok (.invokespecial 3, 3) := by decide +kernel
theorem dX0_init_4 : decode cX0_init 4 = .ok (.aload_n 0, 1) := by decide +kernel
theorem dX0_init_5 : decode cX0_init 5 = .ok (.lconst 0, 1) := by decide +kernel
theorem dX0_init_6 : decode cX0_init 6 = .ok (.putfield 9, 3) := by decide +kernel
theorem dX0_init_9 : decode cX0_init 9 = .ok (.aload_n 0, 1) := by decide +kernel
theorem dX0_init_10 : decode cX0_init 10 = .ok (.lconst 1, 1) := by decide +kernel
theorem dX0_init_11 : decode cX0_init 11 = .ok (.putfield 15, 3) := by decide +kernel
theorem dX0_init_14 : decode cX0_init 14 = .ok (.return_, 1) := by decide +kernel
theorem dX0_part_0 : decode cX0_part 0 = .ok (.iload_n 1, 1) := by decide +kernel
theorem dX0_part_1 : decode cX0_part 1 = .ok (.ifCond .ne 10, 3) := by decide +kernel
theorem dX0_part_4 : decode cX0_part 4 = .ok (.aload_n 0, 1) := by decide +kernel
theorem dX0_part_5 : decode cX0_part 5 = .ok (.getfield 9, 3) := by decide +kernel
theorem dX0_part_8 : decode cX0_part 8 = .ok (.goto 7, 3) := by decide +kernel
theorem dX0_part_11 : decode cX0_part 11 = .ok (.aload_n 0, 1) := by decide +kernel
theorem dX0_part_12 : decode cX0_part 12 = .ok (.getfield 15, 3) := by decide +kernel
theorem dX0_part_15 : decode cX0_part 15 = .ok (.lreturn, 1) := by decide +kernel
theorem dX0_set_0 : decode cX0_set 0 = .ok (.lload_n 1, 1) := by decide +kernel
theorem dX0_set_1 : decode cX0_set 1 = .ok (.invokestatic 18, 3) := by decide +kernel
theorem dX0_set_4 : decode cX0_set 4 = .ok (.lload_n 3, 1) := by decide +kernel
theorem dX0_set_5 : decode cX0_set 5 = .ok (.invokestatic 24, 3) := by decide +kernel
theorem dX0_set_8 : decode cX0_set 8 = .ok (.lstore 5, 2) := by decide +kernel
theorem dX0_set_10 : decode cX0_set 10 = .ok (.aload_n 0, 1) := by decide +kernel
theorem dX0_set_11 : decode cX0_set 11 = .ok (.lload 5, 2) := by decide +kernel
theorem dX0_set_13 : decode cX0_set 13 = .ok (.lconst 0, 1) := by decide +kernel
theorem dX0_set_14 : decode cX0_set 14 = .ok (.lcmp, 1) := by decide +kernel
theorem dX0_set_15 : decode cX0_set 15 = .ok (.ifCond .le 10, 3) := by decide +kernel
theorem dX0_set_18 : decode cX0_set 18 = .ok (.lload_n 1, 1) := by decide +kernel
theorem dX0_set_19 : decode cX0_set 19 = .ok (.lload 5, 2) := by decide +kernel
theorem dX0_set_21 : decode cX0_set 21 = .ok (.ldiv, 1) := by decide +kernel
theorem dX0_set_22 : decode cX0_set 22 = .ok (.goto 4, 3) := by decide +kernel
theorem dX0_set_25 : decode cX0_set 25 = .ok (.lload_n 1, 1) := by decide +kernel
theorem dX0_set_26 : decode cX0_set 26 = .ok (.putfield 9, 3) := by decide +kernel
theorem dX0_set_29 : decode cX0_set 29 = .ok (.aload_n 0, 1) := by decide +kernel
theorem dX0_set_30 : decode cX0_set 30 = .ok (.lload 5, 2) := by decide +kernel
theorem dX0_set_32 : decode cX0_set 32 = .ok (.lconst 0, 1) := by decide +kernel
theorem dX0_set_33 : decode cX0_set 33 = .ok (.lcmp, 1) := by decide +kernel
theorem dX0_set_34 : decode cX0_set 34 = .ok (.ifCond .le 10, 3) := by decide +kernel
theorem dX0_set_37 : decode cX0_set 37 = .ok (.lload_n 3, 1) := by decide +kernel
theorem dX0_set_38 : decode cX0_set 38 = .ok (.lload 5, 2) := by decide +kernel
theorem dX0_set_40 : decode cX0_set 40 = .ok (.ldiv, 1) := by decide +kernel
theorem dX0_set_41 : decode cX0_set 41 = .ok (.goto 4, 3) := by decide +kernel
theorem dX0_set_44 : decode cX0_set 44 = .ok (.lload_n 3, 1) := by decide +kernel
theorem dX0_set_45 : decode cX0_set 45 = .ok (.putfield 15, 3) := by decide +kernel
theorem dX0_set_48 : decode cX0_set 48 = .ok (.return_, 1) := by decide +kernel
theorem dX1_fallOver_0 : decode cX1_fallOver 0 = .ok (.iload_n 1, 1) := by decide +kernel
theorem dX1_fallOver_1 : decode cX1_fallOver 1 = .ok (.aload_n 0, 1) := by decide +kernel
theorem dX1_fallOver_2 : decode cX1_fallOver 2 = .ok (.getfield 9, 3) := by decide +kernel
theorem dX1_fallOver_5 : decode cX1_fallOver 5 = .ok (.if_icmp .lt 5, 3) := by decide +kernel
theorem dX1_fallOver_8 : decode cX1_fallOver 8 = .ok (.lconst 0, 1) := by decide +kernel
theorem dX1_fallOver_9 : decode cX1_fallOver 9 = .ok (.lreturn, 1) := by decide +kernel
theorem dX1_fallOver_10 : decode cX1_fallOver 10 = .ok (.iload_n 1, 1) := by decide +kernel
theorem dX1_fallOver_11 : decode cX1_fallOver 11 = .ok (.ifCond .ne 10, 3) := by decide +kernel
theorem dX1_fallOver_14 : decode cX1_fallOver 14 = .ok (.aload_n 0, 1) := by decide +kernel
theorem dX1_fallOver_15 : decode cX1_fallOver 15 = .ok (.getfield 15, 3) := by decide +kernel
theorem dX1_fallOver_18 : decode cX1_fallOver 18 = .ok (.goto 11, 3) := by decide +kernel
theorem dX1_fallOver_21 : decode cX1_fallOver 21 = .ok (.aload_n 0, 1) := by decide +kernel
theorem dX1_fallOver_22 : decode cX1_fallOver 22 = .ok (.getfield 23, 3) := by decide +kernel
theorem dX1_fallOver_25 : decode cX1_fallOver 25 = .ok (.iload_n 1, 1) := by decide +kernel
theorem dX1_fallOver_26 : decode cX1_fallOver 26 = .ok (.iconst 1, 1) := by decide +kernel
theorem dX1_fallOver_27 : decode cX1_fallOver 27 = .ok (.isub, 1) := by decide +kernel
theorem dX1_fallOver_28 : decode cX1_fallOver 28 = .ok (.laload, 1) := by decide +kernel
theorem dX1_fallOver_29 : decode cX1_fallOver 29 = .ok (.aload_n 0, 1) := by decide +kernel
theorem dX1_fallOver_30 : decode cX1_fallOver 30 = .ok (.getfield 23, 3) := by decide +kernel
theorem dX1_fallOver_33 : decode cX1_fallOver 33 = .ok (.iload_n 1, 1) := by decide +kernel
theorem dX1_fallOver_34 : decode cX1_fallOver 34 = .ok (.laload, 1) := by decide +kernel
theorem dX1_fallOver_35 : decode cX1_fallOver 35 = .ok (.lsub, 1) := by decide +kernel
theorem dX1_fallOver_36 : decode cX1_fallOver 36 = .ok (.lreturn, 1) := by decide +kernel
theorem dX1_firstAmps_0 : decode cX1_firstAmps 0 = .ok (.aload_n 0, 1) := by decide +kernel
theorem dX1_firstAmps_1 : decode cX1_firstAmps 1 = .ok (.getfield 9, 3) := by decide +kernel
theorem dX1_firstAmps_4 : decode cX1_firstAmps 4 = .ok (.ifCond .le 12, 3) := by decide +kernel
theorem dX1_firstAmps_7 : decode cX1_firstAmps 7 = .ok (.aload_n 0, 1) := by decide +kernel
theorem dX1_firstAmps_8 : decode cX1_firstAmps 8 = .ok (.getfield 27, 3) := by decide +kernel
theorem dX1_firstAmps_11 : decode cX1_firstAmps 11 = .ok (.iconst 0, 1) := by decide +kernel
theorem dX1_firstAmps_12 : decode cX1_firstAmps 12 = .ok (.laload, 1) := by decide +kernel
theorem dX1_firstAmps_13 : decode cX1_firstAmps 13 = .ok (.goto 4, 3) := by decide +kernel
theorem dX1_firstAmps_16 : decode cX1_firstAmps 16 = .ok (.lconst 0, 1) := by decide +kernel
theorem dX1_firstAmps_17 : decode cX1_firstAmps 17 = .ok (.lreturn, 1) := by decide +kernel
theorem dX1_init_0 : decode cX1_init 0 = .ok (.aload_n 0, 1) := by decide +kernel
theorem dX1_init_1 : decode cX1_init 1 = .ok (.invokespecial 3, 3) := by decide +kernel
theorem dX1_init_4 : decode cX1_init 4 = .ok (.aload_n 0, 1) := by decide +kernel
theorem dX1_init_5 : decode cX1_init 5 = .ok (.iconst 0, 1) := by decide +kernel
theorem dX1_init_6 : decode cX1_init 6 = .ok (.putfield 9, 3) := by decide +kernel
theorem dX1_init_9 : decode cX1_init 9 = .ok (.aload_n 0, 1) := by decide +kernel
theorem dX1_init_10 : decode cX1_init 10 = .ok (.lconst 1, 1) := by decide +kernel
theorem dX1_init_11 : decode cX1_init 11 = .ok (.putfield 15, 3) := by decide +kernel
theorem dX1_init_14 : decode cX1_init 14 = .ok (.aload_n 0, 1) := by decide +kernel
theorem dX1_init_15 : decode cX1_init 15 = .ok (.iconst 5, 1) := by decide +kernel
theorem dX1_init_16 : decode cX1_init 16 = .ok (.newarray .int, 2) := by decide +kernel
theorem dX1_init_18 : decode cX1_init 18 = .ok (.putfield 19, 3) := by decide +kernel
theorem dX1_init_21 : decode cX1_init 21 = .ok (.aload_n 0, 1) := by decide +kernel
theorem dX1_init_22 : decode cX1_init 22 = .ok (.iconst 5, 1) := by decide +kernel
theorem dX1_init_23 : decode cX1_init 23 = .ok (.newarray .long, 2) := by decide +kernel
theorem dX1_init_25 : decode cX1_init 25 = .ok (.putfield 23, 3) := by decide +kernel
theorem dX1_init_28 : decode cX1_init 28 = .ok (.aload_n 0, 1) := by decide +kernel
theorem dX1_init_29 : decode cX1_init 29 = .ok (.iconst 5, 1) := by decide +kernel
theorem dX1_init_30 : decode cX1_init 30 = .ok (.newarray .long, 2) := by decide +kernel
theorem dX1_init_32 : decode cX1_init 32 = .ok (.putfield 27, 3) := by decide +kernel
theorem dX1_init_35 : decode cX1_init 35 = .ok (.return_, 1) := by decide +kernel
theorem dX1_isEnough_0 : decode cX1_isEnough 0 = .ok (.lload_n 2, 1) := by decide +kernel
theorem dX1_isEnough_1 : decode cX1_isEnough 1 = .ok (.aload_n 0, 1) := by decide +kernel
theorem dX1_isEnough_2 : decode cX1_isEnough 2 = .ok (.getfield 23, 3) := by decide +kernel
theorem dX1_isEnough_5 : decode cX1_isEnough 5 = .ok (.iload_n 1, 1) := by decide +kernel
theorem dX1_isEnough_6 : decode cX1_isEnough 6 = .ok (.laload, 1) := by decide +kernel
theorem dX1_isEnough_7 : decode cX1_isEnough 7 = .ok (.lmul, 1) := by decide +kernel
theorem dX1_isEnough_8 : decode cX1_isEnough 8 = .ok (.lload 4, 2) := by decide +kernel
theorem dX1_isEnough_10 : decode cX1_isEnough 10 = .ok (.aload_n 0, 1) := by decide +kernel
theorem dX1_isEnough_11 : decode cX1_isEnough 11 = .ok (.getfield 15, 3) := by decide +kernel
theorem dX1_isEnough_14 : decode cX1_isEnough 14 = .ok (.lmul, 1) := by decide +kernel
theorem dX1_isEnough_15 : decode cX1_isEnough 15 = .ok (.lcmp, 1) := by decide +kernel
theorem dX1_isEnough_16 : decode cX1_isEnough 16 = .ok (.ifCond .lt 7, 3) := by decide +kernel
theorem dX1_isEnough_19 : decode cX1_isEnough 19 = .ok (.iconst 1, 1) := by decide +kernel
theorem dX1_isEnough_20 : decode cX1_isEnough 20 = .ok (.goto 4, 3) := by decide +kernel
theorem dX1_isEnough_23 : decode cX1_isEnough 23 = .ok (.iconst 0, 1) := by decide +kernel
theorem dX1_isEnough_24 : decode cX1_isEnough 24 = .ok (.ireturn, 1) := by decide +kernel
theorem dX1_leaksMore_0 : decode cX1_leaksMore 0 = .ok (.aload_n 0, 1) := by decide +kernel
theorem dX1_leaksMore_1 : decode cX1_leaksMore 1 = .ok (.getfield 23, 3) := by decide +kernel
theorem dX1_leaksMore_4 : decode cX1_leaksMore 4 = .ok (.iload_n 1, 1) := by decide +kernel
theorem dX1_leaksMore_5 : decode cX1_leaksMore 5 = .ok (.laload, 1) := by decide +kernel
theorem dX1_leaksMore_6 : decode cX1_leaksMore 6 = .ok (.aload_n 0, 1) := by decide +kernel
theorem dX1_leaksMore_7 : decode cX1_leaksMore 7 = .ok (.getfield 19, 3) := by decide +kernel
theorem dX1_leaksMore_10 : decode cX1_leaksMore 10 = .ok (.iload_n 2, 1) := by decide +kernel
theorem dX1_leaksMore_11 : decode cX1_leaksMore 11 = .ok (.iaload, 1) := by decide +kernel
theorem dX1_leaksMore_12 : decode cX1_leaksMore 12 = .ok (.i2l, 1) := by decide +kernel
theorem dX1_leaksMore_13 : decode cX1_leaksMore 13 = .ok (.lmul, 1) := by decide +kernel
theorem dX1_leaksMore_14 : decode cX1_leaksMore 14 = .ok (.aload_n 0, 1) := by decide +kernel
theorem dX1_leaksMore_15 : decode cX1_leaksMore 15 = .ok (.getfield 23, 3) := by decide +kernel
theorem dX1_leaksMore_18 : decode cX1_leaksMore 18 = .ok (.iload_n 2, 1) := by decide +kernel
theorem dX1_leaksMore_19 : decode cX1_leaksMore 19 = .ok (.laload, 1) := by decide +kernel
theorem dX1_leaksMore_20 : decode cX1_leaksMore 20 = .ok (.aload_n 0, 1) := by decide +kernel
theorem dX1_leaksMore_21 : decode cX1_leaksMore 21 = .ok (.getfield 19, 3) := by decide +kernel
