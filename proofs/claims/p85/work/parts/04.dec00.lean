theorem dJ6_bitCount_0f7a4_0 : decode cJ6_bitCount_0f7a4 0 = .ok (.iload_n 0, 1) := by decide +kernel
theorem dJ6_bitCount_0f7a4_1 : decode cJ6_bitCount_0f7a4 1 = .ok (.iload_n 0, 1) := by decide +kernel
theorem dJ6_bitCount_0f7a4_2 : decode cJ6_bitCount_0f7a4 2 = .ok (.iconst 1, 1) := by decide +kernel
theorem dJ6_bitCount_0f7a4_3 : decode cJ6_bitCount_0f7a4 3 = .ok (.iushr, 1) := by decide +kernel
theorem dJ6_bitCount_0f7a4_4 : decode cJ6_bitCount_0f7a4 4 = .ok (.ldc_w 265, 3) := by decide +kernel
theorem dJ6_bitCount_0f7a4_7 : decode cJ6_bitCount_0f7a4 7 = .ok (.iand, 1) := by decide +kernel
theorem dJ6_bitCount_0f7a4_8 : decode cJ6_bitCount_0f7a4 8 = .ok (.isub, 1) := by decide +kernel
theorem dJ6_bitCount_0f7a4_9 : decode cJ6_bitCount_0f7a4 9 = .ok (.istore_n 0, 1) := by decide +kernel
theorem dJ6_bitCount_0f7a4_10 : decode cJ6_bitCount_0f7a4 10 = .ok (.iload_n 0, 1) := by decide +kernel
theorem dJ6_bitCount_0f7a4_11 : decode cJ6_bitCount_0f7a4 11 = .ok (.ldc_w 266, 3) := by decide +kernel
theorem dJ6_bitCount_0f7a4_14 : decode cJ6_bitCount_0f7a4 14 = .ok (.iand, 1) := by decide +kernel
theorem dJ6_bitCount_0f7a4_15 : decode cJ6_bitCount_0f7a4 15 = .ok (.iload_n 0, 1) := by decide +kernel
theorem dJ6_bitCount_0f7a4_16 : decode cJ6_bitCount_0f7a4 16 = .ok (.iconst 2, 1) := by decide +kernel
theorem dJ6_bitCount_0f7a4_17 : decode cJ6_bitCount_0f7a4 17 = .ok (.iushr, 1) := by decide +kernel
theorem dJ6_bitCount_0f7a4_18 : decode cJ6_bitCount_0f7a4 18 = .ok (.ldc_w 266, 3) := by decide +kernel
theorem dJ6_bitCount_0f7a4_21 : decode cJ6_bitCount_0f7a4 21 = .ok (.iand, 1) := by decide +kernel
theorem dJ6_bitCount_0f7a4_22 : decode cJ6_bitCount_0f7a4 22 = .ok (.iadd, 1) := by decide +kernel
theorem dJ6_bitCount_0f7a4_23 : decode cJ6_bitCount_0f7a4 23 = .ok (.istore_n 0, 1) := by decide +kernel
theorem dJ6_bitCount_0f7a4_24 : decode cJ6_bitCount_0f7a4 24 = .ok (.iload_n 0, 1) := by decide +kernel
theorem dJ6_bitCount_0f7a4_25 : decode cJ6_bitCount_0f7a4 25 = .ok (.iload_n 0, 1) := by decide +kernel
theorem dJ6_bitCount_0f7a4_26 : decode cJ6_bitCount_0f7a4 26 = .ok (.iconst 4, 1) := by decide +kernel
theorem dJ6_bitCount_0f7a4_27 : decode cJ6_bitCount_0f7a4 27 = .ok (.iushr, 1) := by decide +kernel
theorem dJ6_bitCount_0f7a4_28 : decode cJ6_bitCount_0f7a4 28 = .ok (.iadd, 1) := by decide +kernel
theorem dJ6_bitCount_0f7a4_29 : decode cJ6_bitCount_0f7a4 29 = .ok (.ldc_w 267, 3) := by decide +kernel
theorem dJ6_bitCount_0f7a4_32 : decode cJ6_bitCount_0f7a4 32 = .ok (.iand, 1) := by decide +kernel
theorem dJ6_bitCount_0f7a4_33 : decode cJ6_bitCount_0f7a4 33 = .ok (.istore_n 0, 1) := by decide +kernel
theorem dJ6_bitCount_0f7a4_34 : decode cJ6_bitCount_0f7a4 34 = .ok (.iload_n 0, 1) := by decide +kernel
theorem dJ6_bitCount_0f7a4_35 : decode cJ6_bitCount_0f7a4 35 = .ok (.iload_n 0, 1) := by decide +kernel
theorem dJ6_bitCount_0f7a4_36 : decode cJ6_bitCount_0f7a4 36 = .ok (.bipush 8, 2) := by decide +kernel
theorem dJ6_bitCount_0f7a4_38 : decode cJ6_bitCount_0f7a4 38 = .ok (.iushr, 1) := by decide +kernel
theorem dJ6_bitCount_0f7a4_39 : decode cJ6_bitCount_0f7a4 39 = .ok (.iadd, 1) := by decide +kernel
theorem dJ6_bitCount_0f7a4_40 : decode cJ6_bitCount_0f7a4 40 = .ok (.istore_n 0, 1) := by decide +kernel
theorem dJ6_bitCount_0f7a4_41 : decode cJ6_bitCount_0f7a4 41 = .ok (.iload_n 0, 1) := by decide +kernel
theorem dJ6_bitCount_0f7a4_42 : decode cJ6_bitCount_0f7a4 42 = .ok (.iload_n 0, 1) := by decide +kernel
theorem dJ6_bitCount_0f7a4_43 : decode cJ6_bitCount_0f7a4 43 = .ok (.bipush 16, 2) := by decide +kernel
theorem dJ6_bitCount_0f7a4_45 : decode cJ6_bitCount_0f7a4 45 = .ok (.iushr, 1) := by decide +kernel
theorem dJ6_bitCount_0f7a4_46 : decode cJ6_bitCount_0f7a4 46 = .ok (.iadd, 1) := by decide +kernel
theorem dJ6_bitCount_0f7a4_47 : decode cJ6_bitCount_0f7a4 47 = .ok (.istore_n 0, 1) := by decide +kernel
theorem dJ6_bitCount_0f7a4_48 : decode cJ6_bitCount_0f7a4 48 = .ok (.iload_n 0, 1) := by decide +kernel
theorem dJ6_bitCount_0f7a4_49 : decode cJ6_bitCount_0f7a4 49 = .ok (.bipush 63, 2) := by decide +kernel
theorem dJ6_bitCount_0f7a4_51 : decode cJ6_bitCount_0f7a4 51 = .ok (.iand, 1) := by decide +kernel
theorem dJ6_bitCount_0f7a4_52 : decode cJ6_bitCount_0f7a4 52 = .ok (.ireturn, 1) := by decide +kernel
theorem dJ6_numberOfLeadingZeros_0f7a4_0 : decode cJ6_numberOfLeadingZeros_0f7a4 0 = .ok (.iload_n 0, 1) := by decide +kernel
theorem dJ6_numberOfLeadingZeros_0f7a4_1 : decode cJ6_numberOfLeadingZeros_0f7a4 1 = .ok (.ifCond .gt 14, 3) := by decide +kernel
theorem dJ6_numberOfLeadingZeros_0f7a4_4 : decode cJ6_numberOfLeadingZeros_0f7a4 4 = .ok (.iload_n 0, 1) := by decide +kernel
theorem dJ6_numberOfLeadingZeros_0f7a4_5 : decode cJ6_numberOfLeadingZeros_0f7a4 5 = .ok (.ifCond .ne 8, 3) := by decide +kernel
theorem dJ6_numberOfLeadingZeros_0f7a4_8 : decode cJ6_numberOfLeadingZeros_0f7a4 8 = .ok (.bipush 32, 2) := by decide +kernel
theorem dJ6_numberOfLeadingZeros_0f7a4_10 : decode cJ6_numberOfLeadingZeros_0f7a4 10 = .ok (.goto 4, 3) := by decide +kernel
theorem dJ6_numberOfLeadingZeros_0f7a4_13 : decode cJ6_numberOfLeadingZeros_0f7a4 13 = .ok (.iconst 0, 1) := by decide +kernel
theorem dJ6_numberOfLeadingZeros_0f7a4_14 : decode cJ6_numberOfLeadingZeros_0f7a4 14 = .ok (.ireturn, 1) := by decide +kernel
theorem dJ6_numberOfLeadingZeros_0f7a4_15 : decode cJ6_numberOfLeadingZeros_0f7a4 15 = .ok (.bipush 31, 2) := by decide +kernel
theorem dJ6_numberOfLeadingZeros_0f7a4_17 : decode cJ6_numberOfLeadingZeros_0f7a4 17 = .ok (.istore_n 1, 1) := by decide +kernel
theorem dJ6_numberOfLeadingZeros_0f7a4_18 : decode cJ6_numberOfLeadingZeros_0f7a4 18 = .ok (.iload_n 0, 1) := by decide +kernel
theorem dJ6_numberOfLeadingZeros_0f7a4_19 : decode cJ6_numberOfLeadingZeros_0f7a4 19 = .ok (.ldc_w 264, 3) := by decide +kernel
theorem dJ6_numberOfLeadingZeros_0f7a4_22 : decode cJ6_numberOfLeadingZeros_0f7a4 22 = .ok (.if_icmp .lt 11, 3) := by decide +kernel
theorem dJ6_numberOfLeadingZeros_0f7a4_25 : decode cJ6_numberOfLeadingZeros_0f7a4 25 = .ok (.iinc 1 (-16), 3) := by decide +kernel
theorem dJ6_numberOfLeadingZeros_0f7a4_28 : decode cJ6_numberOfLeadingZeros_0f7a4 28 = .ok (.iload_n 0, 1) := by decide +kernel
theorem dJ6_numberOfLeadingZeros_0f7a4_29 : decode cJ6_numberOfLeadingZeros_0f7a4 29 = .ok (.bipush 16, 2) := by decide +kernel
theorem dJ6_numberOfLeadingZeros_0f7a4_31 : decode cJ6_numberOfLeadingZeros_0f7a4 31 = .ok (.iushr, 1) := by decide +kernel
theorem dJ6_numberOfLeadingZeros_0f7a4_32 : decode cJ6_numberOfLeadingZeros_0f7a4 32 = .ok (.istore_n 0, 1) := by decide +kernel
theorem dJ6_numberOfLeadingZeros_0f7a4_33 : decode cJ6_numberOfLeadingZeros_0f7a4 33 = .ok (.iload_n 0, 1) := by decide +kernel
theorem dJ6_numberOfLeadingZeros_0f7a4_34 : decode cJ6_numberOfLeadingZeros_0f7a4 34 = .ok (.sipush 256, 3) := by decide +kernel
theorem dJ6_numberOfLeadingZeros_0f7a4_37 : decode cJ6_numberOfLeadingZeros_0f7a4 37 = .ok (.if_icmp .lt 11, 3) := by decide +kernel
theorem dJ6_numberOfLeadingZeros_0f7a4_40 : decode cJ6_numberOfLeadingZeros_0f7a4 40 = .ok (.iinc 1 (-8), 3) := by decide +kernel
theorem dJ6_numberOfLeadingZeros_0f7a4_43 : decode cJ6_numberOfLeadingZeros_0f7a4 43 = .ok (.iload_n 0, 1) := by decide +kernel
theorem dJ6_numberOfLeadingZeros_0f7a4_44 : decode cJ6_numberOfLeadingZeros_0f7a4 44 = .ok (.bipush 8, 2) := by decide +kernel
theorem dJ6_numberOfLeadingZeros_0f7a4_46 : decode cJ6_numberOfLeadingZeros_0f7a4 46 = .ok (.iushr, 1) := by decide +kernel
theorem dJ6_numberOfLeadingZeros_0f7a4_47 : decode cJ6_numberOfLeadingZeros_0f7a4 47 = .ok (.istore_n 0, 1) := by decide +kernel
theorem dJ6_numberOfLeadingZeros_0f7a4_48 : decode cJ6_numberOfLeadingZeros_0f7a4 48 = .ok (.iload_n 0, 1) := by decide +kernel
theorem dJ6_numberOfLeadingZeros_0f7a4_49 : decode cJ6_numberOfLeadingZeros_0f7a4 49 = .ok (.bipush 16, 2) := by decide +kernel
theorem dJ6_numberOfLeadingZeros_0f7a4_51 : decode cJ6_numberOfLeadingZeros_0f7a4 51 = .ok (.if_icmp .lt 10, 3) := by decide +kernel
theorem dJ6_numberOfLeadingZeros_0f7a4_54 : decode cJ6_numberOfLeadingZeros_0f7a4 54 = .ok (.iinc 1 (-4), 3) := by decide +kernel
theorem dJ6_numberOfLeadingZeros_0f7a4_57 : decode cJ6_numberOfLeadingZeros_0f7a4 57 = .ok (.iload_n 0, 1) := by decide +kernel
theorem dJ6_numberOfLeadingZeros_0f7a4_58 : decode cJ6_numberOfLeadingZeros_0f7a4 58 = .ok (.iconst 4, 1) := by decide +kernel
theorem dJ6_numberOfLeadingZeros_0f7a4_59 : decode cJ6_numberOfLeadingZeros_0f7a4 59 = .ok (.iushr, 1) := by decide +kernel
theorem dJ6_numberOfLeadingZeros_0f7a4_60 : decode cJ6_numberOfLeadingZeros_0f7a4 60 = .ok (.istore_n 0, 1) := by decide +kernel
theorem dJ6_numberOfLeadingZeros_0f7a4_61 : decode cJ6_numberOfLeadingZeros_0f7a4 61 = .ok (.iload_n 0, 1) := by decide +kernel
theorem dJ6_numberOfLeadingZeros_0f7a4_62 : decode cJ6_numberOfLeadingZeros_0f7a4 62 = .ok (.iconst 4, 1) := by decide +kernel
theorem dJ6_numberOfLeadingZeros_0f7a4_63 : decode cJ6_numberOfLeadingZeros_0f7a4 63 = .ok (.if_icmp .lt 10, 3) := by decide +kernel
theorem dJ6_numberOfLeadingZeros_0f7a4_66 : decode cJ6_numberOfLeadingZeros_0f7a4 66 = .ok (.iinc 1 (-2), 3) := by decide +kernel
theorem dJ6_numberOfLeadingZeros_0f7a4_69 : decode cJ6_numberOfLeadingZeros_0f7a4 69 = .ok (.iload_n 0, 1) := by decide +kernel
theorem dJ6_numberOfLeadingZeros_0f7a4_70 : decode cJ6_numberOfLeadingZeros_0f7a4 70 = .ok (.iconst 2, 1) := by decide +kernel
theorem dJ6_numberOfLeadingZeros_0f7a4_71 : decode cJ6_numberOfLeadingZeros_0f7a4 71 = .ok (.iushr, 1) := by decide +kernel
theorem dJ6_numberOfLeadingZeros_0f7a4_72 : decode cJ6_numberOfLeadingZeros_0f7a4 72 = .ok (.istore_n 0, 1) := by decide +kernel
theorem dJ6_numberOfLeadingZeros_0f7a4_73 : decode cJ6_numberOfLeadingZeros_0f7a4 73 = .ok (.iload_n 1, 1) := by decide +kernel
theorem dJ6_numberOfLeadingZeros_0f7a4_74 : decode cJ6_numberOfLeadingZeros_0f7a4 74 = .ok (.iload_n 0, 1) := by decide +kernel
theorem dJ6_numberOfLeadingZeros_0f7a4_75 : decode cJ6_numberOfLeadingZeros_0f7a4 75 = .ok (.iconst 1, 1) := by decide +kernel
theorem dJ6_numberOfLeadingZeros_0f7a4_76 : decode cJ6_numberOfLeadingZeros_0f7a4 76 = .ok (.iushr, 1) := by decide +kernel
theorem dJ6_numberOfLeadingZeros_0f7a4_77 : decode cJ6_numberOfLeadingZeros_0f7a4 77 = .ok (.isub, 1) := by decide +kernel
theorem dJ6_numberOfLeadingZeros_0f7a4_78 : decode cJ6_numberOfLeadingZeros_0f7a4 78 = .ok (.ireturn, 1) := by decide +kernel
theorem dJ6_numberOfTrailingZeros_0f7a4_0 : decode cJ6_numberOfTrailingZeros_0f7a4 0 = .ok (.iload_n 0, 1) := by decide +kernel
theorem dJ6_numberOfTrailingZeros_0f7a4_1 : decode cJ6_numberOfTrailingZeros_0f7a4 1 = .ok (.iconst (-1), 1) := by decide +kernel
theorem dJ6_numberOfTrailingZeros_0f7a4_2 : decode cJ6_numberOfTrailingZeros_0f7a4 2 = .ok (.ixor, 1) := by decide +kernel
theorem dJ6_numberOfTrailingZeros_0f7a4_3 : decode cJ6_numberOfTrailingZeros_0f7a4 3 = .ok (.iload_n 0, 1) := by decide +kernel
theorem dJ6_numberOfTrailingZeros_0f7a4_4 : decode cJ6_numberOfTrailingZeros_0f7a4 4 = .ok (.iconst 1, 1) := by decide +kernel
theorem dJ6_numberOfTrailingZeros_0f7a4_5 : decode cJ6_numberOfTrailingZeros_0f7a4 5 = .ok (.isub, 1) := by decide +kernel
theorem dJ6_numberOfTrailingZeros_0f7a4_6 : decode cJ6_numberOfTrailingZeros_0f7a4 6 = .ok (.iand, 1) := by decide +kernel
theorem dJ6_numberOfTrailingZeros_0f7a4_7 : decode cJ6_numberOfTrailingZeros_0f7a4 7 = .ok (.istore_n 0, 1) := by decide +kernel
theorem dJ6_numberOfTrailingZeros_0f7a4_8 : decode cJ6_numberOfTrailingZeros_0f7a4 8 = .ok (.iload_n 0, 1) := by decide +kernel
theorem dJ6_numberOfTrailingZeros_0f7a4_9 : decode cJ6_numberOfTrailingZeros_0f7a4 9 = .ok (.ifCond .gt 8, 3) := by decide +kernel
theorem dJ6_numberOfTrailingZeros_0f7a4_12 : decode cJ6_numberOfTrailingZeros_0f7a4 12 = .ok (.iload_n 0, 1) := by decide +kernel
theorem dJ6_numberOfTrailingZeros_0f7a4_13 : decode cJ6_numberOfTrailingZeros_0f7a4 13 = .ok (.bipush 32, 2) := by decide +kernel
theorem dJ6_numberOfTrailingZeros_0f7a4_15 : decode cJ6_numberOfTrailingZeros_0f7a4 15 = .ok (.iand, 1) := by decide +kernel
theorem dJ6_numberOfTrailingZeros_0f7a4_16 : decode cJ6_numberOfTrailingZeros_0f7a4 16 = .ok (.ireturn, 1) := by decide +kernel
theorem dJ6_numberOfTrailingZeros_0f7a4_17 : decode cJ6_numberOfTrailingZeros_0f7a4 17 = .ok (.iconst 1, 1) := by decide +kernel
theorem dJ6_numberOfTrailingZeros_0f7a4_18 : decode cJ6_numberOfTrailingZeros_0f7a4 18 = .ok (.istore_n 1, 1) := by decide +kernel
theorem dJ6_numberOfTrailingZeros_0f7a4_19 : decode cJ6_numberOfTrailingZeros_0f7a4 19 = .ok (.iload_n 0, 1) := by decide +kernel
theorem dJ6_numberOfTrailingZeros_0f7a4_20 : decode cJ6_numberOfTrailingZeros_0f7a4 20 = .ok (.ldc_w 264, 3) := by decide +kernel
theorem dJ6_numberOfTrailingZeros_0f7a4_23 : decode cJ6_numberOfTrailingZeros_0f7a4 23 = .ok (.if_icmp .le 11, 3) := by decide +kernel
theorem dJ6_numberOfTrailingZeros_0f7a4_26 : decode cJ6_numberOfTrailingZeros_0f7a4 26 = .ok (.iinc 1 16, 3) := by decide +kernel
theorem dJ6_numberOfTrailingZeros_0f7a4_29 : decode cJ6_numberOfTrailingZeros_0f7a4 29 = .ok (.iload_n 0, 1) := by decide +kernel
theorem dJ6_numberOfTrailingZeros_0f7a4_30 : decode cJ6_numberOfTrailingZeros_0f7a4 30 = .ok (.bipush 16, 2) := by decide +kernel
theorem dJ6_numberOfTrailingZeros_0f7a4_32 : decode cJ6_numberOfTrailingZeros_0f7a4 32 = .ok (.iushr, 1) := by decide +kernel
theorem dJ6_numberOfTrailingZeros_0f7a4_33 : decode cJ6_numberOfTrailingZeros_0f7a4 33 = .ok (.istore_n 0, 1) := by decide +kernel
theorem dJ6_numberOfTrailingZeros_0f7a4_34 : decode cJ6_numberOfTrailingZeros_0f7a4 34 = .ok (.iload_n 0, 1) := by decide +kernel
theorem dJ6_numberOfTrailingZeros_0f7a4_35 : decode cJ6_numberOfTrailingZeros_0f7a4 35 = .ok (.sipush 256, 3) := by decide +kernel
theorem dJ6_numberOfTrailingZeros_0f7a4_38 : decode cJ6_numberOfTrailingZeros_0f7a4 38 = .ok (.if_icmp .le 11, 3) := by decide +kernel
theorem dJ6_numberOfTrailingZeros_0f7a4_41 : decode cJ6_numberOfTrailingZeros_0f7a4 41 = .ok (.iinc 1 8, 3) := by decide +kernel
theorem dJ6_numberOfTrailingZeros_0f7a4_44 : decode cJ6_numberOfTrailingZeros_0f7a4 44 = .ok (.iload_n 0, 1) := by decide +kernel
theorem dJ6_numberOfTrailingZeros_0f7a4_45 : decode cJ6_numberOfTrailingZeros_0f7a4 45 = .ok (.bipush 8, 2) := by decide +kernel
theorem dJ6_numberOfTrailingZeros_0f7a4_47 : decode cJ6_numberOfTrailingZeros_0f7a4 47 = .ok (.iushr, 1) := by decide +kernel
theorem dJ6_numberOfTrailingZeros_0f7a4_48 : decode cJ6_numberOfTrailingZeros_0f7a4 48 = .ok (.istore_n 0, 1) := by decide +kernel
theorem dJ6_numberOfTrailingZeros_0f7a4_49 : decode cJ6_numberOfTrailingZeros_0f7a4 49 = .ok (.iload_n 0, 1) := by decide +kernel
theorem dJ6_numberOfTrailingZeros_0f7a4_50 : decode cJ6_numberOfTrailingZeros_0f7a4 50 = .ok (.bipush 16, 2) := by decide +kernel
theorem dJ6_numberOfTrailingZeros_0f7a4_52 : decode cJ6_numberOfTrailingZeros_0f7a4 52 = .ok (.if_icmp .le 10, 3) := by decide +kernel
theorem dJ6_numberOfTrailingZeros_0f7a4_55 : decode cJ6_numberOfTrailingZeros_0f7a4 55 = .ok (.iinc 1 4, 3) := by decide +kernel
theorem dJ6_numberOfTrailingZeros_0f7a4_58 : decode cJ6_numberOfTrailingZeros_0f7a4 58 = .ok (.iload_n 0, 1) := by decide +kernel
theorem dJ6_numberOfTrailingZeros_0f7a4_59 : decode cJ6_numberOfTrailingZeros_0f7a4 59 = .ok (.iconst 4, 1) := by decide +kernel
theorem dJ6_numberOfTrailingZeros_0f7a4_60 : decode cJ6_numberOfTrailingZeros_0f7a4 60 = .ok (.iushr, 1) := by decide +kernel
theorem dJ6_numberOfTrailingZeros_0f7a4_61 : decode cJ6_numberOfTrailingZeros_0f7a4 61 = .ok (.istore_n 0, 1) := by decide +kernel
theorem dJ6_numberOfTrailingZeros_0f7a4_62 : decode cJ6_numberOfTrailingZeros_0f7a4 62 = .ok (.iload_n 0, 1) := by decide +kernel
theorem dJ6_numberOfTrailingZeros_0f7a4_63 : decode cJ6_numberOfTrailingZeros_0f7a4 63 = .ok (.iconst 4, 1) := by decide +kernel
theorem dJ6_numberOfTrailingZeros_0f7a4_64 : decode cJ6_numberOfTrailingZeros_0f7a4 64 = .ok (.if_icmp .le 10, 3) := by decide +kernel
theorem dJ6_numberOfTrailingZeros_0f7a4_67 : decode cJ6_numberOfTrailingZeros_0f7a4 67 = .ok (.iinc 1 2, 3) := by decide +kernel
theorem dJ6_numberOfTrailingZeros_0f7a4_70 : decode cJ6_numberOfTrailingZeros_0f7a4 70 = .ok (.iload_n 0, 1) := by decide +kernel
theorem dJ6_numberOfTrailingZeros_0f7a4_71 : decode cJ6_numberOfTrailingZeros_0f7a4 71 = .ok (.iconst 2, 1) := by decide +kernel
theorem dJ6_numberOfTrailingZeros_0f7a4_72 : decode cJ6_numberOfTrailingZeros_0f7a4 72 = .ok (.iushr, 1) := by decide +kernel
theorem dJ6_numberOfTrailingZeros_0f7a4_73 : decode cJ6_numberOfTrailingZeros_0f7a4 73 = .ok (.istore_n 0, 1) := by decide +kernel
theorem dJ6_numberOfTrailingZeros_0f7a4_74 : decode cJ6_numberOfTrailingZeros_0f7a4 74 = .ok (.iload_n 1, 1) := by decide +kernel
theorem dJ6_numberOfTrailingZeros_0f7a4_75 : decode cJ6_numberOfTrailingZeros_0f7a4 75 = .ok (.iload_n 0, 1) := by decide +kernel
theorem dJ6_numberOfTrailingZeros_0f7a4_76 : decode cJ6_numberOfTrailingZeros_0f7a4 76 = .ok (.iconst 1, 1) := by decide +kernel
theorem dJ6_numberOfTrailingZeros_0f7a4_77 : decode cJ6_numberOfTrailingZeros_0f7a4 77 = .ok (.iushr, 1) := by decide +kernel
theorem dJ6_numberOfTrailingZeros_0f7a4_78 : decode cJ6_numberOfTrailingZeros_0f7a4 78 = .ok (.iadd, 1) := by decide +kernel
theorem dJ6_numberOfTrailingZeros_0f7a4_79 : decode cJ6_numberOfTrailingZeros_0f7a4 79 = .ok (.ireturn, 1) := by decide +kernel
theorem dX0_commonDivisor_0 : decode cX0_commonDivisor 0 = .ok (.lload_n 0, 1) := by decide +kernel
theorem dX0_commonDivisor_1 : decode cX0_commonDivisor 1 = .ok (.lstore 4, 2) := by decide +kernel
theorem dX0_commonDivisor_3 : decode cX0_commonDivisor 3 = .ok (.lload_n 2, 1) := by decide +kernel
theorem dX0_commonDivisor_4 : decode cX0_commonDivisor 4 = .ok (.lstore 6, 2) := by decide +kernel
theorem dX0_commonDivisor_6 : decode cX0_commonDivisor 6 = .ok (.iconst 0, 1) := by decide +kernel
theorem dX0_commonDivisor_7 : decode cX0_commonDivisor 7 = .ok (.istore 8, 2) := by decide +kernel
theorem dX0_commonDivisor_9 : decode cX0_commonDivisor 9 = .ok (.iload 8, 2) := by decide +kernel
theorem dX0_commonDivisor_11 : decode cX0_commonDivisor 11 = .ok (.bipush 100, 2) := by decide +kernel
theorem dX0_commonDivisor_13 : decode cX0_commonDivisor 13 = .ok (.if_icmp .ge 31, 3) := by decide +kernel
theorem dX0_commonDivisor_16 : decode cX0_commonDivisor 16 = .ok (.lload 6, 2) := by decide +kernel
theorem dX0_commonDivisor_18 : decode cX0_commonDivisor 18 = .ok (.lconst 0, 1) := by decide +kernel
theorem dX0_commonDivisor_19 : decode cX0_commonDivisor 19 = .ok (.lcmp, 1) := by decide +kernel
theorem dX0_commonDivisor_20 : decode cX0_commonDivisor 20 = .ok (.ifCond .eq 24, 3) := by decide +kernel
theorem dX0_commonDivisor_23 : decode cX0_commonDivisor 23 = .ok (.lload 4, 2) := by decide +kernel
theorem dX0_commonDivisor_25 : decode cX0_commonDivisor 25 = .ok (.lload 6, 2) := by decide +kernel
theorem dX0_commonDivisor_27 : decode cX0_commonDivisor 27 = .ok (.lrem, 1) := by decide +kernel
theorem dX0_commonDivisor_28 : decode cX0_commonDivisor 28 = .ok (.lstore 9, 2) := by decide +kernel
theorem dX0_commonDivisor_30 : decode cX0_commonDivisor 30 = .ok (.lload 6, 2) := by decide +kernel
theorem dX0_commonDivisor_32 : decode cX0_commonDivisor 32 = .ok (.lstore 4, 2) := by decide +kernel
theorem dX0_commonDivisor_34 : decode cX0_commonDivisor 34 = .ok (.lload 9, 2) := by decide +kernel
theorem dX0_commonDivisor_36 : decode cX0_commonDivisor 36 = .ok (.lstore 6, 2) := by decide +kernel
theorem dX0_commonDivisor_38 : decode cX0_commonDivisor 38 = .ok (.iinc 8 1, 3) := by decide +kernel
theorem dX0_commonDivisor_41 : decode cX0_commonDivisor 41 = .ok (.goto (-32), 3) := by decide +kernel
theorem dX0_commonDivisor_44 : decode cX0_commonDivisor 44 = .ok (.lload 4, 2) := by decide +kernel
theorem dX0_commonDivisor_46 : decode cX0_commonDivisor 46 = .ok (.lreturn, 1) := by decide +kernel
theorem dX0_part_0 : decode cX0_part 0 = .ok (.iload_n 1, 1) := by decide +kernel
theorem dX0_part_1 : decode cX0_part 1 = .ok (.ifCond .ne 10, 3) := by decide +kernel
theorem dX0_part_4 : decode cX0_part 4 = .ok (.aload_n 0, 1) := by decide +kernel
theorem dX0_part_5 : decode cX0_part 5 = .ok (.getfield 9, 3) := by decide +kernel
theorem dX0_part_8 : decode cX0_part 8 = .ok (.goto 7, 3) := by decide +kernel
theorem dX0_part_11 : decode cX0_part 11 = .ok (.aload_n 0, 1) := by decide +kernel
theorem dX0_part_12 : decode cX0_part 12 = .ok (.getfield 15, 3) := by decide +kernel
theorem dX0_part_15 : decode cX0_part 15 = .ok (.lreturn, 1) := by decide +kernel
theorem dX0_set_0 : decode cX0_set 0 = .ok (.lload_n 1, 1) := by decide +kernel
theorem dX0_set_1 : decode cX0_set 1 = .ok (.invokestatic 18, 3) := by decide +kernel
theorem dX0_set_4 : decode cX0_set 4 = .ok (.lload_n 3, 1) := by decide +kernel
theorem dX0_set_5 : decode cX0_set 5 = .ok (.invokestatic 24, 3) := by decide +kernel
theorem dX0_set_8 : decode cX0_set 8 = .ok (.lstore 5, 2) := by decide +kernel
theorem dX0_set_10 : decode cX0_set 10 = .ok (.aload_n 0, 1) := by decide +kernel
theorem dX0_set_11 : decode cX0_set 11 = .ok (.lload 5, 2) := by decide +kernel
theorem dX0_set_13 : decode cX0_set 13 = .ok (.lconst 0, 1) := by decide +kernel
theorem dX0_set_14 : decode cX0_set 14 = .ok (.lcmp, 1) := by decide +kernel
theorem dX0_set_15 : decode cX0_set 15 = .ok (.ifCond .le 10, 3) := by decide +kernel
theorem dX0_set_18 : decode cX0_set 18 = .ok (.lload_n 1, 1) := by decide +kernel
theorem dX0_set_19 : decode cX0_set 19 = .ok (.lload 5, 2) := by decide +kernel
theorem dX0_set_21 : decode cX0_set 21 = .ok (.ldiv, 1) := by decide +kernel
theorem dX0_set_22 : decode cX0_set 22 = .ok (.goto 4, 3) := by decide +kernel
theorem dX0_set_25 : decode cX0_set 25 = .ok (.lload_n 1, 1) := by decide +kernel
theorem dX0_set_26 : decode cX0_set 26 = .ok (.putfield 9, 3) := by decide +kernel
theorem dX0_set_29 : decode cX0_set 29 = .ok (.aload_n 0, 1) := by decide +kernel
theorem dX0_set_30 : decode cX0_set 30 = .ok (.lload 5, 2) := by decide +kernel
theorem dX0_set_32 : decode cX0_set 32 = .ok (.lconst 0, 1) := by decide +kernel
theorem dX0_set_33 : decode cX0_set 33 = .ok (.lcmp, 1) := by decide +kernel
theorem dX0_set_34 : decode cX0_set 34 = .ok (.ifCond .le 10, 3) := by decide +kernel
theorem dX0_set_37 : decode cX0_set 37 = .ok (.lload_n 3, 1) := by decide +kernel
theorem dX0_set_38 : decode cX0_set 38 = .ok (.lload 5, 2) := by decide +kernel
theorem dX0_set_40 : decode cX0_set 40 = .ok (.ldiv, 1) := by decide +kernel
theorem dX0_set_41 : decode cX0_set 41 = .ok (.goto 4, 3) := by decide +kernel
theorem dX0_set_44 : decode cX0_set 44 = .ok (.lload_n 3, 1) := by decide +kernel
theorem dX0_set_45 : decode cX0_set 45 = .ok (.putfield 15, 3) := by decide +kernel
theorem dX0_set_48 : decode cX0_set 48 = .ok (.return_, 1) := by decide +kernel
theorem dX1_fallOver_0 : decode cX1_fallOver 0 = .ok (.iload_n 1, 1) := by decide +kernel
theorem dX1_fallOver_1 : decode cX1_fallOver 1 = .ok (.aload_n 0, 1) := by decide +kernel
theorem dX1_fallOver_2 : decode cX1_fallOver 2 = .ok (.getfield 9, 3) := by decide +kernel
theorem dX1_fallOver_5 : decode cX1_fallOver 5 = .ok (.if_icmp .lt 5, 3) := by decide +kernel
theorem dX1_fallOver_8 : decode cX1_fallOver 8 = .ok (.lconst 0, 1) := by decide +kernel
theorem dX1_fallOver_9 : decode cX1_fallOver 9 = .ok (.lreturn, 1) := by decide +kernel
theorem dX1_fallOver_10 : decode cX1_fallOver 10 = .ok (.iload_n 1, 1) := by decide +kernel
theorem dX1_fallOver_11 : decode cX1_fallOver 11 = .ok (.ifCond .ne 10, 3) := by decide +kernel
theorem dX1_fallOver_14 : decode cX1_fallOver 14 = .ok (.aload_n 0, 1) := by decide +kernel
theorem dX1_fallOver_15 : decode cX1_fallOver 15 = .ok (.getfield 15, 3) := by decide +kernel
theorem dX1_fallOver_18 : decode cX1_fallOver 18 = .ok (.goto 11, 3) := by decide +kernel
theorem dX1_fallOver_21 : decode cX1_fallOver 21 = .ok (.aload_n 0, 1) := by decide +kernel
theorem dX1_fallOver_22 : decode cX1_fallOver 22 = .ok (.getfield 23, 3) := by decide +kernel
theorem dX1_fallOver_25 : decode cX1_fallOver 25 = .ok (.iload_n 1, 1) := by decide +kernel
theorem dX1_fallOver_26 : decode cX1_fallOver 26 = .ok (.iconst 1, 1) := by decide +kernel
theorem dX1_fallOver_27 : decode cX1_fallOver 27 = .ok (.isub, 1) := by decide +kernel
theorem dX1_fallOver_28 : decode cX1_fallOver 28 = .ok (.laload, 1) := by decide +kernel
theorem dX1_fallOver_29 : decode cX1_fallOver 29 = .ok (.aload_n 0, 1) := by decide +kernel
theorem dX1_fallOver_30 : decode cX1_fallOver 30 = .ok (.getfield 23, 3) := by decide +kernel
theorem dX1_fallOver_33 : decode cX1_fallOver 33 = .ok (.iload_n 1, 1) := by decide +kernel
theorem dX1_fallOver_34 : decode cX1_fallOver 34 = .ok (.laload, 1) := by decide +kernel
theorem dX1_fallOver_35 : decode cX1_fallOver 35 = .ok (.lsub, 1) := by decide +kernel
theorem dX1_fallOver_36 : decode cX1_fallOver 36 = .ok (.lreturn, 1) := by decide +kernel
theorem dX1_firstAmps_0 : decode cX1_firstAmps 0 = .ok (.aload_n 0, 1) := by decide +kernel
theorem dX1_firstAmps_1 : decode cX1_firstAmps 1 = .ok (.getfield 9, 3) := by decide +kernel
theorem dX1_firstAmps_4 : decode cX1_firstAmps 4 = .ok (.ifCond .le 12, 3) := by decide +kernel
theorem dX1_firstAmps_7 : decode cX1_firstAmps 7 = .ok (.aload_n 0, 1) := by decide +kernel
theorem dX1_firstAmps_8 : decode cX1_firstAmps 8 = .ok (.getfield 27, 3) := by decide +kernel
theorem dX1_firstAmps_11 : decode cX1_firstAmps 11 = .ok (.iconst 0, 1) := by decide +kernel
theorem dX1_firstAmps_12 : decode cX1_firstAmps 12 = .ok (.laload, 1) := by decide +kernel
theorem dX1_firstAmps_13 : decode cX1_firstAmps 13 = .ok (.goto 4, 3) := by decide +kernel
theorem dX1_firstAmps_16 : decode cX1_firstAmps 16 = .ok (.lconst 0, 1) := by decide +kernel
theorem dX1_firstAmps_17 : decode cX1_firstAmps 17 = .ok (.lreturn, 1) := by decide +kernel
theorem dX1_isEnough_0 : decode cX1_isEnough 0 = .ok (.lload_n 2, 1) := by decide +kernel
theorem dX1_isEnough_1 : decode cX1_isEnough 1 = .ok (.aload_n 0, 1) := by decide +kernel
theorem dX1_isEnough_2 : decode cX1_isEnough 2 = .ok (.getfield 23, 3) := by decide +kernel
theorem dX1_isEnough_5 : decode cX1_isEnough 5 = .ok (.iload_n 1, 1) := by decide +kernel
theorem dX1_isEnough_6 : decode cX1_isEnough 6 = .ok (.laload, 1) := by decide +kernel
theorem dX1_isEnough_7 : decode cX1_isEnough 7 = .ok (.lmul, 1) := by decide +kernel
theorem dX1_isEnough_8 : decode cX1_isEnough 8 = .ok (.lload 4, 2) := by decide +kernel
theorem dX1_isEnough_10 : decode cX1_isEnough 10 = .ok (.aload_n 0, 1) := by decide +kernel
theorem dX1_isEnough_11 : decode cX1_isEnough 11 = .ok (.getfield 15, 3) := by decide +kernel
theorem dX1_isEnough_14 : decode cX1_isEnough 14 = .ok (.lmul, 1) := by decide +kernel
theorem dX1_isEnough_15 : decode cX1_isEnough 15 = .ok (.lcmp, 1) := by decide +kernel
theorem dX1_isEnough_16 : decode cX1_isEnough 16 = .ok (.ifCond .lt 7, 3) := by decide +kernel
theorem dX1_isEnough_19 : decode cX1_isEnough 19 = .ok (.iconst 1, 1) := by decide +kernel
theorem dX1_isEnough_20 : decode cX1_isEnough 20 = .ok (.goto 4, 3) := by decide +kernel
theorem dX1_isEnough_23 : decode cX1_isEnough 23 = .ok (.iconst 0, 1) := by decide +kernel
theorem dX1_isEnough_24 : decode cX1_isEnough 24 = .ok (.ireturn, 1) := by decide +kernel
theorem dX1_leaksMore_0 : decode cX1_leaksMore 0 = .ok (.aload_n 0, 1) := by decide +kernel
theorem dX1_leaksMore_1 : decode cX1_leaksMore 1 = .ok (.getfield 23, 3) := by decide +kernel
theorem dX1_leaksMore_4 : decode cX1_leaksMore 4 = .ok (.iload_n 1, 1) := by decide +kernel
theorem dX1_leaksMore_5 : decode cX1_leaksMore 5 = .ok (.laload, 1) := by decide +kernel
theorem dX1_leaksMore_6 : decode cX1_leaksMore 6 = .ok (.aload_n 0, 1) := by decide +kernel
theorem dX1_leaksMore_7 : decode cX1_leaksMore 7 = .ok (.getfield 19, 3) := by decide +kernel
theorem dX1_leaksMore_10 : decode cX1_leaksMore 10 = .ok (.iload_n 2, 1) := by decide +kernel
theorem dX1_leaksMore_11 : decode cX1_leaksMore 11 = .ok (.iaload, 1) := by decide +kernel
theorem dX1_leaksMore_12 : decode cX1_leaksMore 12 = .ok (.i2l, 1) := by decide +kernel
theorem dX1_leaksMore_13 : decode cX1_leaksMore 13 = .ok (.lmul, 1) := by decide +kernel
theorem dX1_leaksMore_14 : decode cX1_leaksMore 14 = .ok (.aload_n 0, 1) := by decide +kernel
theorem dX1_leaksMore_15 : decode cX1_leaksMore 15 = .ok (.getfield 23, 3) := by decide +kernel
theorem dX1_leaksMore_18 : decode cX1_leaksMore 18 = .ok (.iload_n 2, 1) := by decide +kernel
theorem dX1_leaksMore_19 : decode cX1_leaksMore 19 = .ok (.laload, 1) := by decide +kernel
theorem dX1_leaksMore_20 : decode cX1_leaksMore 20 = .ok (.aload_n 0, 1) := by decide +kernel
theorem dX1_leaksMore_21 : decode cX1_leaksMore 21 = .ok (.getfield 19, 3) := by decide +kernel
theorem dX1_leaksMore_24 : decode cX1_leaksMore 24 = .ok (.iload_n 1, 1) := by decide +kernel
theorem dX1_leaksMore_25 : decode cX1_leaksMore 25 = .ok (.iaload, 1) := by decide +kernel
theorem dX1_leaksMore_26 : decode cX1_leaksMore 26 = .ok (.i2l, 1) := by decide +kernel
theorem dX1_leaksMore_27 : decode cX1_leaksMore 27 = .ok (.lmul, 1) := by decide +kernel
theorem dX1_leaksMore_28 : decode cX1_leaksMore 28 = .ok (.lcmp, 1) := by decide +kernel
theorem dX1_leaksMore_29 : decode cX1_leaksMore 29 = .ok (.ifCond .le 7, 3) := by decide +kernel
theorem dX1_leaksMore_32 : decode cX1_leaksMore 32 = .ok (.iconst 1, 1) := by decide +kernel
theorem dX1_leaksMore_33 : decode cX1_leaksMore 33 = .ok (.goto 4, 3) := by decide +kernel
theorem dX1_leaksMore_36 : decode cX1_leaksMore 36 = .ok (.iconst 0, 1) := by decide +kernel
theorem dX1_leaksMore_37 : decode cX1_leaksMore 37 = .ok (.ireturn, 1) := by decide +kernel
theorem dX1_readsInto_0 : decode cX1_readsInto 0 = .ok (.aload_n 1, 1) := by decide +kernel
theorem dX1_readsInto_1 : decode cX1_readsInto 1 = .ok (.aload_n 0, 1) := by decide +kernel
theorem dX1_readsInto_2 : decode cX1_readsInto 2 = .ok (.getfield 15, 3) := by decide +kernel
theorem dX1_readsInto_5 : decode cX1_readsInto 5 = .ok (.aload_n 0, 1) := by decide +kernel
theorem dX1_readsInto_6 : decode cX1_readsInto 6 = .ok (.invokevirtual 54, 3) := by decide +kernel
theorem dX1_readsInto_9 : decode cX1_readsInto 9 = .ok (.invokevirtual 58, 3) := by decide +kernel
theorem dX1_readsInto_12 : decode cX1_readsInto 12 = .ok (.return_, 1) := by decide +kernel
theorem dX1_settle_0 : decode cX1_settle 0 = .ok (.aload_n 0, 1) := by decide +kernel
theorem dX1_settle_1 : decode cX1_settle 1 = .ok (.aload_n 2, 1) := by decide +kernel
theorem dX1_settle_2 : decode cX1_settle 2 = .ok (.aload_n 1, 1) := by decide +kernel
theorem dX1_settle_3 : decode cX1_settle 3 = .ok (.iload_n 3, 1) := by decide +kernel
theorem dX1_settle_4 : decode cX1_settle 4 = .ok (.invokevirtual 30, 3) := by decide +kernel
theorem dX1_settle_7 : decode cX1_settle 7 = .ok (.putfield 9, 3) := by decide +kernel
theorem dX1_settle_10 : decode cX1_settle 10 = .ok (.lconst 1, 1) := by decide +kernel
theorem dX1_settle_11 : decode cX1_settle 11 = .ok (.lstore 4, 2) := by decide +kernel
theorem dX1_settle_13 : decode cX1_settle 13 = .ok (.iconst 0, 1) := by decide +kernel
theorem dX1_settle_14 : decode cX1_settle 14 = .ok (.istore 6, 2) := by decide +kernel
theorem dX1_settle_16 : decode cX1_settle 16 = .ok (.iload 6, 2) := by decide +kernel
theorem dX1_settle_18 : decode cX1_settle 18 = .ok (.aload_n 1, 1) := by decide +kernel
theorem dX1_settle_19 : decode cX1_settle 19 = .ok (.getfield 36, 3) := by decide +kernel
theorem dX1_settle_22 : decode cX1_settle 22 = .ok (.if_icmp .ge 71, 3) := by decide +kernel
theorem dX1_settle_25 : decode cX1_settle 25 = .ok (.aload_n 0, 1) := by decide +kernel
theorem dX1_settle_26 : decode cX1_settle 26 = .ok (.getfield 19, 3) := by decide +kernel
theorem dX1_settle_29 : decode cX1_settle 29 = .ok (.iload 6, 2) := by decide +kernel
theorem dX1_settle_31 : decode cX1_settle 31 = .ok (.iconst 1, 1) := by decide +kernel
theorem dX1_settle_32 : decode cX1_settle 32 = .ok (.aload_n 2, 1) := by decide +kernel
theorem dX1_settle_33 : decode cX1_settle 33 = .ok (.aload_n 1, 1) := by decide +kernel
theorem dX1_settle_34 : decode cX1_settle 34 = .ok (.iload 6, 2) := by decide +kernel
theorem dX1_settle_36 : decode cX1_settle 36 = .ok (.iload_n 3, 1) := by decide +kernel
theorem dX1_settle_37 : decode cX1_settle 37 = .ok (.invokevirtual 41, 3) := by decide +kernel
theorem dX1_settle_40 : decode cX1_settle 40 = .ok (.invokestatic 45, 3) := by decide +kernel
theorem dX1_settle_43 : decode cX1_settle 43 = .ok (.iastore, 1) := by decide +kernel
theorem dX1_settle_44 : decode cX1_settle 44 = .ok (.aload_n 0, 1) := by decide +kernel
theorem dX1_settle_45 : decode cX1_settle 45 = .ok (.getfield 23, 3) := by decide +kernel
theorem dX1_settle_48 : decode cX1_settle 48 = .ok (.iload 6, 2) := by decide +kernel
theorem dX1_settle_50 : decode cX1_settle 50 = .ok (.lconst 0, 1) := by decide +kernel
theorem dX1_settle_51 : decode cX1_settle 51 = .ok (.lastore, 1) := by decide +kernel
theorem dX1_settle_52 : decode cX1_settle 52 = .ok (.aload_n 0, 1) := by decide +kernel
theorem dX1_settle_53 : decode cX1_settle 53 = .ok (.getfield 27, 3) := by decide +kernel
theorem dX1_settle_56 : decode cX1_settle 56 = .ok (.iload 6, 2) := by decide +kernel
theorem dX1_settle_58 : decode cX1_settle 58 = .ok (.lconst 0, 1) := by decide +kernel
theorem dX1_settle_59 : decode cX1_settle 59 = .ok (.lastore, 1) := by decide +kernel
theorem dX1_settle_60 : decode cX1_settle 60 = .ok (.iload 6, 2) := by decide +kernel
theorem dX1_settle_62 : decode cX1_settle 62 = .ok (.aload_n 0, 1) := by decide +kernel
theorem dX1_settle_63 : decode cX1_settle 63 = .ok (.getfield 9, 3) := by decide +kernel
theorem dX1_settle_66 : decode cX1_settle 66 = .ok (.if_icmp .ge 17, 3) := by decide +kernel
theorem dX1_settle_69 : decode cX1_settle 69 = .ok (.lload 4, 2) := by decide +kernel
theorem dX1_settle_71 : decode cX1_settle 71 = .ok (.aload_n 0, 1) := by decide +kernel
theorem dX1_settle_72 : decode cX1_settle 72 = .ok (.getfield 19, 3) := by decide +kernel
theorem dX1_settle_75 : decode cX1_settle 75 = .ok (.iload 6, 2) := by decide +kernel
theorem dX1_settle_77 : decode cX1_settle 77 = .ok (.iaload, 1) := by decide +kernel
theorem dX1_settle_78 : decode cX1_settle 78 = .ok (.i2l, 1) := by decide +kernel
theorem dX1_settle_79 : decode cX1_settle 79 = .ok (.lmul, 1) := by decide +kernel
theorem dX1_settle_80 : decode cX1_settle 80 = .ok (.goto 5, 3) := by decide +kernel
theorem dX1_settle_83 : decode cX1_settle 83 = .ok (.lload 4, 2) := by decide +kernel
theorem dX1_settle_85 : decode cX1_settle 85 = .ok (.lstore 4, 2) := by decide +kernel
theorem dX1_settle_87 : decode cX1_settle 87 = .ok (.iinc 6 1, 3) := by decide +kernel
theorem dX1_settle_90 : decode cX1_settle 90 = .ok (.goto (-74), 3) := by decide +kernel
theorem dX1_settle_93 : decode cX1_settle 93 = .ok (.lload 4, 2) := by decide +kernel
theorem dX1_settle_95 : decode cX1_settle 95 = .ok (.lstore 6, 2) := by decide +kernel
theorem dX1_settle_97 : decode cX1_settle 97 = .ok (.lconst 0, 1) := by decide +kernel
theorem dX1_settle_98 : decode cX1_settle 98 = .ok (.lstore 8, 2) := by decide +kernel
theorem dX1_settle_100 : decode cX1_settle 100 = .ok (.aload_n 0, 1) := by decide +kernel
theorem dX1_settle_101 : decode cX1_settle 101 = .ok (.getfield 9, 3) := by decide +kernel
theorem dX1_settle_104 : decode cX1_settle 104 = .ok (.iconst 1, 1) := by decide +kernel
theorem dX1_settle_105 : decode cX1_settle 105 = .ok (.isub, 1) := by decide +kernel
theorem dX1_settle_106 : decode cX1_settle 106 = .ok (.istore 10, 2) := by decide +kernel
theorem dX1_settle_108 : decode cX1_settle 108 = .ok (.iload 10, 2) := by decide +kernel
theorem dX1_settle_110 : decode cX1_settle 110 = .ok (.ifCond .lt 73, 3) := by decide +kernel
theorem dX1_settle_113 : decode cX1_settle 113 = .ok (.aload_n 0, 1) := by decide +kernel
theorem dX1_settle_114 : decode cX1_settle 114 = .ok (.getfield 23, 3) := by decide +kernel
theorem dX1_settle_117 : decode cX1_settle 117 = .ok (.iload 10, 2) := by decide +kernel
theorem dX1_settle_119 : decode cX1_settle 119 = .ok (.lload 6, 2) := by decide +kernel
theorem dX1_settle_121 : decode cX1_settle 121 = .ok (.lastore, 1) := by decide +kernel
theorem dX1_settle_122 : decode cX1_settle 122 = .ok (.lload 8, 2) := by decide +kernel
theorem dX1_settle_124 : decode cX1_settle 124 = .ok (.aload_n 0, 1) := by decide +kernel
theorem dX1_settle_125 : decode cX1_settle 125 = .ok (.getfield 19, 3) := by decide +kernel
theorem dX1_settle_128 : decode cX1_settle 128 = .ok (.iload 10, 2) := by decide +kernel
theorem dX1_settle_130 : decode cX1_settle 130 = .ok (.iaload, 1) := by decide +kernel
theorem dX1_settle_131 : decode cX1_settle 131 = .ok (.ifCond .le 17, 3) := by decide +kernel
theorem dX1_settle_134 : decode cX1_settle 134 = .ok (.lload 6, 2) := by decide +kernel
theorem dX1_settle_136 : decode cX1_settle 136 = .ok (.aload_n 0, 1) := by decide +kernel
theorem dX1_settle_137 : decode cX1_settle 137 = .ok (.getfield 19, 3) := by decide +kernel
theorem dX1_settle_140 : decode cX1_settle 140 = .ok (.iload 10, 2) := by decide +kernel
theorem dX1_settle_142 : decode cX1_settle 142 = .ok (.iaload, 1) := by decide +kernel
theorem dX1_settle_143 : decode cX1_settle 143 = .ok (.i2l, 1) := by decide +kernel
theorem dX1_settle_144 : decode cX1_settle 144 = .ok (.ldiv, 1) := by decide +kernel
theorem dX1_settle_145 : decode cX1_settle 145 = .ok (.goto 4, 3) := by decide +kernel
theorem dX1_settle_148 : decode cX1_settle 148 = .ok (.lconst 0, 1) := by decide +kernel
theorem dX1_settle_149 : decode cX1_settle 149 = .ok (.ladd, 1) := by decide +kernel
theorem dX1_settle_150 : decode cX1_settle 150 = .ok (.lstore 8, 2) := by decide +kernel
theorem dX1_settle_152 : decode cX1_settle 152 = .ok (.aload_n 0, 1) := by decide +kernel
theorem dX1_settle_153 : decode cX1_settle 153 = .ok (.getfield 27, 3) := by decide +kernel
theorem dX1_settle_156 : decode cX1_settle 156 = .ok (.iload 10, 2) := by decide +kernel
theorem dX1_settle_158 : decode cX1_settle 158 = .ok (.lload 8, 2) := by decide +kernel
theorem dX1_settle_160 : decode cX1_settle 160 = .ok (.lastore, 1) := by decide +kernel
theorem dX1_settle_161 : decode cX1_settle 161 = .ok (.lload 6, 2) := by decide +kernel
theorem dX1_settle_163 : decode cX1_settle 163 = .ok (.aload_n 2, 1) := by decide +kernel
theorem dX1_settle_164 : decode cX1_settle 164 = .ok (.getfield 51, 3) := by decide +kernel
theorem dX1_settle_167 : decode cX1_settle 167 = .ok (.iload 10, 2) := by decide +kernel
theorem dX1_settle_169 : decode cX1_settle 169 = .ok (.iaload, 1) := by decide +kernel
theorem dX1_settle_170 : decode cX1_settle 170 = .ok (.i2l, 1) := by decide +kernel
theorem dX1_settle_171 : decode cX1_settle 171 = .ok (.lload 8, 2) := by decide +kernel
theorem dX1_settle_173 : decode cX1_settle 173 = .ok (.lmul, 1) := by decide +kernel
theorem dX1_settle_174 : decode cX1_settle 174 = .ok (.ladd, 1) := by decide +kernel
theorem dX1_settle_175 : decode cX1_settle 175 = .ok (.lstore 6, 2) := by decide +kernel
theorem dX1_settle_177 : decode cX1_settle 177 = .ok (.iinc 10 (-1), 3) := by decide +kernel
theorem dX1_settle_180 : decode cX1_settle 180 = .ok (.goto (-72), 3) := by decide +kernel
theorem dX1_settle_183 : decode cX1_settle 183 = .ok (.aload_n 0, 1) := by decide +kernel
theorem dX1_settle_184 : decode cX1_settle 184 = .ok (.lload 6, 2) := by decide +kernel
theorem dX1_settle_186 : decode cX1_settle 186 = .ok (.putfield 15, 3) := by decide +kernel
theorem dX1_settle_189 : decode cX1_settle 189 = .ok (.return_, 1) := by decide +kernel
theorem dX2_firstSnap_0 : decode cX2_firstSnap 0 = .ok (.aload_n 0, 1) := by decide +kernel
theorem dX2_firstSnap_1 : decode cX2_firstSnap 1 = .ok (.getfield 61, 3) := by decide +kernel
theorem dX2_firstSnap_4 : decode cX2_firstSnap 4 = .ok (.iload_n 1, 1) := by decide +kernel
theorem dX2_firstSnap_5 : decode cX2_firstSnap 5 = .ok (.iaload, 1) := by decide +kernel
theorem dX2_firstSnap_6 : decode cX2_firstSnap 6 = .ok (.ifCond .ne 7, 3) := by decide +kernel
theorem dX2_firstSnap_9 : decode cX2_firstSnap 9 = .ok (.iconst (-1), 1) := by decide +kernel
theorem dX2_firstSnap_10 : decode cX2_firstSnap 10 = .ok (.goto 12, 3) := by decide +kernel
theorem dX2_firstSnap_13 : decode cX2_firstSnap 13 = .ok (.aload_n 0, 1) := by decide +kernel
