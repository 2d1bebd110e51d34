theorem dX9_grounds_7 : decode cX9_grounds 7 = .ok (.i2l, 1) := by decide +kernel
theorem dX9_grounds_8 : decode cX9_grounds 8 = .ok (.invokevirtual 289, 3) := by decide +kernel
theorem dX9_grounds_11 : decode cX9_grounds 11 = .ok (.ifCond .ne 6, 3) := by decide +kernel
theorem dX9_grounds_14 : decode cX9_grounds 14 = .ok (.bipush (-2), 2) := by decide +kernel
theorem dX9_grounds_16 : decode cX9_grounds 16 = .ok (.ireturn, 1) := by decide +kernel
theorem dX9_grounds_17 : decode cX9_grounds 17 = .ok (.aload_n 0, 1) := by decide +kernel
theorem dX9_grounds_18 : decode cX9_grounds 18 = .ok (.invokevirtual 286, 3) := by decide +kernel
theorem dX9_grounds_21 : decode cX9_grounds 21 = .ok (.iconst 0, 1) := by decide +kernel
theorem dX9_grounds_22 : decode cX9_grounds 22 = .ok (.istore_n 2, 1) := by decide +kernel
theorem dX9_grounds_23 : decode cX9_grounds 23 = .ok (.iconst 0, 1) := by decide +kernel
theorem dX9_grounds_24 : decode cX9_grounds 24 = .ok (.istore_n 3, 1) := by decide +kernel
theorem dX9_grounds_25 : decode cX9_grounds 25 = .ok (.iload_n 3, 1) := by decide +kernel
theorem dX9_grounds_26 : decode cX9_grounds 26 = .ok (.aload_n 0, 1) := by decide +kernel
theorem dX9_grounds_27 : decode cX9_grounds 27 = .ok (.invokevirtual 212, 3) := by decide +kernel
theorem dX9_grounds_30 : decode cX9_grounds 30 = .ok (.if_icmp .ge 18, 3) := by decide +kernel
theorem dX9_grounds_33 : decode cX9_grounds 33 = .ok (.iload_n 2, 1) := by decide +kernel
theorem dX9_grounds_34 : decode cX9_grounds 34 = .ok (.aload_n 0, 1) := by decide +kernel
theorem dX9_grounds_35 : decode cX9_grounds 35 = .ok (.iload_n 3, 1) := by decide +kernel
theorem dX9_grounds_36 : decode cX9_grounds 36 = .ok (.iload_n 1, 1) := by decide +kernel
theorem dX9_grounds_37 : decode cX9_grounds 37 = .ok (.invokevirtual 256, 3) := by decide +kernel
theorem dX9_grounds_40 : decode cX9_grounds 40 = .ok (.iadd, 1) := by decide +kernel
theorem dX9_grounds_41 : decode cX9_grounds 41 = .ok (.istore_n 2, 1) := by decide +kernel
theorem dX9_grounds_42 : decode cX9_grounds 42 = .ok (.iinc 3 1, 3) := by decide +kernel
theorem dX9_grounds_45 : decode cX9_grounds 45 = .ok (.goto (-20), 3) := by decide +kernel
theorem dX9_grounds_48 : decode cX9_grounds 48 = .ok (.iload_n 2, 1) := by decide +kernel
theorem dX9_grounds_49 : decode cX9_grounds 49 = .ok (.ireturn, 1) := by decide +kernel
theorem dX9_half_0 : decode cX9_half 0 = .ok (.aload_n 0, 1) := by decide +kernel
theorem dX9_half_1 : decode cX9_half 1 = .ok (.iconst 0, 1) := by decide +kernel
theorem dX9_half_2 : decode cX9_half 2 = .ok (.putfield 68, 3) := by decide +kernel
theorem dX9_half_5 : decode cX9_half 5 = .ok (.aload_n 0, 1) := by decide +kernel
theorem dX9_half_6 : decode cX9_half 6 = .ok (.iload_n 1, 1) := by decide +kernel
theorem dX9_half_7 : decode cX9_half 7 = .ok (.i2l, 1) := by decide +kernel
theorem dX9_half_8 : decode cX9_half 8 = .ok (.invokevirtual 289, 3) := by decide +kernel
theorem dX9_half_11 : decode cX9_half 11 = .ok (.ifCond .ne 6, 3) := by decide +kernel
theorem dX9_half_14 : decode cX9_half 14 = .ok (.bipush (-2), 2) := by decide +kernel
theorem dX9_half_16 : decode cX9_half 16 = .ok (.ireturn, 1) := by decide +kernel
theorem dX9_half_17 : decode cX9_half 17 = .ok (.aload_n 0, 1) := by decide +kernel
theorem dX9_half_18 : decode cX9_half 18 = .ok (.invokevirtual 286, 3) := by decide +kernel
theorem dX9_half_21 : decode cX9_half 21 = .ok (.aload_n 0, 1) := by decide +kernel
theorem dX9_half_22 : decode cX9_half 22 = .ok (.iload_n 1, 1) := by decide +kernel
theorem dX9_half_23 : decode cX9_half 23 = .ok (.invokevirtual 262, 3) := by decide +kernel
theorem dX9_half_26 : decode cX9_half 26 = .ok (.iconst 0, 1) := by decide +kernel
theorem dX9_half_27 : decode cX9_half 27 = .ok (.istore_n 2, 1) := by decide +kernel
theorem dX9_half_28 : decode cX9_half 28 = .ok (.iload_n 2, 1) := by decide +kernel
theorem dX9_half_29 : decode cX9_half 29 = .ok (.aload_n 0, 1) := by decide +kernel
theorem dX9_half_30 : decode cX9_half 30 = .ok (.invokevirtual 212, 3) := by decide +kernel
theorem dX9_half_33 : decode cX9_half 33 = .ok (.if_icmp .ge 28, 3) := by decide +kernel
theorem dX9_half_36 : decode cX9_half 36 = .ok (.ldc2_w 281, 3) := by decide +kernel
theorem dX9_half_39 : decode cX9_half 39 = .ok (.aload_n 0, 1) := by decide +kernel
theorem dX9_half_40 : decode cX9_half 40 = .ok (.iload_n 2, 1) := by decide +kernel
theorem dX9_half_41 : decode cX9_half 41 = .ok (.invokevirtual 304, 3) := by decide +kernel
theorem dX9_half_44 : decode cX9_half 44 = .ok (.lmul, 1) := by decide +kernel
theorem dX9_half_45 : decode cX9_half 45 = .ok (.aload_n 0, 1) := by decide +kernel
theorem dX9_half_46 : decode cX9_half 46 = .ok (.getfield 259, 3) := by decide +kernel
theorem dX9_half_49 : decode cX9_half 49 = .ok (.lcmp, 1) := by decide +kernel
theorem dX9_half_50 : decode cX9_half 50 = .ok (.ifCond .gt 5, 3) := by decide +kernel
theorem dX9_half_53 : decode cX9_half 53 = .ok (.iload_n 2, 1) := by decide +kernel
theorem dX9_half_54 : decode cX9_half 54 = .ok (.ireturn, 1) := by decide +kernel
theorem dX9_half_55 : decode cX9_half 55 = .ok (.iinc 2 1, 3) := by decide +kernel
theorem dX9_half_58 : decode cX9_half 58 = .ok (.goto (-30), 3) := by decide +kernel
theorem dX9_half_61 : decode cX9_half 61 = .ok (.iconst (-1), 1) := by decide +kernel
theorem dX9_half_62 : decode cX9_half 62 = .ok (.ireturn, 1) := by decide +kernel
theorem dX9_hasRead_0 : decode cX9_hasRead 0 = .ok (.aload_n 0, 1) := by decide +kernel
theorem dX9_hasRead_1 : decode cX9_hasRead 1 = .ok (.getfield 34, 3) := by decide +kernel
theorem dX9_hasRead_4 : decode cX9_hasRead 4 = .ok (.bipush 28, 2) := by decide +kernel
theorem dX9_hasRead_6 : decode cX9_hasRead 6 = .ok (.iload_n 1, 1) := by decide +kernel
theorem dX9_hasRead_7 : decode cX9_hasRead 7 = .ok (.iadd, 1) := by decide +kernel
theorem dX9_hasRead_8 : decode cX9_hasRead 8 = .ok (.iaload, 1) := by decide +kernel
theorem dX9_hasRead_9 : decode cX9_hasRead 9 = .ok (.ireturn, 1) := by decide +kernel
theorem dX9_hears_0 : decode cX9_hears 0 = .ok (.aload_n 0, 1) := by decide +kernel
theorem dX9_hears_1 : decode cX9_hears 1 = .ok (.iconst 0, 1) := by decide +kernel
theorem dX9_hears_2 : decode cX9_hears 2 = .ok (.putfield 68, 3) := by decide +kernel
theorem dX9_hears_5 : decode cX9_hears 5 = .ok (.aload_n 0, 1) := by decide +kernel
theorem dX9_hears_6 : decode cX9_hears 6 = .ok (.iload_n 1, 1) := by decide +kernel
theorem dX9_hears_7 : decode cX9_hears 7 = .ok (.i2l, 1) := by decide +kernel
theorem dX9_hears_8 : decode cX9_hears 8 = .ok (.invokevirtual 289, 3) := by decide +kernel
theorem dX9_hears_11 : decode cX9_hears 11 = .ok (.ifCond .ne 6, 3) := by decide +kernel
theorem dX9_hears_14 : decode cX9_hears 14 = .ok (.bipush (-2), 2) := by decide +kernel
theorem dX9_hears_16 : decode cX9_hears 16 = .ok (.ireturn, 1) := by decide +kernel
theorem dX9_hears_17 : decode cX9_hears 17 = .ok (.aload_n 0, 1) := by decide +kernel
theorem dX9_hears_18 : decode cX9_hears 18 = .ok (.invokevirtual 286, 3) := by decide +kernel
theorem dX9_hears_21 : decode cX9_hears 21 = .ok (.aload_n 0, 1) := by decide +kernel
theorem dX9_hears_22 : decode cX9_hears 22 = .ok (.iload_n 1, 1) := by decide +kernel
theorem dX9_hears_23 : decode cX9_hears 23 = .ok (.invokevirtual 271, 3) := by decide +kernel
theorem dX9_hears_26 : decode cX9_hears 26 = .ok (.ireturn, 1) := by decide +kernel
theorem dX9_hearsOn_0 : decode cX9_hearsOn 0 = .ok (.aload_n 0, 1) := by decide +kernel
theorem dX9_hearsOn_1 : decode cX9_hearsOn 1 = .ok (.iload_n 1, 1) := by decide +kernel
theorem dX9_hearsOn_2 : decode cX9_hearsOn 2 = .ok (.invokevirtual 262, 3) := by decide +kernel
theorem dX9_hearsOn_5 : decode cX9_hearsOn 5 = .ok (.iconst 0, 1) := by decide +kernel
theorem dX9_hearsOn_6 : decode cX9_hearsOn 6 = .ok (.istore_n 2, 1) := by decide +kernel
theorem dX9_hearsOn_7 : decode cX9_hearsOn 7 = .ok (.iconst 0, 1) := by decide +kernel
theorem dX9_hearsOn_8 : decode cX9_hearsOn 8 = .ok (.istore_n 3, 1) := by decide +kernel
theorem dX9_hearsOn_9 : decode cX9_hearsOn 9 = .ok (.iload_n 3, 1) := by decide +kernel
theorem dX9_hearsOn_10 : decode cX9_hearsOn 10 = .ok (.aload_n 0, 1) := by decide +kernel
theorem dX9_hearsOn_11 : decode cX9_hearsOn 11 = .ok (.invokevirtual 212, 3) := by decide +kernel
theorem dX9_hearsOn_14 : decode cX9_hearsOn 14 = .ok (.if_icmp .ge 27, 3) := by decide +kernel
theorem dX9_hearsOn_17 : decode cX9_hearsOn 17 = .ok (.iload_n 2, 1) := by decide +kernel
theorem dX9_hearsOn_18 : decode cX9_hearsOn 18 = .ok (.aload_n 0, 1) := by decide +kernel
theorem dX9_hearsOn_19 : decode cX9_hearsOn 19 = .ok (.iload_n 3, 1) := by decide +kernel
theorem dX9_hearsOn_20 : decode cX9_hearsOn 20 = .ok (.invokevirtual 265, 3) := by decide +kernel
theorem dX9_hearsOn_23 : decode cX9_hearsOn 23 = .ok (.ifCond .eq 9, 3) := by decide +kernel
theorem dX9_hearsOn_26 : decode cX9_hearsOn 26 = .ok (.iconst 1, 1) := by decide +kernel
theorem dX9_hearsOn_27 : decode cX9_hearsOn 27 = .ok (.iload_n 3, 1) := by decide +kernel
theorem dX9_hearsOn_28 : decode cX9_hearsOn 28 = .ok (.ishl, 1) := by decide +kernel
theorem dX9_hearsOn_29 : decode cX9_hearsOn 29 = .ok (.goto 4, 3) := by decide +kernel
theorem dX9_hearsOn_32 : decode cX9_hearsOn 32 = .ok (.iconst 0, 1) := by decide +kernel
theorem dX9_hearsOn_33 : decode cX9_hearsOn 33 = .ok (.ior, 1) := by decide +kernel
theorem dX9_hearsOn_34 : decode cX9_hearsOn 34 = .ok (.istore_n 2, 1) := by decide +kernel
theorem dX9_hearsOn_35 : decode cX9_hearsOn 35 = .ok (.iinc 3 1, 3) := by decide +kernel
theorem dX9_hearsOn_38 : decode cX9_hearsOn 38 = .ok (.goto (-29), 3) := by decide +kernel
theorem dX9_hearsOn_41 : decode cX9_hearsOn 41 = .ok (.iload_n 2, 1) := by decide +kernel
theorem dX9_hearsOn_42 : decode cX9_hearsOn 42 = .ok (.ireturn, 1) := by decide +kernel
theorem dX9_high_0 : decode cX9_high 0 = .ok (.aload_n 0, 1) := by decide +kernel
theorem dX9_high_1 : decode cX9_high 1 = .ok (.iconst 0, 1) := by decide +kernel
theorem dX9_high_2 : decode cX9_high 2 = .ok (.putfield 68, 3) := by decide +kernel
theorem dX9_high_5 : decode cX9_high 5 = .ok (.aload_n 0, 1) := by decide +kernel
theorem dX9_high_6 : decode cX9_high 6 = .ok (.iload_n 1, 1) := by decide +kernel
theorem dX9_high_7 : decode cX9_high 7 = .ok (.aload_n 0, 1) := by decide +kernel
theorem dX9_high_8 : decode cX9_high 8 = .ok (.iload_n 2, 1) := by decide +kernel
theorem dX9_high_9 : decode cX9_high 9 = .ok (.invokevirtual 216, 3) := by decide +kernel
theorem dX9_high_12 : decode cX9_high 12 = .ok (.invokevirtual 358, 3) := by decide +kernel
theorem dX9_high_15 : decode cX9_high 15 = .ok (.istore_n 3, 1) := by decide +kernel
theorem dX9_high_16 : decode cX9_high 16 = .ok (.iload_n 3, 1) := by decide +kernel
theorem dX9_high_17 : decode cX9_high 17 = .ok (.ifCond .eq 5, 3) := by decide +kernel
theorem dX9_high_20 : decode cX9_high 20 = .ok (.iload_n 3, 1) := by decide +kernel
theorem dX9_high_21 : decode cX9_high 21 = .ok (.ireturn, 1) := by decide +kernel
theorem dX9_high_22 : decode cX9_high 22 = .ok (.aload_n 0, 1) := by decide +kernel
theorem dX9_high_23 : decode cX9_high 23 = .ok (.iload_n 1, 1) := by decide +kernel
theorem dX9_high_24 : decode cX9_high 24 = .ok (.iload_n 2, 1) := by decide +kernel
theorem dX9_high_25 : decode cX9_high 25 = .ok (.invokevirtual 362, 3) := by decide +kernel
theorem dX9_high_28 : decode cX9_high 28 = .ok (.bipush 30, 2) := by decide +kernel
theorem dX9_high_30 : decode cX9_high 30 = .ok (.istore 4, 2) := by decide +kernel
theorem dX9_high_32 : decode cX9_high 32 = .ok (.iload 4, 2) := by decide +kernel
theorem dX9_high_34 : decode cX9_high 34 = .ok (.ifCond .le 24, 3) := by decide +kernel
theorem dX9_high_37 : decode cX9_high 37 = .ok (.aload_n 0, 1) := by decide +kernel
theorem dX9_high_38 : decode cX9_high 38 = .ok (.getfield 343, 3) := by decide +kernel
theorem dX9_high_41 : decode cX9_high 41 = .ok (.iload 4, 2) := by decide +kernel
theorem dX9_high_43 : decode cX9_high 43 = .ok (.invokestatic 240, 3) := by decide +kernel
theorem dX9_high_46 : decode cX9_high 46 = .ok (.ifCond .eq 6, 3) := by decide +kernel
theorem dX9_high_49 : decode cX9_high 49 = .ok (.iload 4, 2) := by decide +kernel
theorem dX9_high_51 : decode cX9_high 51 = .ok (.ireturn, 1) := by decide +kernel
theorem dX9_high_52 : decode cX9_high 52 = .ok (.iinc 4 (-1), 3) := by decide +kernel
theorem dX9_high_55 : decode cX9_high 55 = .ok (.goto (-23), 3) := by decide +kernel
theorem dX9_high_58 : decode cX9_high 58 = .ok (.iconst (-1), 1) := by decide +kernel
theorem dX9_high_59 : decode cX9_high 59 = .ok (.ireturn, 1) := by decide +kernel
theorem dX9_image_0 : decode cX9_image 0 = .ok (.aload_n 0, 1) := by decide +kernel
theorem dX9_image_1 : decode cX9_image 1 = .ok (.iconst 0, 1) := by decide +kernel
theorem dX9_image_2 : decode cX9_image 2 = .ok (.putfield 68, 3) := by decide +kernel
theorem dX9_image_5 : decode cX9_image 5 = .ok (.iload_n 1, 1) := by decide +kernel
theorem dX9_image_6 : decode cX9_image 6 = .ok (.i2l, 1) := by decide +kernel
theorem dX9_image_7 : decode cX9_image 7 = .ok (.lconst 0, 1) := by decide +kernel
theorem dX9_image_8 : decode cX9_image 8 = .ok (.ldc2_w 281, 3) := by decide +kernel
theorem dX9_image_11 : decode cX9_image 11 = .ok (.invokestatic 73, 3) := by decide +kernel
theorem dX9_image_14 : decode cX9_image 14 = .ok (.ifCond .ne 6, 3) := by decide +kernel
theorem dX9_image_17 : decode cX9_image 17 = .ok (.bipush (-2), 2) := by decide +kernel
theorem dX9_image_19 : decode cX9_image 19 = .ok (.ireturn, 1) := by decide +kernel
theorem dX9_image_20 : decode cX9_image 20 = .ok (.aload_n 0, 1) := by decide +kernel
theorem dX9_image_21 : decode cX9_image 21 = .ok (.iconst 0, 1) := by decide +kernel
theorem dX9_image_22 : decode cX9_image 22 = .ok (.iconst 1, 1) := by decide +kernel
theorem dX9_image_23 : decode cX9_image 23 = .ok (.iload_n 1, 1) := by decide +kernel
theorem dX9_image_24 : decode cX9_image 24 = .ok (.iadd, 1) := by decide +kernel
theorem dX9_image_25 : decode cX9_image 25 = .ok (.invokevirtual 205, 3) := by decide +kernel
theorem dX9_image_28 : decode cX9_image 28 = .ok (.aload_n 0, 1) := by decide +kernel
theorem dX9_image_29 : decode cX9_image 29 = .ok (.getfield 46, 3) := by decide +kernel
theorem dX9_image_32 : decode cX9_image 32 = .ok (.iload_n 1, 1) := by decide +kernel
theorem dX9_image_33 : decode cX9_image 33 = .ok (.iconst 1, 1) := by decide +kernel
theorem dX9_image_34 : decode cX9_image 34 = .ok (.bastore, 1) := by decide +kernel
theorem dX9_image_35 : decode cX9_image 35 = .ok (.iconst 0, 1) := by decide +kernel
theorem dX9_image_36 : decode cX9_image 36 = .ok (.ireturn, 1) := by decide +kernel
theorem dX9_in_0 : decode cX9_in 0 = .ok (.lload_n 0, 1) := by decide +kernel
theorem dX9_in_1 : decode cX9_in 1 = .ok (.lload_n 2, 1) := by decide +kernel
theorem dX9_in_2 : decode cX9_in 2 = .ok (.lcmp, 1) := by decide +kernel
theorem dX9_in_3 : decode cX9_in 3 = .ok (.ifCond .lt 14, 3) := by decide +kernel
theorem dX9_in_6 : decode cX9_in 6 = .ok (.lload_n 0, 1) := by decide +kernel
theorem dX9_in_7 : decode cX9_in 7 = .ok (.lload 4, 2) := by decide +kernel
theorem dX9_in_9 : decode cX9_in 9 = .ok (.lcmp, 1) := by decide +kernel
theorem dX9_in_10 : decode cX9_in 10 = .ok (.ifCond .gt 7, 3) := by decide +kernel
theorem dX9_in_13 : decode cX9_in 13 = .ok (.iconst 1, 1) := by decide +kernel
theorem dX9_in_14 : decode cX9_in 14 = .ok (.goto 4, 3) := by decide +kernel
theorem dX9_in_17 : decode cX9_in 17 = .ok (.iconst 0, 1) := by decide +kernel
theorem dX9_in_18 : decode cX9_in 18 = .ok (.ireturn, 1) := by decide +kernel
theorem dX9_init_0 : decode cX9_init 0 = .ok (.aload_n 0, 1) := by decide +kernel
theorem dX9_init_1 : decode cX9_init 1 = .ok (.invokespecial 1, 3) := by decide +kernel
theorem dX9_init_4 : decode cX9_init 4 = .ok (.aload_n 0, 1) := by decide +kernel
theorem dX9_init_5 : decode cX9_init 5 = .ok (.iconst 4, 1) := by decide +kernel
theorem dX9_init_6 : decode cX9_init 6 = .ok (.newarray .int, 2) := by decide +kernel
theorem dX9_init_8 : decode cX9_init 8 = .ok (.putfield 7, 3) := by decide +kernel
theorem dX9_init_11 : decode cX9_init 11 = .ok (.aload_n 0, 1) := by decide +kernel
theorem dX9_init_12 : decode cX9_init 12 = .ok (.iconst 4, 1) := by decide +kernel
theorem dX9_init_13 : decode cX9_init 13 = .ok (.newarray .int, 2) := by decide +kernel
theorem dX9_init_15 : decode cX9_init 15 = .ok (.putfield 13, 3) := by decide +kernel
theorem dX9_init_18 : decode cX9_init 18 = .ok (.aload_n 0, 1) := by decide +kernel
theorem dX9_init_19 : decode cX9_init 19 = .ok (.sipush 240, 3) := by decide +kernel
theorem dX9_init_22 : decode cX9_init 22 = .ok (.newarray .long, 2) := by decide +kernel
theorem dX9_init_24 : decode cX9_init 24 = .ok (.putfield 16, 3) := by decide +kernel
theorem dX9_init_27 : decode cX9_init 27 = .ok (.aload_n 0, 1) := by decide +kernel
theorem dX9_init_28 : decode cX9_init 28 = .ok (.bipush 60, 2) := by decide +kernel
theorem dX9_init_30 : decode cX9_init 30 = .ok (.newarray .long, 2) := by decide +kernel
theorem dX9_init_32 : decode cX9_init 32 = .ok (.putfield 20, 3) := by decide +kernel
theorem dX9_init_35 : decode cX9_init 35 = .ok (.aload_n 0, 1) := by decide +kernel
theorem dX9_init_36 : decode cX9_init 36 = .ok (.sipush 500, 3) := by decide +kernel
theorem dX9_init_39 : decode cX9_init 39 = .ok (.newarray .byte, 2) := by decide +kernel
theorem dX9_init_41 : decode cX9_init 41 = .ok (.putfield 23, 3) := by decide +kernel
theorem dX9_init_44 : decode cX9_init 44 = .ok (.aload_n 0, 1) := by decide +kernel
theorem dX9_init_45 : decode cX9_init 45 = .ok (.iconst (-1), 1) := by decide +kernel
theorem dX9_init_46 : decode cX9_init 46 = .ok (.putfield 27, 3) := by decide +kernel
theorem dX9_init_49 : decode cX9_init 49 = .ok (.aload_n 0, 1) := by decide +kernel
theorem dX9_init_50 : decode cX9_init 50 = .ok (.iconst 5, 1) := by decide +kernel
theorem dX9_init_51 : decode cX9_init 51 = .ok (.newarray .int, 2) := by decide +kernel
theorem dX9_init_53 : decode cX9_init 53 = .ok (.putfield 31, 3) := by decide +kernel
theorem dX9_init_56 : decode cX9_init 56 = .ok (.aload_n 0, 1) := by decide +kernel
theorem dX9_init_57 : decode cX9_init 57 = .ok (.bipush 35, 2) := by decide +kernel
theorem dX9_init_59 : decode cX9_init 59 = .ok (.newarray .int, 2) := by decide +kernel
theorem dX9_init_61 : decode cX9_init 61 = .ok (.putfield 34, 3) := by decide +kernel
theorem dX9_init_64 : decode cX9_init 64 = .ok (.aload_n 0, 1) := by decide +kernel
theorem dX9_init_65 : decode cX9_init 65 = .ok (.bipush 75, 2) := by decide +kernel
theorem dX9_init_67 : decode cX9_init 67 = .ok (.newarray .int, 2) := by decide +kernel
theorem dX9_init_69 : decode cX9_init 69 = .ok (.putfield 37, 3) := by decide +kernel
theorem dX9_init_72 : decode cX9_init 72 = .ok (.aload_n 0, 1) := by decide +kernel
theorem dX9_init_73 : decode cX9_init 73 = .ok (.bipush 40, 2) := by decide +kernel
theorem dX9_init_75 : decode cX9_init 75 = .ok (.newarray .int, 2) := by decide +kernel
theorem dX9_init_77 : decode cX9_init 77 = .ok (.putfield 40, 3) := by decide +kernel
theorem dX9_init_80 : decode cX9_init 80 = .ok (.aload_n 0, 1) := by decide +kernel
theorem dX9_init_81 : decode cX9_init 81 = .ok (.sipush 450, 3) := by decide +kernel
theorem dX9_init_84 : decode cX9_init 84 = .ok (.newarray .int, 2) := by decide +kernel
theorem dX9_init_86 : decode cX9_init 86 = .ok (.putfield 43, 3) := by decide +kernel
theorem dX9_init_89 : decode cX9_init 89 = .ok (.aload_n 0, 1) := by decide +kernel
theorem dX9_init_90 : decode cX9_init 90 = .ok (.iconst 3, 1) := by decide +kernel
theorem dX9_init_91 : decode cX9_init 91 = .ok (.newarray .boolean, 2) := by decide +kernel
theorem dX9_init_93 : decode cX9_init 93 = .ok (.putfield 46, 3) := by decide +kernel
theorem dX9_init_96 : decode cX9_init 96 = .ok (.aload_n 0, 1) := by decide +kernel
theorem dX9_init_97 : decode cX9_init 97 = .ok (.iconst 5, 1) := by decide +kernel
theorem dX9_init_98 : decode cX9_init 98 = .ok (.newarray .int, 2) := by decide +kernel
theorem dX9_init_100 : decode cX9_init 100 = .ok (.putfield 50, 3) := by decide +kernel
theorem dX9_init_103 : decode cX9_init 103 = .ok (.aload_n 0, 1) := by decide +kernel
theorem dX9_init_104 : decode cX9_init 104 = .ok (.iconst 5, 1) := by decide +kernel
theorem dX9_init_105 : decode cX9_init 105 = .ok (.newarray .int, 2) := by decide +kernel
theorem dX9_init_107 : decode cX9_init 107 = .ok (.putfield 53, 3) := by decide +kernel
theorem dX9_init_110 : decode cX9_init 110 = .ok (.aload_n 0, 1) := by decide +kernel
theorem dX9_init_111 : decode cX9_init 111 = .ok (.bipush 6, 2) := by decide +kernel
theorem dX9_init_113 : decode cX9_init 113 = .ok (.newarray .long, 2) := by decide +kernel
theorem dX9_init_115 : decode cX9_init 115 = .ok (.putfield 56, 3) := by decide +kernel
theorem dX9_init_118 : decode cX9_init 118 = .ok (.aload_n 0, 1) := by decide +kernel
theorem dX9_init_119 : decode cX9_init 119 = .ok (.iconst 5, 1) := by decide +kernel
theorem dX9_init_120 : decode cX9_init 120 = .ok (.newarray .long, 2) := by decide +kernel
theorem dX9_init_122 : decode cX9_init 122 = .ok (.putfield 59, 3) := by decide +kernel
theorem dX9_init_125 : decode cX9_init 125 = .ok (.aload_n 0, 1) := by decide +kernel
theorem dX9_init_126 : decode cX9_init 126 = .ok (.sipush 434, 3) := by decide +kernel
theorem dX9_init_129 : decode cX9_init 129 = .ok (.newarray .long, 2) := by decide +kernel
theorem dX9_init_131 : decode cX9_init 131 = .ok (.putfield 62, 3) := by decide +kernel
theorem dX9_init_134 : decode cX9_init 134 = .ok (.aload_n 0, 1) := by decide +kernel
theorem dX9_init_135 : decode cX9_init 135 = .ok (.sipush 434, 3) := by decide +kernel
theorem dX9_init_138 : decode cX9_init 138 = .ok (.newarray .long, 2) := by decide +kernel
theorem dX9_init_140 : decode cX9_init 140 = .ok (.putfield 65, 3) := by decide +kernel
theorem dX9_init_143 : decode cX9_init 143 = .ok (.iconst 0, 1) := by decide +kernel
theorem dX9_init_144 : decode cX9_init 144 = .ok (.istore_n 1, 1) := by decide +kernel
theorem dX9_init_145 : decode cX9_init 145 = .ok (.iload_n 1, 1) := by decide +kernel
theorem dX9_init_146 : decode cX9_init 146 = .ok (.iconst 4, 1) := by decide +kernel
theorem dX9_init_147 : decode cX9_init 147 = .ok (.if_icmp .ge 16, 3) := by decide +kernel
theorem dX9_init_150 : decode cX9_init 150 = .ok (.aload_n 0, 1) := by decide +kernel
theorem dX9_init_151 : decode cX9_init 151 = .ok (.getfield 7, 3) := by decide +kernel
theorem dX9_init_154 : decode cX9_init 154 = .ok (.iload_n 1, 1) := by decide +kernel
theorem dX9_init_155 : decode cX9_init 155 = .ok (.iconst (-1), 1) := by decide +kernel
theorem dX9_init_156 : decode cX9_init 156 = .ok (.iastore, 1) := by decide +kernel
theorem dX9_init_157 : decode cX9_init 157 = .ok (.iinc 1 1, 3) := by decide +kernel
theorem dX9_init_160 : decode cX9_init 160 = .ok (.goto (-15), 3) := by decide +kernel
theorem dX9_init_163 : decode cX9_init 163 = .ok (.return_, 1) := by decide +kernel
theorem dX9_is_0 : decode cX9_is 0 = .ok (.aload_n 0, 1) := by decide +kernel
theorem dX9_is_1 : decode cX9_is 1 = .ok (.getfield 120, 3) := by decide +kernel
theorem dX9_is_4 : decode cX9_is 4 = .ok (.ifCond .ne 24, 3) := by decide +kernel
theorem dX9_is_7 : decode cX9_is 7 = .ok (.aload_n 0, 1) := by decide +kernel
theorem dX9_is_8 : decode cX9_is 8 = .ok (.getfield 109, 3) := by decide +kernel
theorem dX9_is_11 : decode cX9_is 11 = .ok (.iconst 1, 1) := by decide +kernel
theorem dX9_is_12 : decode cX9_is 12 = .ok (.if_icmp .ne 16, 3) := by decide +kernel
theorem dX9_is_15 : decode cX9_is 15 = .ok (.aload_n 0, 1) := by decide +kernel
theorem dX9_is_16 : decode cX9_is 16 = .ok (.getfield 105, 3) := by decide +kernel
theorem dX9_is_19 : decode cX9_is 19 = .ok (.lload_n 1, 1) := by decide +kernel
theorem dX9_is_20 : decode cX9_is 20 = .ok (.lcmp, 1) := by decide +kernel
theorem dX9_is_21 : decode cX9_is 21 = .ok (.ifCond .ne 7, 3) := by decide +kernel
theorem dX9_is_24 : decode cX9_is 24 = .ok (.iconst 1, 1) := by decide +kernel
theorem dX9_is_25 : decode cX9_is 25 = .ok (.goto 4, 3) := by decide +kernel
theorem dX9_is_28 : decode cX9_is 28 = .ok (.iconst 0, 1) := by decide +kernel
theorem dX9_is_29 : decode cX9_is 29 = .ok (.ireturn, 1) := by decide +kernel
theorem dX9_isBit_0 : decode cX9_isBit 0 = .ok (.iload_n 0, 1) := by decide +kernel
theorem dX9_isBit_1 : decode cX9_isBit 1 = .ok (.iload_n 1, 1) := by decide +kernel
theorem dX9_isBit_2 : decode cX9_isBit 2 = .ok (.ishr, 1) := by decide +kernel
theorem dX9_isBit_3 : decode cX9_isBit 3 = .ok (.iconst 1, 1) := by decide +kernel
theorem dX9_isBit_4 : decode cX9_isBit 4 = .ok (.iand, 1) := by decide +kernel
theorem dX9_isBit_5 : decode cX9_isBit 5 = .ok (.iconst 1, 1) := by decide +kernel
theorem dX9_isBit_6 : decode cX9_isBit 6 = .ok (.if_icmp .ne 7, 3) := by decide +kernel
theorem dX9_isBit_9 : decode cX9_isBit 9 = .ok (.iconst 1, 1) := by decide +kernel
theorem dX9_isBit_10 : decode cX9_isBit 10 = .ok (.goto 4, 3) := by decide +kernel
theorem dX9_isBit_13 : decode cX9_isBit 13 = .ok (.iconst 0, 1) := by decide +kernel
theorem dX9_isBit_14 : decode cX9_isBit 14 = .ok (.ireturn, 1) := by decide +kernel
theorem dX9_isBroken_0 : decode cX9_isBroken 0 = .ok (.aload_n 0, 1) := by decide +kernel
theorem dX9_isBroken_1 : decode cX9_isBroken 1 = .ok (.getfield 234, 3) := by decide +kernel
theorem dX9_isBroken_4 : decode cX9_isBroken 4 = .ok (.iload_n 1, 1) := by decide +kernel
theorem dX9_isBroken_5 : decode cX9_isBroken 5 = .ok (.invokestatic 240, 3) := by decide +kernel
theorem dX9_isBroken_8 : decode cX9_isBroken 8 = .ok (.ifCond .eq 5, 3) := by decide +kernel
theorem dX9_isBroken_11 : decode cX9_isBroken 11 = .ok (.iconst 1, 1) := by decide +kernel
theorem dX9_isBroken_12 : decode cX9_isBroken 12 = .ok (.ireturn, 1) := by decide +kernel
theorem dX9_isBroken_13 : decode cX9_isBroken 13 = .ok (.iconst 0, 1) := by decide +kernel
theorem dX9_isBroken_14 : decode cX9_isBroken 14 = .ok (.istore_n 3, 1) := by decide +kernel
theorem dX9_isBroken_15 : decode cX9_isBroken 15 = .ok (.iload_n 3, 1) := by decide +kernel
theorem dX9_isBroken_16 : decode cX9_isBroken 16 = .ok (.aload_n 0, 1) := by decide +kernel
theorem dX9_isBroken_17 : decode cX9_isBroken 17 = .ok (.getfield 34, 3) := by decide +kernel
theorem dX9_isBroken_20 : decode cX9_isBroken 20 = .ok (.bipush 6, 2) := by decide +kernel
theorem dX9_isBroken_22 : decode cX9_isBroken 22 = .ok (.iaload, 1) := by decide +kernel
theorem dX9_isBroken_23 : decode cX9_isBroken 23 = .ok (.if_icmp .ge 51, 3) := by decide +kernel
theorem dX9_isBroken_26 : decode cX9_isBroken 26 = .ok (.aload_n 0, 1) := by decide +kernel
theorem dX9_isBroken_27 : decode cX9_isBroken 27 = .ok (.getfield 43, 3) := by decide +kernel
theorem dX9_isBroken_30 : decode cX9_isBroken 30 = .ok (.iconst 3, 1) := by decide +kernel
theorem dX9_isBroken_31 : decode cX9_isBroken 31 = .ok (.iload_n 3, 1) := by decide +kernel
theorem dX9_isBroken_32 : decode cX9_isBroken 32 = .ok (.imul, 1) := by decide +kernel
theorem dX9_isBroken_33 : decode cX9_isBroken 33 = .ok (.iaload, 1) := by decide +kernel
theorem dX9_isBroken_34 : decode cX9_isBroken 34 = .ok (.iconst 1, 1) := by decide +kernel
theorem dX9_isBroken_35 : decode cX9_isBroken 35 = .ok (.if_icmp .ne 33, 3) := by decide +kernel
theorem dX9_isBroken_38 : decode cX9_isBroken 38 = .ok (.aload_n 0, 1) := by decide +kernel
theorem dX9_isBroken_39 : decode cX9_isBroken 39 = .ok (.getfield 43, 3) := by decide +kernel
theorem dX9_isBroken_42 : decode cX9_isBroken 42 = .ok (.iconst 3, 1) := by decide +kernel
theorem dX9_isBroken_43 : decode cX9_isBroken 43 = .ok (.iload_n 3, 1) := by decide +kernel
theorem dX9_isBroken_44 : decode cX9_isBroken 44 = .ok (.imul, 1) := by decide +kernel
theorem dX9_isBroken_45 : decode cX9_isBroken 45 = .ok (.iconst 1, 1) := by decide +kernel
theorem dX9_isBroken_46 : decode cX9_isBroken 46 = .ok (.iadd, 1) := by decide +kernel
theorem dX9_isBroken_47 : decode cX9_isBroken 47 = .ok (.iaload, 1) := by decide +kernel
theorem dX9_isBroken_48 : decode cX9_isBroken 48 = .ok (.iload_n 1, 1) := by decide +kernel
theorem dX9_isBroken_49 : decode cX9_isBroken 49 = .ok (.if_icmp .ne 19, 3) := by decide +kernel
theorem dX9_isBroken_52 : decode cX9_isBroken 52 = .ok (.aload_n 0, 1) := by decide +kernel
theorem dX9_isBroken_53 : decode cX9_isBroken 53 = .ok (.getfield 43, 3) := by decide +kernel
theorem dX9_isBroken_56 : decode cX9_isBroken 56 = .ok (.iconst 3, 1) := by decide +kernel
theorem dX9_isBroken_57 : decode cX9_isBroken 57 = .ok (.iload_n 3, 1) := by decide +kernel
theorem dX9_isBroken_58 : decode cX9_isBroken 58 = .ok (.imul, 1) := by decide +kernel
theorem dX9_isBroken_59 : decode cX9_isBroken 59 = .ok (.iconst 2, 1) := by decide +kernel
theorem dX9_isBroken_60 : decode cX9_isBroken 60 = .ok (.iadd, 1) := by decide +kernel
theorem dX9_isBroken_61 : decode cX9_isBroken 61 = .ok (.iaload, 1) := by decide +kernel
theorem dX9_isBroken_62 : decode cX9_isBroken 62 = .ok (.iload_n 2, 1) := by decide +kernel
theorem dX9_isBroken_63 : decode cX9_isBroken 63 = .ok (.if_icmp .gt 5, 3) := by decide +kernel
theorem dX9_isBroken_66 : decode cX9_isBroken 66 = .ok (.iconst 1, 1) := by decide +kernel
theorem dX9_isBroken_67 : decode cX9_isBroken 67 = .ok (.ireturn, 1) := by decide +kernel
theorem dX9_isBroken_68 : decode cX9_isBroken 68 = .ok (.iinc 3 1, 3) := by decide +kernel
theorem dX9_isBroken_71 : decode cX9_isBroken 71 = .ok (.goto (-56), 3) := by decide +kernel
theorem dX9_isBroken_74 : decode cX9_isBroken 74 = .ok (.iconst 0, 1) := by decide +kernel
theorem dX9_isBroken_75 : decode cX9_isBroken 75 = .ok (.ireturn, 1) := by decide +kernel
theorem dX9_isByte_0 : decode cX9_isByte 0 = .ok (.iload_n 1, 1) := by decide +kernel
theorem dX9_isByte_1 : decode cX9_isByte 1 = .ok (.aload_n 0, 1) := by decide +kernel
theorem dX9_isByte_2 : decode cX9_isByte 2 = .ok (.getfield 85, 3) := by decide +kernel
theorem dX9_isByte_5 : decode cX9_isByte 5 = .ok (.if_icmp .ge 27, 3) := by decide +kernel
theorem dX9_isByte_8 : decode cX9_isByte 8 = .ok (.aload_n 0, 1) := by decide +kernel
theorem dX9_isByte_9 : decode cX9_isByte 9 = .ok (.getfield 23, 3) := by decide +kernel
theorem dX9_isByte_12 : decode cX9_isByte 12 = .ok (.iload_n 1, 1) := by decide +kernel
theorem dX9_isByte_13 : decode cX9_isByte 13 = .ok (.baload, 1) := by decide +kernel
theorem dX9_isByte_14 : decode cX9_isByte 14 = .ok (.iload_n 2, 1) := by decide +kernel
theorem dX9_isByte_15 : decode cX9_isByte 15 = .ok (.if_icmp .lt 17, 3) := by decide +kernel
theorem dX9_isByte_18 : decode cX9_isByte 18 = .ok (.aload_n 0, 1) := by decide +kernel
theorem dX9_isByte_19 : decode cX9_isByte 19 = .ok (.getfield 23, 3) := by decide +kernel
theorem dX9_isByte_22 : decode cX9_isByte 22 = .ok (.iload_n 1, 1) := by decide +kernel
theorem dX9_isByte_23 : decode cX9_isByte 23 = .ok (.baload, 1) := by decide +kernel
theorem dX9_isByte_24 : decode cX9_isByte 24 = .ok (.iload_n 3, 1) := by decide +kernel
theorem dX9_isByte_25 : decode cX9_isByte 25 = .ok (.if_icmp .gt 7, 3) := by decide +kernel
theorem dX9_isByte_28 : decode cX9_isByte 28 = .ok (.iconst 1, 1) := by decide +kernel
theorem dX9_isByte_29 : decode cX9_isByte 29 = .ok (.goto 4, 3) := by decide +kernel
theorem dX9_isByte_32 : decode cX9_isByte 32 = .ok (.iconst 0, 1) := by decide +kernel
theorem dX9_isByte_33 : decode cX9_isByte 33 = .ok (.ireturn, 1) := by decide +kernel
theorem dX9_isClear_0 : decode cX9_isClear 0 = .ok (.iload_n 1, 1) := by decide +kernel
theorem dX9_isClear_1 : decode cX9_isClear 1 = .ok (.istore_n 3, 1) := by decide +kernel
theorem dX9_isClear_2 : decode cX9_isClear 2 = .ok (.iload_n 3, 1) := by decide +kernel
theorem dX9_isClear_3 : decode cX9_isClear 3 = .ok (.iload_n 2, 1) := by decide +kernel
theorem dX9_isClear_4 : decode cX9_isClear 4 = .ok (.if_icmp .gt 23, 3) := by decide +kernel
theorem dX9_isClear_7 : decode cX9_isClear 7 = .ok (.aload_n 0, 1) := by decide +kernel
theorem dX9_isClear_8 : decode cX9_isClear 8 = .ok (.iload_n 3, 1) := by decide +kernel
theorem dX9_isClear_9 : decode cX9_isClear 9 = .ok (.invokevirtual 271, 3) := by decide +kernel
theorem dX9_isClear_12 : decode cX9_isClear 12 = .ok (.aload_n 0, 1) := by decide +kernel
theorem dX9_isClear_13 : decode cX9_isClear 13 = .ok (.invokevirtual 283, 3) := by decide +kernel
theorem dX9_isClear_16 : decode cX9_isClear 16 = .ok (.if_icmp .eq 5, 3) := by decide +kernel
theorem dX9_isClear_19 : decode cX9_isClear 19 = .ok (.iconst 0, 1) := by decide +kernel
theorem dX9_isClear_20 : decode cX9_isClear 20 = .ok (.ireturn, 1) := by decide +kernel
theorem dX9_isClear_21 : decode cX9_isClear 21 = .ok (.iinc 3 1, 3) := by decide +kernel
theorem dX9_isClear_24 : decode cX9_isClear 24 = .ok (.goto (-22), 3) := by decide +kernel
theorem dX9_isClear_27 : decode cX9_isClear 27 = .ok (.iconst 1, 1) := by decide +kernel
theorem dX9_isClear_28 : decode cX9_isClear 28 = .ok (.ireturn, 1) := by decide +kernel
theorem dX9_isDay_0 : decode cX9_isDay 0 = .ok (.aload_n 0, 1) := by decide +kernel
theorem dX9_isDay_1 : decode cX9_isDay 1 = .ok (.invokevirtual 219, 3) := by decide +kernel
theorem dX9_isDay_4 : decode cX9_isDay 4 = .ok (.ifCond .eq 20, 3) := by decide +kernel
theorem dX9_isDay_7 : decode cX9_isDay 7 = .ok (.lload_n 1, 1) := by decide +kernel
theorem dX9_isDay_8 : decode cX9_isDay 8 = .ok (.lconst 0, 1) := by decide +kernel
theorem dX9_isDay_9 : decode cX9_isDay 9 = .ok (.aload_n 0, 1) := by decide +kernel
theorem dX9_isDay_10 : decode cX9_isDay 10 = .ok (.invokevirtual 222, 3) := by decide +kernel
theorem dX9_isDay_13 : decode cX9_isDay 13 = .ok (.i2l, 1) := by decide +kernel
theorem dX9_isDay_14 : decode cX9_isDay 14 = .ok (.invokestatic 73, 3) := by decide +kernel
theorem dX9_isDay_17 : decode cX9_isDay 17 = .ok (.ifCond .eq 7, 3) := by decide +kernel
theorem dX9_isDay_20 : decode cX9_isDay 20 = .ok (.iconst 1, 1) := by decide +kernel
theorem dX9_isDay_21 : decode cX9_isDay 21 = .ok (.goto 4, 3) := by decide +kernel
theorem dX9_isDay_24 : decode cX9_isDay 24 = .ok (.iconst 0, 1) := by decide +kernel
theorem dX9_isDay_25 : decode cX9_isDay 25 = .ok (.ireturn, 1) := by decide +kernel
theorem dX9_isGood_0 : decode cX9_isGood 0 = .ok (.aload_n 0, 1) := by decide +kernel
theorem dX9_isGood_1 : decode cX9_isGood 1 = .ok (.getfield 120, 3) := by decide +kernel
theorem dX9_isGood_4 : decode cX9_isGood 4 = .ok (.ifCond .ne 7, 3) := by decide +kernel
theorem dX9_isGood_7 : decode cX9_isGood 7 = .ok (.iconst 1, 1) := by decide +kernel
theorem dX9_isGood_8 : decode cX9_isGood 8 = .ok (.goto 4, 3) := by decide +kernel
theorem dX9_isGood_11 : decode cX9_isGood 11 = .ok (.iconst 0, 1) := by decide +kernel
