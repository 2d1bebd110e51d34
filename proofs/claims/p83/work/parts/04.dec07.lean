theorem dX8_falls_0 : decode cX8_falls 0 = .ok (.aload_n 0, 1) := by decide +kernel
theorem dX8_falls_1 : decode cX8_falls 1 = .ok (.iload_n 1, 1) := by decide +kernel
theorem dX8_falls_2 : decode cX8_falls 2 = .ok (.invokevirtual 121, 3) := by decide +kernel
theorem dX8_falls_5 : decode cX8_falls 5 = .ok (.ifCond .eq 18, 3) := by decide +kernel
theorem dX8_falls_8 : decode cX8_falls 8 = .ok (.aload_n 0, 1) := by decide +kernel
theorem dX8_falls_9 : decode cX8_falls 9 = .ok (.iload_n 2, 1) := by decide +kernel
theorem dX8_falls_10 : decode cX8_falls 10 = .ok (.invokevirtual 145, 3) := by decide +kernel
theorem dX8_falls_13 : decode cX8_falls 13 = .ok (.ifCond .eq 10, 3) := by decide +kernel
theorem dX8_falls_16 : decode cX8_falls 16 = .ok (.iload_n 3, 1) := by decide +kernel
theorem dX8_falls_17 : decode cX8_falls 17 = .ok (.invokestatic 159, 3) := by decide +kernel
theorem dX8_falls_20 : decode cX8_falls 20 = .ok (.ifCond .ne 7, 3) := by decide +kernel
theorem dX8_falls_23 : decode cX8_falls 23 = .ok (.ldc2_w 162, 3) := by decide +kernel
theorem dX8_falls_26 : decode cX8_falls 26 = .ok (.lreturn, 1) := by decide +kernel
theorem dX8_falls_27 : decode cX8_falls 27 = .ok (.aload_n 0, 1) := by decide +kernel
theorem dX8_falls_28 : decode cX8_falls 28 = .ok (.iload_n 2, 1) := by decide +kernel
theorem dX8_falls_29 : decode cX8_falls 29 = .ok (.invokevirtual 164, 3) := by decide +kernel
theorem dX8_falls_32 : decode cX8_falls 32 = .ok (.aload_n 0, 1) := by decide +kernel
theorem dX8_falls_33 : decode cX8_falls 33 = .ok (.aload_n 0, 1) := by decide +kernel
theorem dX8_falls_34 : decode cX8_falls 34 = .ok (.getfield 33, 3) := by decide +kernel
theorem dX8_falls_37 : decode cX8_falls 37 = .ok (.getfield 175, 3) := by decide +kernel
theorem dX8_falls_40 : decode cX8_falls 40 = .ok (.i2l, 1) := by decide +kernel
theorem dX8_falls_41 : decode cX8_falls 41 = .ok (.aload_n 0, 1) := by decide +kernel
theorem dX8_falls_42 : decode cX8_falls 42 = .ok (.getfield 61, 3) := by decide +kernel
theorem dX8_falls_45 : decode cX8_falls 45 = .ok (.iload_n 1, 1) := by decide +kernel
theorem dX8_falls_46 : decode cX8_falls 46 = .ok (.invokevirtual 196, 3) := by decide +kernel
theorem dX8_falls_49 : decode cX8_falls 49 = .ok (.lmul, 1) := by decide +kernel
theorem dX8_falls_50 : decode cX8_falls 50 = .ok (.aload_n 0, 1) := by decide +kernel
theorem dX8_falls_51 : decode cX8_falls 51 = .ok (.getfield 61, 3) := by decide +kernel
theorem dX8_falls_54 : decode cX8_falls 54 = .ok (.getfield 182, 3) := by decide +kernel
theorem dX8_falls_57 : decode cX8_falls 57 = .ok (.iload_n 3, 1) := by decide +kernel
theorem dX8_falls_58 : decode cX8_falls 58 = .ok (.invokevirtual 186, 3) := by decide +kernel
theorem dX8_falls_61 : decode cX8_falls 61 = .ok (.lreturn, 1) := by decide +kernel
theorem dX8_fault_0 : decode cX8_fault 0 = .ok (.iload_n 1, 1) := by decide +kernel
theorem dX8_fault_1 : decode cX8_fault 1 = .ok (.ifCond .ne 8, 3) := by decide +kernel
theorem dX8_fault_4 : decode cX8_fault 4 = .ok (.aload_n 0, 1) := by decide +kernel
theorem dX8_fault_5 : decode cX8_fault 5 = .ok (.getfield 86, 3) := by decide +kernel
theorem dX8_fault_8 : decode cX8_fault 8 = .ok (.ireturn, 1) := by decide +kernel
theorem dX8_fault_9 : decode cX8_fault 9 = .ok (.iload_n 1, 1) := by decide +kernel
theorem dX8_fault_10 : decode cX8_fault 10 = .ok (.iconst 1, 1) := by decide +kernel
theorem dX8_fault_11 : decode cX8_fault 11 = .ok (.if_icmp .ne 10, 3) := by decide +kernel
theorem dX8_fault_14 : decode cX8_fault 14 = .ok (.aload_n 0, 1) := by decide +kernel
theorem dX8_fault_15 : decode cX8_fault 15 = .ok (.getfield 90, 3) := by decide +kernel
theorem dX8_fault_18 : decode cX8_fault 18 = .ok (.goto 4, 3) := by decide +kernel
theorem dX8_fault_21 : decode cX8_fault 21 = .ok (.iconst (-1), 1) := by decide +kernel
theorem dX8_fault_22 : decode cX8_fault 22 = .ok (.ireturn, 1) := by decide +kernel
theorem dX8_feed_0 : decode cX8_feed 0 = .ok (.aload_n 0, 1) := by decide +kernel
theorem dX8_feed_1 : decode cX8_feed 1 = .ok (.getfield 10, 3) := by decide +kernel
theorem dX8_feed_4 : decode cX8_feed 4 = .ok (.getfield 93, 3) := by decide +kernel
theorem dX8_feed_7 : decode cX8_feed 7 = .ok (.bipush 20, 2) := by decide +kernel
theorem dX8_feed_9 : decode cX8_feed 9 = .ok (.iadd, 1) := by decide +kernel
theorem dX8_feed_10 : decode cX8_feed 10 = .ok (.sipush 500, 3) := by decide +kernel
theorem dX8_feed_13 : decode cX8_feed 13 = .ok (.if_icmp .le 5, 3) := by decide +kernel
theorem dX8_feed_16 : decode cX8_feed 16 = .ok (.iconst (-1), 1) := by decide +kernel
theorem dX8_feed_17 : decode cX8_feed 17 = .ok (.ireturn, 1) := by decide +kernel
theorem dX8_feed_18 : decode cX8_feed 18 = .ok (.aload_n 0, 1) := by decide +kernel
theorem dX8_feed_19 : decode cX8_feed 19 = .ok (.getfield 10, 3) := by decide +kernel
theorem dX8_feed_22 : decode cX8_feed 22 = .ok (.iload_n 1, 1) := by decide +kernel
theorem dX8_feed_23 : decode cX8_feed 23 = .ok (.invokevirtual 96, 3) := by decide +kernel
theorem dX8_feed_26 : decode cX8_feed 26 = .ok (.aload_n 0, 1) := by decide +kernel
theorem dX8_feed_27 : decode cX8_feed 27 = .ok (.getfield 10, 3) := by decide +kernel
theorem dX8_feed_30 : decode cX8_feed 30 = .ok (.iload_n 2, 1) := by decide +kernel
theorem dX8_feed_31 : decode cX8_feed 31 = .ok (.invokevirtual 96, 3) := by decide +kernel
theorem dX8_feed_34 : decode cX8_feed 34 = .ok (.aload_n 0, 1) := by decide +kernel
theorem dX8_feed_35 : decode cX8_feed 35 = .ok (.getfield 10, 3) := by decide +kernel
theorem dX8_feed_38 : decode cX8_feed 38 = .ok (.iload_n 3, 1) := by decide +kernel
theorem dX8_feed_39 : decode cX8_feed 39 = .ok (.invokevirtual 96, 3) := by decide +kernel
theorem dX8_feed_42 : decode cX8_feed 42 = .ok (.aload_n 0, 1) := by decide +kernel
theorem dX8_feed_43 : decode cX8_feed 43 = .ok (.getfield 10, 3) := by decide +kernel
theorem dX8_feed_46 : decode cX8_feed 46 = .ok (.iload 4, 2) := by decide +kernel
theorem dX8_feed_48 : decode cX8_feed 48 = .ok (.invokevirtual 96, 3) := by decide +kernel
theorem dX8_feed_51 : decode cX8_feed 51 = .ok (.aload_n 0, 1) := by decide +kernel
theorem dX8_feed_52 : decode cX8_feed 52 = .ok (.getfield 10, 3) := by decide +kernel
theorem dX8_feed_55 : decode cX8_feed 55 = .ok (.iload 5, 2) := by decide +kernel
theorem dX8_feed_57 : decode cX8_feed 57 = .ok (.invokevirtual 96, 3) := by decide +kernel
theorem dX8_feed_60 : decode cX8_feed 60 = .ok (.aload_n 0, 1) := by decide +kernel
theorem dX8_feed_61 : decode cX8_feed 61 = .ok (.getfield 10, 3) := by decide +kernel
theorem dX8_feed_64 : decode cX8_feed 64 = .ok (.getfield 93, 3) := by decide +kernel
theorem dX8_feed_67 : decode cX8_feed 67 = .ok (.ireturn, 1) := by decide +kernel
theorem dX8_firstByDays_0 : decode cX8_firstByDays 0 = .ok (.aload_n 0, 1) := by decide +kernel
theorem dX8_firstByDays_1 : decode cX8_firstByDays 1 = .ok (.invokevirtual 239, 3) := by decide +kernel
theorem dX8_firstByDays_4 : decode cX8_firstByDays 4 = .ok (.iconst (-1), 1) := by decide +kernel
theorem dX8_firstByDays_5 : decode cX8_firstByDays 5 = .ok (.istore_n 2, 1) := by decide +kernel
theorem dX8_firstByDays_6 : decode cX8_firstByDays 6 = .ok (.iconst 0, 1) := by decide +kernel
theorem dX8_firstByDays_7 : decode cX8_firstByDays 7 = .ok (.istore_n 3, 1) := by decide +kernel
theorem dX8_firstByDays_8 : decode cX8_firstByDays 8 = .ok (.iconst 0, 1) := by decide +kernel
theorem dX8_firstByDays_9 : decode cX8_firstByDays 9 = .ok (.istore 4, 2) := by decide +kernel
theorem dX8_firstByDays_11 : decode cX8_firstByDays 11 = .ok (.iload 4, 2) := by decide +kernel
theorem dX8_firstByDays_13 : decode cX8_firstByDays 13 = .ok (.aload_n 0, 1) := by decide +kernel
theorem dX8_firstByDays_14 : decode cX8_firstByDays 14 = .ok (.getfield 33, 3) := by decide +kernel
theorem dX8_firstByDays_17 : decode cX8_firstByDays 17 = .ok (.getfield 210, 3) := by decide +kernel
theorem dX8_firstByDays_20 : decode cX8_firstByDays 20 = .ok (.if_icmp .ge 45, 3) := by decide +kernel
theorem dX8_firstByDays_23 : decode cX8_firstByDays 23 = .ok (.iload_n 1, 1) := by decide +kernel
theorem dX8_firstByDays_24 : decode cX8_firstByDays 24 = .ok (.aload_n 0, 1) := by decide +kernel
theorem dX8_firstByDays_25 : decode cX8_firstByDays 25 = .ok (.iload 4, 2) := by decide +kernel
theorem dX8_firstByDays_27 : decode cX8_firstByDays 27 = .ok (.invokevirtual 406, 3) := by decide +kernel
theorem dX8_firstByDays_30 : decode cX8_firstByDays 30 = .ok (.imul, 1) := by decide +kernel
theorem dX8_firstByDays_31 : decode cX8_firstByDays 31 = .ok (.istore 5, 2) := by decide +kernel
theorem dX8_firstByDays_33 : decode cX8_firstByDays 33 = .ok (.aload_n 0, 1) := by decide +kernel
theorem dX8_firstByDays_34 : decode cX8_firstByDays 34 = .ok (.iload 4, 2) := by decide +kernel
theorem dX8_firstByDays_36 : decode cX8_firstByDays 36 = .ok (.invokevirtual 213, 3) := by decide +kernel
theorem dX8_firstByDays_39 : decode cX8_firstByDays 39 = .ok (.ifCond .eq 20, 3) := by decide +kernel
theorem dX8_firstByDays_42 : decode cX8_firstByDays 42 = .ok (.iload_n 2, 1) := by decide +kernel
theorem dX8_firstByDays_43 : decode cX8_firstByDays 43 = .ok (.iconst (-1), 1) := by decide +kernel
theorem dX8_firstByDays_44 : decode cX8_firstByDays 44 = .ok (.if_icmp .eq 9, 3) := by decide +kernel
theorem dX8_firstByDays_47 : decode cX8_firstByDays 47 = .ok (.iload 5, 2) := by decide +kernel
theorem dX8_firstByDays_49 : decode cX8_firstByDays 49 = .ok (.iload_n 3, 1) := by decide +kernel
theorem dX8_firstByDays_50 : decode cX8_firstByDays 50 = .ok (.if_icmp .le 9, 3) := by decide +kernel
theorem dX8_firstByDays_53 : decode cX8_firstByDays 53 = .ok (.iload 4, 2) := by decide +kernel
theorem dX8_firstByDays_55 : decode cX8_firstByDays 55 = .ok (.istore_n 2, 1) := by decide +kernel
theorem dX8_firstByDays_56 : decode cX8_firstByDays 56 = .ok (.iload 5, 2) := by decide +kernel
theorem dX8_firstByDays_58 : decode cX8_firstByDays 58 = .ok (.istore_n 3, 1) := by decide +kernel
theorem dX8_firstByDays_59 : decode cX8_firstByDays 59 = .ok (.iinc 4 1, 3) := by decide +kernel
theorem dX8_firstByDays_62 : decode cX8_firstByDays 62 = .ok (.goto (-51), 3) := by decide +kernel
theorem dX8_firstByDays_65 : decode cX8_firstByDays 65 = .ok (.iload_n 2, 1) := by decide +kernel
theorem dX8_firstByDays_66 : decode cX8_firstByDays 66 = .ok (.ireturn, 1) := by decide +kernel
theorem dX8_fits_0 : decode cX8_fits 0 = .ok (.aload_n 0, 1) := by decide +kernel
theorem dX8_fits_1 : decode cX8_fits 1 = .ok (.iload_n 1, 1) := by decide +kernel
theorem dX8_fits_2 : decode cX8_fits 2 = .ok (.iload_n 2, 1) := by decide +kernel
theorem dX8_fits_3 : decode cX8_fits 3 = .ok (.invokevirtual 289, 3) := by decide +kernel
theorem dX8_fits_6 : decode cX8_fits 6 = .ok (.istore_n 3, 1) := by decide +kernel
theorem dX8_fits_7 : decode cX8_fits 7 = .ok (.iload_n 3, 1) := by decide +kernel
theorem dX8_fits_8 : decode cX8_fits 8 = .ok (.ifCond .eq 7, 3) := by decide +kernel
theorem dX8_fits_11 : decode cX8_fits 11 = .ok (.iload_n 3, 1) := by decide +kernel
theorem dX8_fits_12 : decode cX8_fits 12 = .ok (.goto 12, 3) := by decide +kernel
theorem dX8_fits_15 : decode cX8_fits 15 = .ok (.aload_n 0, 1) := by decide +kernel
theorem dX8_fits_16 : decode cX8_fits 16 = .ok (.iload_n 1, 1) := by decide +kernel
theorem dX8_fits_17 : decode cX8_fits 17 = .ok (.iload_n 2, 1) := by decide +kernel
theorem dX8_fits_18 : decode cX8_fits 18 = .ok (.invokevirtual 292, 3) := by decide +kernel
theorem dX8_fits_21 : decode cX8_fits 21 = .ok (.invokestatic 227, 3) := by decide +kernel
theorem dX8_fits_24 : decode cX8_fits 24 = .ok (.ireturn, 1) := by decide +kernel
theorem dX8_fittingLeaks_0 : decode cX8_fittingLeaks 0 = .ok (.aload_n 0, 1) := by decide +kernel
theorem dX8_fittingLeaks_1 : decode cX8_fittingLeaks 1 = .ok (.getfield 54, 3) := by decide +kernel
theorem dX8_fittingLeaks_4 : decode cX8_fittingLeaks 4 = .ok (.aload_n 0, 1) := by decide +kernel
theorem dX8_fittingLeaks_5 : decode cX8_fittingLeaks 5 = .ok (.getfield 33, 3) := by decide +kernel
theorem dX8_fittingLeaks_8 : decode cX8_fittingLeaks 8 = .ok (.invokevirtual 148, 3) := by decide +kernel
theorem dX8_fittingLeaks_11 : decode cX8_fittingLeaks 11 = .ok (.iconst 0, 1) := by decide +kernel
theorem dX8_fittingLeaks_12 : decode cX8_fittingLeaks 12 = .ok (.istore_n 3, 1) := by decide +kernel
theorem dX8_fittingLeaks_13 : decode cX8_fittingLeaks 13 = .ok (.iconst 1, 1) := by decide +kernel
theorem dX8_fittingLeaks_14 : decode cX8_fittingLeaks 14 = .ok (.istore 4, 2) := by decide +kernel
theorem dX8_fittingLeaks_16 : decode cX8_fittingLeaks 16 = .ok (.iload 4, 2) := by decide +kernel
theorem dX8_fittingLeaks_18 : decode cX8_fittingLeaks 18 = .ok (.bipush 30, 2) := by decide +kernel
theorem dX8_fittingLeaks_20 : decode cX8_fittingLeaks 20 = .ok (.if_icmp .gt 35, 3) := by decide +kernel
theorem dX8_fittingLeaks_23 : decode cX8_fittingLeaks 23 = .ok (.aload_n 0, 1) := by decide +kernel
theorem dX8_fittingLeaks_24 : decode cX8_fittingLeaks 24 = .ok (.getfield 54, 3) := by decide +kernel
theorem dX8_fittingLeaks_27 : decode cX8_fittingLeaks 27 = .ok (.getfield 426, 3) := by decide +kernel
theorem dX8_fittingLeaks_30 : decode cX8_fittingLeaks 30 = .ok (.iload_n 2, 1) := by decide +kernel
theorem dX8_fittingLeaks_31 : decode cX8_fittingLeaks 31 = .ok (.iload 4, 2) := by decide +kernel
theorem dX8_fittingLeaks_33 : decode cX8_fittingLeaks 33 = .ok (.iastore, 1) := by decide +kernel
theorem dX8_fittingLeaks_34 : decode cX8_fittingLeaks 34 = .ok (.aload_n 0, 1) := by decide +kernel
theorem dX8_fittingLeaks_35 : decode cX8_fittingLeaks 35 = .ok (.iload_n 1, 1) := by decide +kernel
theorem dX8_fittingLeaks_36 : decode cX8_fittingLeaks 36 = .ok (.invokevirtual 305, 3) := by decide +kernel
theorem dX8_fittingLeaks_39 : decode cX8_fittingLeaks 39 = .ok (.ifCond .eq 10, 3) := by decide +kernel
theorem dX8_fittingLeaks_42 : decode cX8_fittingLeaks 42 = .ok (.iload_n 3, 1) := by decide +kernel
theorem dX8_fittingLeaks_43 : decode cX8_fittingLeaks 43 = .ok (.iconst 1, 1) := by decide +kernel
theorem dX8_fittingLeaks_44 : decode cX8_fittingLeaks 44 = .ok (.iload 4, 2) := by decide +kernel
theorem dX8_fittingLeaks_46 : decode cX8_fittingLeaks 46 = .ok (.ishl, 1) := by decide +kernel
theorem dX8_fittingLeaks_47 : decode cX8_fittingLeaks 47 = .ok (.ior, 1) := by decide +kernel
theorem dX8_fittingLeaks_48 : decode cX8_fittingLeaks 48 = .ok (.istore_n 3, 1) := by decide +kernel
theorem dX8_fittingLeaks_49 : decode cX8_fittingLeaks 49 = .ok (.iinc 4 1, 3) := by decide +kernel
theorem dX8_fittingLeaks_52 : decode cX8_fittingLeaks 52 = .ok (.goto (-36), 3) := by decide +kernel
theorem dX8_fittingLeaks_55 : decode cX8_fittingLeaks 55 = .ok (.iload_n 3, 1) := by decide +kernel
theorem dX8_fittingLeaks_56 : decode cX8_fittingLeaks 56 = .ok (.ireturn, 1) := by decide +kernel
theorem dX8_flips_0 : decode cX8_flips 0 = .ok (.aload_n 0, 1) := by decide +kernel
theorem dX8_flips_1 : decode cX8_flips 1 = .ok (.iload_n 1, 1) := by decide +kernel
theorem dX8_flips_2 : decode cX8_flips 2 = .ok (.invokevirtual 213, 3) := by decide +kernel
theorem dX8_flips_5 : decode cX8_flips 5 = .ok (.ifCond .ne 6, 3) := by decide +kernel
theorem dX8_flips_8 : decode cX8_flips 8 = .ok (.bipush (-2), 2) := by decide +kernel
theorem dX8_flips_10 : decode cX8_flips 10 = .ok (.ireturn, 1) := by decide +kernel
theorem dX8_flips_11 : decode cX8_flips 11 = .ok (.aload_n 0, 1) := by decide +kernel
theorem dX8_flips_12 : decode cX8_flips 12 = .ok (.iload_n 1, 1) := by decide +kernel
theorem dX8_flips_13 : decode cX8_flips 13 = .ok (.invokevirtual 219, 3) := by decide +kernel
theorem dX8_flips_16 : decode cX8_flips 16 = .ok (.istore_n 2, 1) := by decide +kernel
theorem dX8_flips_17 : decode cX8_flips 17 = .ok (.iload_n 2, 1) := by decide +kernel
theorem dX8_flips_18 : decode cX8_flips 18 = .ok (.iload_n 2, 1) := by decide +kernel
theorem dX8_flips_19 : decode cX8_flips 19 = .ok (.iconst 1, 1) := by decide +kernel
theorem dX8_flips_20 : decode cX8_flips 20 = .ok (.ishl, 1) := by decide +kernel
theorem dX8_flips_21 : decode cX8_flips 21 = .ok (.ixor, 1) := by decide +kernel
theorem dX8_flips_22 : decode cX8_flips 22 = .ok (.aload_n 0, 1) := by decide +kernel
theorem dX8_flips_23 : decode cX8_flips 23 = .ok (.invokevirtual 216, 3) := by decide +kernel
theorem dX8_flips_26 : decode cX8_flips 26 = .ok (.iand, 1) := by decide +kernel
theorem dX8_flips_27 : decode cX8_flips 27 = .ok (.bipush (-2), 2) := by decide +kernel
theorem dX8_flips_29 : decode cX8_flips 29 = .ok (.iand, 1) := by decide +kernel
theorem dX8_flips_30 : decode cX8_flips 30 = .ok (.invokestatic 227, 3) := by decide +kernel
theorem dX8_flips_33 : decode cX8_flips 33 = .ok (.ireturn, 1) := by decide +kernel
theorem dX8_gainOf_0 : decode cX8_gainOf 0 = .ok (.aload_n 0, 1) := by decide +kernel
theorem dX8_gainOf_1 : decode cX8_gainOf 1 = .ok (.getfield 54, 3) := by decide +kernel
theorem dX8_gainOf_4 : decode cX8_gainOf 4 = .ok (.aload_n 0, 1) := by decide +kernel
theorem dX8_gainOf_5 : decode cX8_gainOf 5 = .ok (.getfield 33, 3) := by decide +kernel
theorem dX8_gainOf_8 : decode cX8_gainOf 8 = .ok (.invokevirtual 148, 3) := by decide +kernel
theorem dX8_gainOf_11 : decode cX8_gainOf 11 = .ok (.aload_n 0, 1) := by decide +kernel
theorem dX8_gainOf_12 : decode cX8_gainOf 12 = .ok (.getfield 54, 3) := by decide +kernel
theorem dX8_gainOf_15 : decode cX8_gainOf 15 = .ok (.iload_n 2, 1) := by decide +kernel
theorem dX8_gainOf_16 : decode cX8_gainOf 16 = .ok (.putfield 409, 3) := by decide +kernel
theorem dX8_gainOf_19 : decode cX8_gainOf 19 = .ok (.aload_n 0, 1) := by decide +kernel
theorem dX8_gainOf_20 : decode cX8_gainOf 20 = .ok (.iload_n 1, 1) := by decide +kernel
theorem dX8_gainOf_21 : decode cX8_gainOf 21 = .ok (.invokevirtual 403, 3) := by decide +kernel
theorem dX8_gainOf_24 : decode cX8_gainOf 24 = .ok (.invokestatic 227, 3) := by decide +kernel
theorem dX8_gainOf_27 : decode cX8_gainOf 27 = .ok (.istore_n 3, 1) := by decide +kernel
theorem dX8_gainOf_28 : decode cX8_gainOf 28 = .ok (.iload_n 2, 1) := by decide +kernel
theorem dX8_gainOf_29 : decode cX8_gainOf 29 = .ok (.iload_n 1, 1) := by decide +kernel
theorem dX8_gainOf_30 : decode cX8_gainOf 30 = .ok (.invokestatic 272, 3) := by decide +kernel
theorem dX8_gainOf_33 : decode cX8_gainOf 33 = .ok (.ifCond .eq 9, 3) := by decide +kernel
theorem dX8_gainOf_36 : decode cX8_gainOf 36 = .ok (.iload_n 3, 1) := by decide +kernel
theorem dX8_gainOf_37 : decode cX8_gainOf 37 = .ok (.iconst 2, 1) := by decide +kernel
theorem dX8_gainOf_38 : decode cX8_gainOf 38 = .ok (.isub, 1) := by decide +kernel
theorem dX8_gainOf_39 : decode cX8_gainOf 39 = .ok (.goto 4, 3) := by decide +kernel
theorem dX8_gainOf_42 : decode cX8_gainOf 42 = .ok (.iload_n 3, 1) := by decide +kernel
theorem dX8_gainOf_43 : decode cX8_gainOf 43 = .ok (.ireturn, 1) := by decide +kernel
theorem dX8_gets_0 : decode cX8_gets 0 = .ok (.aload_n 0, 1) := by decide +kernel
theorem dX8_gets_1 : decode cX8_gets 1 = .ok (.iload_n 1, 1) := by decide +kernel
theorem dX8_gets_2 : decode cX8_gets 2 = .ok (.invokevirtual 121, 3) := by decide +kernel
theorem dX8_gets_5 : decode cX8_gets 5 = .ok (.ifCond .eq 16, 3) := by decide +kernel
theorem dX8_gets_8 : decode cX8_gets 8 = .ok (.aload_n 0, 1) := by decide +kernel
theorem dX8_gets_9 : decode cX8_gets 9 = .ok (.iload_n 2, 1) := by decide +kernel
theorem dX8_gets_10 : decode cX8_gets 10 = .ok (.invokevirtual 121, 3) := by decide +kernel
theorem dX8_gets_13 : decode cX8_gets 13 = .ok (.ifCond .eq 8, 3) := by decide +kernel
theorem dX8_gets_16 : decode cX8_gets 16 = .ok (.iload_n 1, 1) := by decide +kernel
theorem dX8_gets_17 : decode cX8_gets 17 = .ok (.iload_n 2, 1) := by decide +kernel
theorem dX8_gets_18 : decode cX8_gets 18 = .ok (.if_icmp .ne 7, 3) := by decide +kernel
theorem dX8_gets_21 : decode cX8_gets 21 = .ok (.sipush (-1000), 3) := by decide +kernel
theorem dX8_gets_24 : decode cX8_gets 24 = .ok (.ireturn, 1) := by decide +kernel
theorem dX8_gets_25 : decode cX8_gets 25 = .ok (.iload_n 3, 1) := by decide +kernel
theorem dX8_gets_26 : decode cX8_gets 26 = .ok (.invokestatic 159, 3) := by decide +kernel
theorem dX8_gets_29 : decode cX8_gets 29 = .ok (.ifCond .eq 11, 3) := by decide +kernel
theorem dX8_gets_32 : decode cX8_gets 32 = .ok (.iload 4, 2) := by decide +kernel
theorem dX8_gets_34 : decode cX8_gets 34 = .ok (.invokestatic 159, 3) := by decide +kernel
theorem dX8_gets_37 : decode cX8_gets 37 = .ok (.ifCond .ne 7, 3) := by decide +kernel
theorem dX8_gets_40 : decode cX8_gets 40 = .ok (.sipush (-1000), 3) := by decide +kernel
theorem dX8_gets_43 : decode cX8_gets 43 = .ok (.ireturn, 1) := by decide +kernel
theorem dX8_gets_44 : decode cX8_gets 44 = .ok (.aload_n 0, 1) := by decide +kernel
theorem dX8_gets_45 : decode cX8_gets 45 = .ok (.iload_n 1, 1) := by decide +kernel
theorem dX8_gets_46 : decode cX8_gets 46 = .ok (.iload_n 1, 1) := by decide +kernel
theorem dX8_gets_47 : decode cX8_gets 47 = .ok (.iload_n 2, 1) := by decide +kernel
theorem dX8_gets_48 : decode cX8_gets 48 = .ok (.iload_n 3, 1) := by decide +kernel
theorem dX8_gets_49 : decode cX8_gets 49 = .ok (.iload 4, 2) := by decide +kernel
theorem dX8_gets_51 : decode cX8_gets 51 = .ok (.invokestatic 318, 3) := by decide +kernel
theorem dX8_gets_54 : decode cX8_gets 54 = .ok (.invokevirtual 322, 3) := by decide +kernel
theorem dX8_gets_57 : decode cX8_gets 57 = .ok (.ireturn, 1) := by decide +kernel
theorem dX8_grounds_0 : decode cX8_grounds 0 = .ok (.aload_n 0, 1) := by decide +kernel
theorem dX8_grounds_1 : decode cX8_grounds 1 = .ok (.iload_n 1, 1) := by decide +kernel
theorem dX8_grounds_2 : decode cX8_grounds 2 = .ok (.invokevirtual 145, 3) := by decide +kernel
theorem dX8_grounds_5 : decode cX8_grounds 5 = .ok (.ifCond .ne 6, 3) := by decide +kernel
theorem dX8_grounds_8 : decode cX8_grounds 8 = .ok (.bipush (-2), 2) := by decide +kernel
theorem dX8_grounds_10 : decode cX8_grounds 10 = .ok (.ireturn, 1) := by decide +kernel
theorem dX8_grounds_11 : decode cX8_grounds 11 = .ok (.aload_n 0, 1) := by decide +kernel
theorem dX8_grounds_12 : decode cX8_grounds 12 = .ok (.iload_n 1, 1) := by decide +kernel
theorem dX8_grounds_13 : decode cX8_grounds 13 = .ok (.invokevirtual 164, 3) := by decide +kernel
theorem dX8_grounds_16 : decode cX8_grounds 16 = .ok (.iconst 0, 1) := by decide +kernel
theorem dX8_grounds_17 : decode cX8_grounds 17 = .ok (.istore_n 2, 1) := by decide +kernel
theorem dX8_grounds_18 : decode cX8_grounds 18 = .ok (.iconst 0, 1) := by decide +kernel
theorem dX8_grounds_19 : decode cX8_grounds 19 = .ok (.istore_n 3, 1) := by decide +kernel
theorem dX8_grounds_20 : decode cX8_grounds 20 = .ok (.iload_n 3, 1) := by decide +kernel
theorem dX8_grounds_21 : decode cX8_grounds 21 = .ok (.aload_n 0, 1) := by decide +kernel
theorem dX8_grounds_22 : decode cX8_grounds 22 = .ok (.getfield 33, 3) := by decide +kernel
theorem dX8_grounds_25 : decode cX8_grounds 25 = .ok (.getfield 210, 3) := by decide +kernel
theorem dX8_grounds_28 : decode cX8_grounds 28 = .ok (.if_icmp .ge 21, 3) := by decide +kernel
theorem dX8_grounds_31 : decode cX8_grounds 31 = .ok (.iload_n 2, 1) := by decide +kernel
theorem dX8_grounds_32 : decode cX8_grounds 32 = .ok (.aload_n 0, 1) := by decide +kernel
theorem dX8_grounds_33 : decode cX8_grounds 33 = .ok (.getfield 61, 3) := by decide +kernel
theorem dX8_grounds_36 : decode cX8_grounds 36 = .ok (.getfield 199, 3) := by decide +kernel
theorem dX8_grounds_39 : decode cX8_grounds 39 = .ok (.iload_n 3, 1) := by decide +kernel
theorem dX8_grounds_40 : decode cX8_grounds 40 = .ok (.iaload, 1) := by decide +kernel
theorem dX8_grounds_41 : decode cX8_grounds 41 = .ok (.iadd, 1) := by decide +kernel
theorem dX8_grounds_42 : decode cX8_grounds 42 = .ok (.istore_n 2, 1) := by decide +kernel
theorem dX8_grounds_43 : decode cX8_grounds 43 = .ok (.iinc 3 1, 3) := by decide +kernel
theorem dX8_grounds_46 : decode cX8_grounds 46 = .ok (.goto (-26), 3) := by decide +kernel
theorem dX8_grounds_49 : decode cX8_grounds 49 = .ok (.iload_n 2, 1) := by decide +kernel
theorem dX8_grounds_50 : decode cX8_grounds 50 = .ok (.ireturn, 1) := by decide +kernel
theorem dX8_half_0 : decode cX8_half 0 = .ok (.aload_n 0, 1) := by decide +kernel
theorem dX8_half_1 : decode cX8_half 1 = .ok (.iload_n 1, 1) := by decide +kernel
theorem dX8_half_2 : decode cX8_half 2 = .ok (.invokevirtual 145, 3) := by decide +kernel
theorem dX8_half_5 : decode cX8_half 5 = .ok (.ifCond .ne 6, 3) := by decide +kernel
theorem dX8_half_8 : decode cX8_half 8 = .ok (.bipush (-2), 2) := by decide +kernel
theorem dX8_half_10 : decode cX8_half 10 = .ok (.ireturn, 1) := by decide +kernel
theorem dX8_half_11 : decode cX8_half 11 = .ok (.aload_n 0, 1) := by decide +kernel
theorem dX8_half_12 : decode cX8_half 12 = .ok (.iload_n 1, 1) := by decide +kernel
theorem dX8_half_13 : decode cX8_half 13 = .ok (.invokevirtual 164, 3) := by decide +kernel
theorem dX8_half_16 : decode cX8_half 16 = .ok (.iconst 0, 1) := by decide +kernel
theorem dX8_half_17 : decode cX8_half 17 = .ok (.istore_n 2, 1) := by decide +kernel
theorem dX8_half_18 : decode cX8_half 18 = .ok (.iload_n 2, 1) := by decide +kernel
theorem dX8_half_19 : decode cX8_half 19 = .ok (.aload_n 0, 1) := by decide +kernel
theorem dX8_half_20 : decode cX8_half 20 = .ok (.getfield 33, 3) := by decide +kernel
theorem dX8_half_23 : decode cX8_half 23 = .ok (.getfield 210, 3) := by decide +kernel
theorem dX8_half_26 : decode cX8_half 26 = .ok (.if_icmp .ge 35, 3) := by decide +kernel
theorem dX8_half_29 : decode cX8_half 29 = .ok (.ldc2_w 255, 3) := by decide +kernel
theorem dX8_half_32 : decode cX8_half 32 = .ok (.aload_n 0, 1) := by decide +kernel
theorem dX8_half_33 : decode cX8_half 33 = .ok (.getfield 61, 3) := by decide +kernel
theorem dX8_half_36 : decode cX8_half 36 = .ok (.getfield 190, 3) := by decide +kernel
theorem dX8_half_39 : decode cX8_half 39 = .ok (.iload_n 2, 1) := by decide +kernel
theorem dX8_half_40 : decode cX8_half 40 = .ok (.laload, 1) := by decide +kernel
theorem dX8_half_41 : decode cX8_half 41 = .ok (.lmul, 1) := by decide +kernel
theorem dX8_half_42 : decode cX8_half 42 = .ok (.aload_n 0, 1) := by decide +kernel
theorem dX8_half_43 : decode cX8_half 43 = .ok (.getfield 61, 3) := by decide +kernel
theorem dX8_half_46 : decode cX8_half 46 = .ok (.getfield 182, 3) := by decide +kernel
theorem dX8_half_49 : decode cX8_half 49 = .ok (.lcmp, 1) := by decide +kernel
theorem dX8_half_50 : decode cX8_half 50 = .ok (.ifCond .gt 5, 3) := by decide +kernel
theorem dX8_half_53 : decode cX8_half 53 = .ok (.iload_n 2, 1) := by decide +kernel
theorem dX8_half_54 : decode cX8_half 54 = .ok (.ireturn, 1) := by decide +kernel
theorem dX8_half_55 : decode cX8_half 55 = .ok (.iinc 2 1, 3) := by decide +kernel
theorem dX8_half_58 : decode cX8_half 58 = .ok (.goto (-40), 3) := by decide +kernel
theorem dX8_half_61 : decode cX8_half 61 = .ok (.iconst (-1), 1) := by decide +kernel
theorem dX8_half_62 : decode cX8_half 62 = .ok (.ireturn, 1) := by decide +kernel
theorem dX8_hasBit_0 : decode cX8_hasBit 0 = .ok (.iload_n 0, 1) := by decide +kernel
theorem dX8_hasBit_1 : decode cX8_hasBit 1 = .ok (.iload_n 1, 1) := by decide +kernel
theorem dX8_hasBit_2 : decode cX8_hasBit 2 = .ok (.ishr, 1) := by decide +kernel
theorem dX8_hasBit_3 : decode cX8_hasBit 3 = .ok (.iconst 1, 1) := by decide +kernel
theorem dX8_hasBit_4 : decode cX8_hasBit 4 = .ok (.iand, 1) := by decide +kernel
theorem dX8_hasBit_5 : decode cX8_hasBit 5 = .ok (.iconst 1, 1) := by decide +kernel
theorem dX8_hasBit_6 : decode cX8_hasBit 6 = .ok (.if_icmp .ne 7, 3) := by decide +kernel
theorem dX8_hasBit_9 : decode cX8_hasBit 9 = .ok (.iconst 1, 1) := by decide +kernel
theorem dX8_hasBit_10 : decode cX8_hasBit 10 = .ok (.goto 4, 3) := by decide +kernel
theorem dX8_hasBit_13 : decode cX8_hasBit 13 = .ok (.iconst 0, 1) := by decide +kernel
theorem dX8_hasBit_14 : decode cX8_hasBit 14 = .ok (.ireturn, 1) := by decide +kernel
theorem dX8_heardBits_0 : decode cX8_heardBits 0 = .ok (.aload_n 0, 1) := by decide +kernel
theorem dX8_heardBits_1 : decode cX8_heardBits 1 = .ok (.getfield 61, 3) := by decide +kernel
theorem dX8_heardBits_4 : decode cX8_heardBits 4 = .ok (.aload_n 0, 1) := by decide +kernel
theorem dX8_heardBits_5 : decode cX8_heardBits 5 = .ok (.getfield 33, 3) := by decide +kernel
theorem dX8_heardBits_8 : decode cX8_heardBits 8 = .ok (.aload_n 0, 1) := by decide +kernel
theorem dX8_heardBits_9 : decode cX8_heardBits 9 = .ok (.getfield 54, 3) := by decide +kernel
theorem dX8_heardBits_12 : decode cX8_heardBits 12 = .ok (.iload_n 1, 1) := by decide +kernel
theorem dX8_heardBits_13 : decode cX8_heardBits 13 = .ok (.invokevirtual 281, 3) := by decide +kernel
theorem dX8_heardBits_16 : decode cX8_heardBits 16 = .ok (.iconst 0, 1) := by decide +kernel
theorem dX8_heardBits_17 : decode cX8_heardBits 17 = .ok (.istore_n 2, 1) := by decide +kernel
theorem dX8_heardBits_18 : decode cX8_heardBits 18 = .ok (.iconst 0, 1) := by decide +kernel
theorem dX8_heardBits_19 : decode cX8_heardBits 19 = .ok (.istore_n 3, 1) := by decide +kernel
theorem dX8_heardBits_20 : decode cX8_heardBits 20 = .ok (.iload_n 3, 1) := by decide +kernel
theorem dX8_heardBits_21 : decode cX8_heardBits 21 = .ok (.aload_n 0, 1) := by decide +kernel
theorem dX8_heardBits_22 : decode cX8_heardBits 22 = .ok (.getfield 33, 3) := by decide +kernel
theorem dX8_heardBits_25 : decode cX8_heardBits 25 = .ok (.getfield 210, 3) := by decide +kernel
theorem dX8_heardBits_28 : decode cX8_heardBits 28 = .ok (.if_icmp .ge 52, 3) := by decide +kernel
theorem dX8_heardBits_31 : decode cX8_heardBits 31 = .ok (.aload_n 0, 1) := by decide +kernel
theorem dX8_heardBits_32 : decode cX8_heardBits 32 = .ok (.iload_n 3, 1) := by decide +kernel
theorem dX8_heardBits_33 : decode cX8_heardBits 33 = .ok (.invokevirtual 213, 3) := by decide +kernel
theorem dX8_heardBits_36 : decode cX8_heardBits 36 = .ok (.ifCond .eq 38, 3) := by decide +kernel
theorem dX8_heardBits_39 : decode cX8_heardBits 39 = .ok (.aload_n 0, 1) := by decide +kernel
theorem dX8_heardBits_40 : decode cX8_heardBits 40 = .ok (.getfield 61, 3) := by decide +kernel
theorem dX8_heardBits_43 : decode cX8_heardBits 43 = .ok (.iload_n 3, 1) := by decide +kernel
theorem dX8_heardBits_44 : decode cX8_heardBits 44 = .ok (.aload_n 0, 1) := by decide +kernel
theorem dX8_heardBits_45 : decode cX8_heardBits 45 = .ok (.getfield 33, 3) := by decide +kernel
theorem dX8_heardBits_48 : decode cX8_heardBits 48 = .ok (.getfield 175, 3) := by decide +kernel
theorem dX8_heardBits_51 : decode cX8_heardBits 51 = .ok (.i2l, 1) := by decide +kernel
theorem dX8_heardBits_52 : decode cX8_heardBits 52 = .ok (.aload_n 0, 1) := by decide +kernel
theorem dX8_heardBits_53 : decode cX8_heardBits 53 = .ok (.getfield 33, 3) := by decide +kernel
theorem dX8_heardBits_56 : decode cX8_heardBits 56 = .ok (.getfield 131, 3) := by decide +kernel
theorem dX8_heardBits_59 : decode cX8_heardBits 59 = .ok (.iload_n 3, 1) := by decide +kernel
theorem dX8_heardBits_60 : decode cX8_heardBits 60 = .ok (.iaload, 1) := by decide +kernel
theorem dX8_heardBits_61 : decode cX8_heardBits 61 = .ok (.i2l, 1) := by decide +kernel
theorem dX8_heardBits_62 : decode cX8_heardBits 62 = .ok (.invokevirtual 399, 3) := by decide +kernel
theorem dX8_heardBits_65 : decode cX8_heardBits 65 = .ok (.ifCond .eq 9, 3) := by decide +kernel
theorem dX8_heardBits_68 : decode cX8_heardBits 68 = .ok (.iload_n 2, 1) := by decide +kernel
theorem dX8_heardBits_69 : decode cX8_heardBits 69 = .ok (.iconst 1, 1) := by decide +kernel
theorem dX8_heardBits_70 : decode cX8_heardBits 70 = .ok (.iload_n 3, 1) := by decide +kernel
theorem dX8_heardBits_71 : decode cX8_heardBits 71 = .ok (.ishl, 1) := by decide +kernel
theorem dX8_heardBits_72 : decode cX8_heardBits 72 = .ok (.ior, 1) := by decide +kernel
theorem dX8_heardBits_73 : decode cX8_heardBits 73 = .ok (.istore_n 2, 1) := by decide +kernel
theorem dX8_heardBits_74 : decode cX8_heardBits 74 = .ok (.iinc 3 1, 3) := by decide +kernel
theorem dX8_heardBits_77 : decode cX8_heardBits 77 = .ok (.goto (-57), 3) := by decide +kernel
theorem dX8_heardBits_80 : decode cX8_heardBits 80 = .ok (.iload_n 2, 1) := by decide +kernel
theorem dX8_heardBits_81 : decode cX8_heardBits 81 = .ok (.ireturn, 1) := by decide +kernel
theorem dX8_heardByChance_0 : decode cX8_heardByChance 0 = .ok (.aload_n 0, 1) := by decide +kernel
theorem dX8_heardByChance_1 : decode cX8_heardByChance 1 = .ok (.getfield 54, 3) := by decide +kernel
theorem dX8_heardByChance_4 : decode cX8_heardByChance 4 = .ok (.aload_n 0, 1) := by decide +kernel
theorem dX8_heardByChance_5 : decode cX8_heardByChance 5 = .ok (.getfield 33, 3) := by decide +kernel
theorem dX8_heardByChance_8 : decode cX8_heardByChance 8 = .ok (.invokevirtual 148, 3) := by decide +kernel
theorem dX8_heardByChance_11 : decode cX8_heardByChance 11 = .ok (.iload_n 1, 1) := by decide +kernel
theorem dX8_heardByChance_12 : decode cX8_heardByChance 12 = .ok (.iconst 1, 1) := by decide +kernel
theorem dX8_heardByChance_13 : decode cX8_heardByChance 13 = .ok (.iadd, 1) := by decide +kernel
theorem dX8_heardByChance_14 : decode cX8_heardByChance 14 = .ok (.istore_n 3, 1) := by decide +kernel
theorem dX8_heardByChance_15 : decode cX8_heardByChance 15 = .ok (.lconst 0, 1) := by decide +kernel
theorem dX8_heardByChance_16 : decode cX8_heardByChance 16 = .ok (.lstore 4, 2) := by decide +kernel
theorem dX8_heardByChance_18 : decode cX8_heardByChance 18 = .ok (.iconst 0, 1) := by decide +kernel
theorem dX8_heardByChance_19 : decode cX8_heardByChance 19 = .ok (.istore 6, 2) := by decide +kernel
theorem dX8_heardByChance_21 : decode cX8_heardByChance 21 = .ok (.iload 6, 2) := by decide +kernel
theorem dX8_heardByChance_23 : decode cX8_heardByChance 23 = .ok (.iconst 1, 1) := by decide +kernel
theorem dX8_heardByChance_24 : decode cX8_heardByChance 24 = .ok (.iload_n 3, 1) := by decide +kernel
theorem dX8_heardByChance_25 : decode cX8_heardByChance 25 = .ok (.ishl, 1) := by decide +kernel
theorem dX8_heardByChance_26 : decode cX8_heardByChance 26 = .ok (.if_icmp .ge 83, 3) := by decide +kernel
theorem dX8_heardByChance_29 : decode cX8_heardByChance 29 = .ok (.iload 6, 2) := by decide +kernel
theorem dX8_heardByChance_31 : decode cX8_heardByChance 31 = .ok (.invokestatic 227, 3) := by decide +kernel
theorem dX8_heardByChance_34 : decode cX8_heardByChance 34 = .ok (.istore 7, 2) := by decide +kernel
theorem dX8_heardByChance_36 : decode cX8_heardByChance 36 = .ok (.aload_n 0, 1) := by decide +kernel
theorem dX8_heardByChance_37 : decode cX8_heardByChance 37 = .ok (.getfield 33, 3) := by decide +kernel
theorem dX8_heardByChance_40 : decode cX8_heardByChance 40 = .ok (.getfield 355, 3) := by decide +kernel
theorem dX8_heardByChance_43 : decode cX8_heardByChance 43 = .ok (.iload 7, 2) := by decide +kernel
theorem dX8_heardByChance_45 : decode cX8_heardByChance 45 = .ok (.invokestatic 332, 3) := by decide +kernel
theorem dX8_heardByChance_48 : decode cX8_heardByChance 48 = .ok (.bipush 10, 2) := by decide +kernel
theorem dX8_heardByChance_50 : decode cX8_heardByChance 50 = .ok (.aload_n 0, 1) := by decide +kernel
theorem dX8_heardByChance_51 : decode cX8_heardByChance 51 = .ok (.getfield 33, 3) := by decide +kernel
theorem dX8_heardByChance_54 : decode cX8_heardByChance 54 = .ok (.getfield 355, 3) := by decide +kernel
theorem dX8_heardByChance_57 : decode cX8_heardByChance 57 = .ok (.isub, 1) := by decide +kernel
theorem dX8_heardByChance_58 : decode cX8_heardByChance 58 = .ok (.iload_n 3, 1) := by decide +kernel
theorem dX8_heardByChance_59 : decode cX8_heardByChance 59 = .ok (.iload 7, 2) := by decide +kernel
theorem dX8_heardByChance_61 : decode cX8_heardByChance 61 = .ok (.isub, 1) := by decide +kernel
theorem dX8_heardByChance_62 : decode cX8_heardByChance 62 = .ok (.invokestatic 332, 3) := by decide +kernel
theorem dX8_heardByChance_65 : decode cX8_heardByChance 65 = .ok (.lmul, 1) := by decide +kernel
theorem dX8_heardByChance_66 : decode cX8_heardByChance 66 = .ok (.lstore 8, 2) := by decide +kernel
theorem dX8_heardByChance_68 : decode cX8_heardByChance 68 = .ok (.lload 8, 2) := by decide +kernel
theorem dX8_heardByChance_70 : decode cX8_heardByChance 70 = .ok (.lconst 0, 1) := by decide +kernel
theorem dX8_heardByChance_71 : decode cX8_heardByChance 71 = .ok (.lcmp, 1) := by decide +kernel
theorem dX8_heardByChance_72 : decode cX8_heardByChance 72 = .ok (.ifCond .le 31, 3) := by decide +kernel
