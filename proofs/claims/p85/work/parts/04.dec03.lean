theorem dX8_ends_27 : decode cX8_ends 27 = .ok (.getfield 33, 3) := by decide +kernel
theorem dX8_ends_30 : decode cX8_ends 30 = .ok (.iload_n 1, 1) := by decide +kernel
theorem dX8_ends_31 : decode cX8_ends 31 = .ok (.invokevirtual 155, 3) := by decide +kernel
theorem dX8_ends_34 : decode cX8_ends 34 = .ok (.istore_n 2, 1) := by decide +kernel
theorem dX8_ends_35 : decode cX8_ends 35 = .ok (.iload_n 2, 1) := by decide +kernel
theorem dX8_ends_36 : decode cX8_ends 36 = .ok (.ifCond .ne 7, 3) := by decide +kernel
theorem dX8_ends_39 : decode cX8_ends 39 = .ok (.iconst (-1), 1) := by decide +kernel
theorem dX8_ends_40 : decode cX8_ends 40 = .ok (.goto 6, 3) := by decide +kernel
theorem dX8_ends_43 : decode cX8_ends 43 = .ok (.iload_n 2, 1) := by decide +kernel
theorem dX8_ends_44 : decode cX8_ends 44 = .ok (.iconst 1, 1) := by decide +kernel
theorem dX8_ends_45 : decode cX8_ends 45 = .ok (.isub, 1) := by decide +kernel
theorem dX8_ends_46 : decode cX8_ends 46 = .ok (.ireturn, 1) := by decide +kernel
theorem dX8_factorial_0 : decode cX8_factorial 0 = .ok (.lconst 1, 1) := by decide +kernel
theorem dX8_factorial_1 : decode cX8_factorial 1 = .ok (.lstore_n 1, 1) := by decide +kernel
theorem dX8_factorial_2 : decode cX8_factorial 2 = .ok (.iconst 2, 1) := by decide +kernel
theorem dX8_factorial_3 : decode cX8_factorial 3 = .ok (.istore_n 3, 1) := by decide +kernel
theorem dX8_factorial_4 : decode cX8_factorial 4 = .ok (.iload_n 3, 1) := by decide +kernel
theorem dX8_factorial_5 : decode cX8_factorial 5 = .ok (.iload_n 0, 1) := by decide +kernel
theorem dX8_factorial_6 : decode cX8_factorial 6 = .ok (.if_icmp .gt 14, 3) := by decide +kernel
theorem dX8_factorial_9 : decode cX8_factorial 9 = .ok (.lload_n 1, 1) := by decide +kernel
theorem dX8_factorial_10 : decode cX8_factorial 10 = .ok (.iload_n 3, 1) := by decide +kernel
theorem dX8_factorial_11 : decode cX8_factorial 11 = .ok (.i2l, 1) := by decide +kernel
theorem dX8_factorial_12 : decode cX8_factorial 12 = .ok (.lmul, 1) := by decide +kernel
theorem dX8_factorial_13 : decode cX8_factorial 13 = .ok (.lstore_n 1, 1) := by decide +kernel
theorem dX8_factorial_14 : decode cX8_factorial 14 = .ok (.iinc 3 1, 3) := by decide +kernel
theorem dX8_factorial_17 : decode cX8_factorial 17 = .ok (.goto (-13), 3) := by decide +kernel
theorem dX8_factorial_20 : decode cX8_factorial 20 = .ok (.lload_n 1, 1) := by decide +kernel
theorem dX8_factorial_21 : decode cX8_factorial 21 = .ok (.lreturn, 1) := by decide +kernel
theorem dX8_faint_0 : decode cX8_faint 0 = .ok (.aload_n 0, 1) := by decide +kernel
theorem dX8_faint_1 : decode cX8_faint 1 = .ok (.iload_n 1, 1) := by decide +kernel
theorem dX8_faint_2 : decode cX8_faint 2 = .ok (.invokevirtual 145, 3) := by decide +kernel
theorem dX8_faint_5 : decode cX8_faint 5 = .ok (.ifCond .ne 6, 3) := by decide +kernel
theorem dX8_faint_8 : decode cX8_faint 8 = .ok (.bipush (-2), 2) := by decide +kernel
theorem dX8_faint_10 : decode cX8_faint 10 = .ok (.ireturn, 1) := by decide +kernel
theorem dX8_faint_11 : decode cX8_faint 11 = .ok (.aload_n 0, 1) := by decide +kernel
theorem dX8_faint_12 : decode cX8_faint 12 = .ok (.iload_n 1, 1) := by decide +kernel
theorem dX8_faint_13 : decode cX8_faint 13 = .ok (.invokevirtual 164, 3) := by decide +kernel
theorem dX8_faint_16 : decode cX8_faint 16 = .ok (.iconst (-1), 1) := by decide +kernel
theorem dX8_faint_17 : decode cX8_faint 17 = .ok (.istore_n 2, 1) := by decide +kernel
theorem dX8_faint_18 : decode cX8_faint 18 = .ok (.iconst 0, 1) := by decide +kernel
theorem dX8_faint_19 : decode cX8_faint 19 = .ok (.istore_n 3, 1) := by decide +kernel
theorem dX8_faint_20 : decode cX8_faint 20 = .ok (.iload_n 3, 1) := by decide +kernel
theorem dX8_faint_21 : decode cX8_faint 21 = .ok (.aload_n 0, 1) := by decide +kernel
theorem dX8_faint_22 : decode cX8_faint 22 = .ok (.getfield 33, 3) := by decide +kernel
theorem dX8_faint_25 : decode cX8_faint 25 = .ok (.getfield 210, 3) := by decide +kernel
theorem dX8_faint_28 : decode cX8_faint 28 = .ok (.if_icmp .ge 46, 3) := by decide +kernel
theorem dX8_faint_31 : decode cX8_faint 31 = .ok (.aload_n 0, 1) := by decide +kernel
theorem dX8_faint_32 : decode cX8_faint 32 = .ok (.iload_n 3, 1) := by decide +kernel
theorem dX8_faint_33 : decode cX8_faint 33 = .ok (.invokevirtual 213, 3) := by decide +kernel
theorem dX8_faint_36 : decode cX8_faint 36 = .ok (.ifCond .eq 32, 3) := by decide +kernel
theorem dX8_faint_39 : decode cX8_faint 39 = .ok (.iload_n 2, 1) := by decide +kernel
theorem dX8_faint_40 : decode cX8_faint 40 = .ok (.iconst (-1), 1) := by decide +kernel
theorem dX8_faint_41 : decode cX8_faint 41 = .ok (.if_icmp .eq 25, 3) := by decide +kernel
theorem dX8_faint_44 : decode cX8_faint 44 = .ok (.aload_n 0, 1) := by decide +kernel
theorem dX8_faint_45 : decode cX8_faint 45 = .ok (.getfield 61, 3) := by decide +kernel
theorem dX8_faint_48 : decode cX8_faint 48 = .ok (.getfield 190, 3) := by decide +kernel
theorem dX8_faint_51 : decode cX8_faint 51 = .ok (.iload_n 3, 1) := by decide +kernel
theorem dX8_faint_52 : decode cX8_faint 52 = .ok (.laload, 1) := by decide +kernel
theorem dX8_faint_53 : decode cX8_faint 53 = .ok (.aload_n 0, 1) := by decide +kernel
theorem dX8_faint_54 : decode cX8_faint 54 = .ok (.getfield 61, 3) := by decide +kernel
theorem dX8_faint_57 : decode cX8_faint 57 = .ok (.getfield 190, 3) := by decide +kernel
theorem dX8_faint_60 : decode cX8_faint 60 = .ok (.iload_n 2, 1) := by decide +kernel
theorem dX8_faint_61 : decode cX8_faint 61 = .ok (.laload, 1) := by decide +kernel
theorem dX8_faint_62 : decode cX8_faint 62 = .ok (.lcmp, 1) := by decide +kernel
theorem dX8_faint_63 : decode cX8_faint 63 = .ok (.ifCond .gt 5, 3) := by decide +kernel
theorem dX8_faint_66 : decode cX8_faint 66 = .ok (.iload_n 3, 1) := by decide +kernel
theorem dX8_faint_67 : decode cX8_faint 67 = .ok (.istore_n 2, 1) := by decide +kernel
theorem dX8_faint_68 : decode cX8_faint 68 = .ok (.iinc 3 1, 3) := by decide +kernel
theorem dX8_faint_71 : decode cX8_faint 71 = .ok (.goto (-51), 3) := by decide +kernel
theorem dX8_faint_74 : decode cX8_faint 74 = .ok (.iload_n 2, 1) := by decide +kernel
theorem dX8_faint_75 : decode cX8_faint 75 = .ok (.ireturn, 1) := by decide +kernel
theorem dX8_falls_0 : decode cX8_falls 0 = .ok (.aload_n 0, 1) := by decide +kernel
theorem dX8_falls_1 : decode cX8_falls 1 = .ok (.iload_n 1, 1) := by decide +kernel
theorem dX8_falls_2 : decode cX8_falls 2 = .ok (.invokevirtual 121, 3) := by decide +kernel
theorem dX8_falls_5 : decode cX8_falls 5 = .ok (.ifCond .eq 18, 3) := by decide +kernel
theorem dX8_falls_8 : decode cX8_falls 8 = .ok (.aload_n 0, 1) := by decide +kernel
theorem dX8_falls_9 : decode cX8_falls 9 = .ok (.iload_n 2, 1) := by decide +kernel
theorem dX8_falls_10 : decode cX8_falls 10 = .ok (.invokevirtual 145, 3) := by decide +kernel
theorem dX8_falls_13 : decode cX8_falls 13 = .ok (.ifCond .eq 10, 3) := by decide +kernel
theorem dX8_falls_16 : decode cX8_falls 16 = .ok (.iload_n 3, 1) := by decide +kernel
theorem dX8_falls_17 : decode cX8_falls 17 = .ok (.invokestatic 159, 3) := by decide +kernel
theorem dX8_falls_20 : decode cX8_falls 20 = .ok (.ifCond .ne 7, 3) := by decide +kernel
theorem dX8_falls_23 : decode cX8_falls 23 = .ok (.ldc2_w 162, 3) := by decide +kernel
theorem dX8_falls_26 : decode cX8_falls 26 = .ok (.lreturn, 1) := by decide +kernel
theorem dX8_falls_27 : decode cX8_falls 27 = .ok (.aload_n 0, 1) := by decide +kernel
theorem dX8_falls_28 : decode cX8_falls 28 = .ok (.iload_n 2, 1) := by decide +kernel
theorem dX8_falls_29 : decode cX8_falls 29 = .ok (.invokevirtual 164, 3) := by decide +kernel
theorem dX8_falls_32 : decode cX8_falls 32 = .ok (.aload_n 0, 1) := by decide +kernel
theorem dX8_falls_33 : decode cX8_falls 33 = .ok (.aload_n 0, 1) := by decide +kernel
theorem dX8_falls_34 : decode cX8_falls 34 = .ok (.getfield 33, 3) := by decide +kernel
theorem dX8_falls_37 : decode cX8_falls 37 = .ok (.getfield 175, 3) := by decide +kernel
theorem dX8_falls_40 : decode cX8_falls 40 = .ok (.i2l, 1) := by decide +kernel
theorem dX8_falls_41 : decode cX8_falls 41 = .ok (.aload_n 0, 1) := by decide +kernel
theorem dX8_falls_42 : decode cX8_falls 42 = .ok (.getfield 61, 3) := by decide +kernel
theorem dX8_falls_45 : decode cX8_falls 45 = .ok (.iload_n 1, 1) := by decide +kernel
theorem dX8_falls_46 : decode cX8_falls 46 = .ok (.invokevirtual 196, 3) := by decide +kernel
theorem dX8_falls_49 : decode cX8_falls 49 = .ok (.lmul, 1) := by decide +kernel
theorem dX8_falls_50 : decode cX8_falls 50 = .ok (.aload_n 0, 1) := by decide +kernel
theorem dX8_falls_51 : decode cX8_falls 51 = .ok (.getfield 61, 3) := by decide +kernel
theorem dX8_falls_54 : decode cX8_falls 54 = .ok (.getfield 182, 3) := by decide +kernel
theorem dX8_falls_57 : decode cX8_falls 57 = .ok (.iload_n 3, 1) := by decide +kernel
theorem dX8_falls_58 : decode cX8_falls 58 = .ok (.invokevirtual 186, 3) := by decide +kernel
theorem dX8_falls_61 : decode cX8_falls 61 = .ok (.lreturn, 1) := by decide +kernel
theorem dX8_fault_0 : decode cX8_fault 0 = .ok (.iload_n 1, 1) := by decide +kernel
theorem dX8_fault_1 : decode cX8_fault 1 = .ok (.ifCond .ne 8, 3) := by decide +kernel
theorem dX8_fault_4 : decode cX8_fault 4 = .ok (.aload_n 0, 1) := by decide +kernel
theorem dX8_fault_5 : decode cX8_fault 5 = .ok (.getfield 86, 3) := by decide +kernel
theorem dX8_fault_8 : decode cX8_fault 8 = .ok (.ireturn, 1) := by decide +kernel
theorem dX8_fault_9 : decode cX8_fault 9 = .ok (.iload_n 1, 1) := by decide +kernel
theorem dX8_fault_10 : decode cX8_fault 10 = .ok (.iconst 1, 1) := by decide +kernel
theorem dX8_fault_11 : decode cX8_fault 11 = .ok (.if_icmp .ne 10, 3) := by decide +kernel
theorem dX8_fault_14 : decode cX8_fault 14 = .ok (.aload_n 0, 1) := by decide +kernel
theorem dX8_fault_15 : decode cX8_fault 15 = .ok (.getfield 90, 3) := by decide +kernel
theorem dX8_fault_18 : decode cX8_fault 18 = .ok (.goto 4, 3) := by decide +kernel
theorem dX8_fault_21 : decode cX8_fault 21 = .ok (.iconst (-1), 1) := by decide +kernel
theorem dX8_fault_22 : decode cX8_fault 22 = .ok (.ireturn, 1) := by decide +kernel
theorem dX8_firstByDays_0 : decode cX8_firstByDays 0 = .ok (.aload_n 0, 1) := by decide +kernel
theorem dX8_firstByDays_1 : decode cX8_firstByDays 1 = .ok (.invokevirtual 239, 3) := by decide +kernel
theorem dX8_firstByDays_4 : decode cX8_firstByDays 4 = .ok (.iconst (-1), 1) := by decide +kernel
theorem dX8_firstByDays_5 : decode cX8_firstByDays 5 = .ok (.istore_n 2, 1) := by decide +kernel
theorem dX8_firstByDays_6 : decode cX8_firstByDays 6 = .ok (.iconst 0, 1) := by decide +kernel
theorem dX8_firstByDays_7 : decode cX8_firstByDays 7 = .ok (.istore_n 3, 1) := by decide +kernel
theorem dX8_firstByDays_8 : decode cX8_firstByDays 8 = .ok (.iconst 0, 1) := by decide +kernel
theorem dX8_firstByDays_9 : decode cX8_firstByDays 9 = .ok (.istore 4, 2) := by decide +kernel
theorem dX8_firstByDays_11 : decode cX8_firstByDays 11 = .ok (.iload 4, 2) := by decide +kernel
theorem dX8_firstByDays_13 : decode cX8_firstByDays 13 = .ok (.aload_n 0, 1) := by decide +kernel
theorem dX8_firstByDays_14 : decode cX8_firstByDays 14 = .ok (.getfield 33, 3) := by decide +kernel
theorem dX8_firstByDays_17 : decode cX8_firstByDays 17 = .ok (.getfield 210, 3) := by decide +kernel
theorem dX8_firstByDays_20 : decode cX8_firstByDays 20 = .ok (.if_icmp .ge 45, 3) := by decide +kernel
theorem dX8_firstByDays_23 : decode cX8_firstByDays 23 = .ok (.iload_n 1, 1) := by decide +kernel
theorem dX8_firstByDays_24 : decode cX8_firstByDays 24 = .ok (.aload_n 0, 1) := by decide +kernel
theorem dX8_firstByDays_25 : decode cX8_firstByDays 25 = .ok (.iload 4, 2) := by decide +kernel
theorem dX8_firstByDays_27 : decode cX8_firstByDays 27 = .ok (.invokevirtual 406, 3) := by decide +kernel
theorem dX8_firstByDays_30 : decode cX8_firstByDays 30 = .ok (.imul, 1) := by decide +kernel
theorem dX8_firstByDays_31 : decode cX8_firstByDays 31 = .ok (.istore 5, 2) := by decide +kernel
theorem dX8_firstByDays_33 : decode cX8_firstByDays 33 = .ok (.aload_n 0, 1) := by decide +kernel
theorem dX8_firstByDays_34 : decode cX8_firstByDays 34 = .ok (.iload 4, 2) := by decide +kernel
theorem dX8_firstByDays_36 : decode cX8_firstByDays 36 = .ok (.invokevirtual 213, 3) := by decide +kernel
theorem dX8_firstByDays_39 : decode cX8_firstByDays 39 = .ok (.ifCond .eq 20, 3) := by decide +kernel
theorem dX8_firstByDays_42 : decode cX8_firstByDays 42 = .ok (.iload_n 2, 1) := by decide +kernel
theorem dX8_firstByDays_43 : decode cX8_firstByDays 43 = .ok (.iconst (-1), 1) := by decide +kernel
theorem dX8_firstByDays_44 : decode cX8_firstByDays 44 = .ok (.if_icmp .eq 9, 3) := by decide +kernel
theorem dX8_firstByDays_47 : decode cX8_firstByDays 47 = .ok (.iload 5, 2) := by decide +kernel
theorem dX8_firstByDays_49 : decode cX8_firstByDays 49 = .ok (.iload_n 3, 1) := by decide +kernel
theorem dX8_firstByDays_50 : decode cX8_firstByDays 50 = .ok (.if_icmp .le 9, 3) := by decide +kernel
theorem dX8_firstByDays_53 : decode cX8_firstByDays 53 = .ok (.iload 4, 2) := by decide +kernel
theorem dX8_firstByDays_55 : decode cX8_firstByDays 55 = .ok (.istore_n 2, 1) := by decide +kernel
theorem dX8_firstByDays_56 : decode cX8_firstByDays 56 = .ok (.iload 5, 2) := by decide +kernel
theorem dX8_firstByDays_58 : decode cX8_firstByDays 58 = .ok (.istore_n 3, 1) := by decide +kernel
theorem dX8_firstByDays_59 : decode cX8_firstByDays 59 = .ok (.iinc 4 1, 3) := by decide +kernel
theorem dX8_firstByDays_62 : decode cX8_firstByDays 62 = .ok (.goto (-51), 3) := by decide +kernel
theorem dX8_firstByDays_65 : decode cX8_firstByDays 65 = .ok (.iload_n 2, 1) := by decide +kernel
theorem dX8_firstByDays_66 : decode cX8_firstByDays 66 = .ok (.ireturn, 1) := by decide +kernel
theorem dX8_flips_0 : decode cX8_flips 0 = .ok (.aload_n 0, 1) := by decide +kernel
theorem dX8_flips_1 : decode cX8_flips 1 = .ok (.iload_n 1, 1) := by decide +kernel
theorem dX8_flips_2 : decode cX8_flips 2 = .ok (.invokevirtual 213, 3) := by decide +kernel
theorem dX8_flips_5 : decode cX8_flips 5 = .ok (.ifCond .ne 6, 3) := by decide +kernel
theorem dX8_flips_8 : decode cX8_flips 8 = .ok (.bipush (-2), 2) := by decide +kernel
theorem dX8_flips_10 : decode cX8_flips 10 = .ok (.ireturn, 1) := by decide +kernel
theorem dX8_flips_11 : decode cX8_flips 11 = .ok (.aload_n 0, 1) := by decide +kernel
theorem dX8_flips_12 : decode cX8_flips 12 = .ok (.iload_n 1, 1) := by decide +kernel
theorem dX8_flips_13 : decode cX8_flips 13 = .ok (.invokevirtual 219, 3) := by decide +kernel
theorem dX8_flips_16 : decode cX8_flips 16 = .ok (.istore_n 2, 1) := by decide +kernel
theorem dX8_flips_17 : decode cX8_flips 17 = .ok (.iload_n 2, 1) := by decide +kernel
theorem dX8_flips_18 : decode cX8_flips 18 = .ok (.iload_n 2, 1) := by decide +kernel
theorem dX8_flips_19 : decode cX8_flips 19 = .ok (.iconst 1, 1) := by decide +kernel
theorem dX8_flips_20 : decode cX8_flips 20 = .ok (.ishl, 1) := by decide +kernel
theorem dX8_flips_21 : decode cX8_flips 21 = .ok (.ixor, 1) := by decide +kernel
theorem dX8_flips_22 : decode cX8_flips 22 = .ok (.aload_n 0, 1) := by decide +kernel
theorem dX8_flips_23 : decode cX8_flips 23 = .ok (.invokevirtual 216, 3) := by decide +kernel
theorem dX8_flips_26 : decode cX8_flips 26 = .ok (.iand, 1) := by decide +kernel
theorem dX8_flips_27 : decode cX8_flips 27 = .ok (.bipush (-2), 2) := by decide +kernel
theorem dX8_flips_29 : decode cX8_flips 29 = .ok (.iand, 1) := by decide +kernel
theorem dX8_flips_30 : decode cX8_flips 30 = .ok (.invokestatic 227, 3) := by decide +kernel
theorem dX8_flips_33 : decode cX8_flips 33 = .ok (.ireturn, 1) := by decide +kernel
theorem dX8_grounds_0 : decode cX8_grounds 0 = .ok (.aload_n 0, 1) := by decide +kernel
theorem dX8_grounds_1 : decode cX8_grounds 1 = .ok (.iload_n 1, 1) := by decide +kernel
theorem dX8_grounds_2 : decode cX8_grounds 2 = .ok (.invokevirtual 145, 3) := by decide +kernel
theorem dX8_grounds_5 : decode cX8_grounds 5 = .ok (.ifCond .ne 6, 3) := by decide +kernel
theorem dX8_grounds_8 : decode cX8_grounds 8 = .ok (.bipush (-2), 2) := by decide +kernel
theorem dX8_grounds_10 : decode cX8_grounds 10 = .ok (.ireturn, 1) := by decide +kernel
theorem dX8_grounds_11 : decode cX8_grounds 11 = .ok (.aload_n 0, 1) := by decide +kernel
theorem dX8_grounds_12 : decode cX8_grounds 12 = .ok (.iload_n 1, 1) := by decide +kernel
theorem dX8_grounds_13 : decode cX8_grounds 13 = .ok (.invokevirtual 164, 3) := by decide +kernel
theorem dX8_grounds_16 : decode cX8_grounds 16 = .ok (.iconst 0, 1) := by decide +kernel
theorem dX8_grounds_17 : decode cX8_grounds 17 = .ok (.istore_n 2, 1) := by decide +kernel
theorem dX8_grounds_18 : decode cX8_grounds 18 = .ok (.iconst 0, 1) := by decide +kernel
theorem dX8_grounds_19 : decode cX8_grounds 19 = .ok (.istore_n 3, 1) := by decide +kernel
theorem dX8_grounds_20 : decode cX8_grounds 20 = .ok (.iload_n 3, 1) := by decide +kernel
theorem dX8_grounds_21 : decode cX8_grounds 21 = .ok (.aload_n 0, 1) := by decide +kernel
theorem dX8_grounds_22 : decode cX8_grounds 22 = .ok (.getfield 33, 3) := by decide +kernel
theorem dX8_grounds_25 : decode cX8_grounds 25 = .ok (.getfield 210, 3) := by decide +kernel
theorem dX8_grounds_28 : decode cX8_grounds 28 = .ok (.if_icmp .ge 21, 3) := by decide +kernel
theorem dX8_grounds_31 : decode cX8_grounds 31 = .ok (.iload_n 2, 1) := by decide +kernel
theorem dX8_grounds_32 : decode cX8_grounds 32 = .ok (.aload_n 0, 1) := by decide +kernel
theorem dX8_grounds_33 : decode cX8_grounds 33 = .ok (.getfield 61, 3) := by decide +kernel
theorem dX8_grounds_36 : decode cX8_grounds 36 = .ok (.getfield 199, 3) := by decide +kernel
theorem dX8_grounds_39 : decode cX8_grounds 39 = .ok (.iload_n 3, 1) := by decide +kernel
theorem dX8_grounds_40 : decode cX8_grounds 40 = .ok (.iaload, 1) := by decide +kernel
theorem dX8_grounds_41 : decode cX8_grounds 41 = .ok (.iadd, 1) := by decide +kernel
theorem dX8_grounds_42 : decode cX8_grounds 42 = .ok (.istore_n 2, 1) := by decide +kernel
theorem dX8_grounds_43 : decode cX8_grounds 43 = .ok (.iinc 3 1, 3) := by decide +kernel
theorem dX8_grounds_46 : decode cX8_grounds 46 = .ok (.goto (-26), 3) := by decide +kernel
theorem dX8_grounds_49 : decode cX8_grounds 49 = .ok (.iload_n 2, 1) := by decide +kernel
theorem dX8_grounds_50 : decode cX8_grounds 50 = .ok (.ireturn, 1) := by decide +kernel
theorem dX8_half_0 : decode cX8_half 0 = .ok (.aload_n 0, 1) := by decide +kernel
theorem dX8_half_1 : decode cX8_half 1 = .ok (.iload_n 1, 1) := by decide +kernel
theorem dX8_half_2 : decode cX8_half 2 = .ok (.invokevirtual 145, 3) := by decide +kernel
theorem dX8_half_5 : decode cX8_half 5 = .ok (.ifCond .ne 6, 3) := by decide +kernel
theorem dX8_half_8 : decode cX8_half 8 = .ok (.bipush (-2), 2) := by decide +kernel
theorem dX8_half_10 : decode cX8_half 10 = .ok (.ireturn, 1) := by decide +kernel
theorem dX8_half_11 : decode cX8_half 11 = .ok (.aload_n 0, 1) := by decide +kernel
theorem dX8_half_12 : decode cX8_half 12 = .ok (.iload_n 1, 1) := by decide +kernel
theorem dX8_half_13 : decode cX8_half 13 = .ok (.invokevirtual 164, 3) := by decide +kernel
theorem dX8_half_16 : decode cX8_half 16 = .ok (.iconst 0, 1) := by decide +kernel
theorem dX8_half_17 : decode cX8_half 17 = .ok (.istore_n 2, 1) := by decide +kernel
theorem dX8_half_18 : decode cX8_half 18 = .ok (.iload_n 2, 1) := by decide +kernel
theorem dX8_half_19 : decode cX8_half 19 = .ok (.aload_n 0, 1) := by decide +kernel
theorem dX8_half_20 : decode cX8_half 20 = .ok (.getfield 33, 3) := by decide +kernel
theorem dX8_half_23 : decode cX8_half 23 = .ok (.getfield 210, 3) := by decide +kernel
theorem dX8_half_26 : decode cX8_half 26 = .ok (.if_icmp .ge 35, 3) := by decide +kernel
theorem dX8_half_29 : decode cX8_half 29 = .ok (.ldc2_w 255, 3) := by decide +kernel
theorem dX8_half_32 : decode cX8_half 32 = .ok (.aload_n 0, 1) := by decide +kernel
theorem dX8_half_33 : decode cX8_half 33 = .ok (.getfield 61, 3) := by decide +kernel
theorem dX8_half_36 : decode cX8_half 36 = .ok (.getfield 190, 3) := by decide +kernel
theorem dX8_half_39 : decode cX8_half 39 = .ok (.iload_n 2, 1) := by decide +kernel
theorem dX8_half_40 : decode cX8_half 40 = .ok (.laload, 1) := by decide +kernel
theorem dX8_half_41 : decode cX8_half 41 = .ok (.lmul, 1) := by decide +kernel
theorem dX8_half_42 : decode cX8_half 42 = .ok (.aload_n 0, 1) := by decide +kernel
theorem dX8_half_43 : decode cX8_half 43 = .ok (.getfield 61, 3) := by decide +kernel
theorem dX8_half_46 : decode cX8_half 46 = .ok (.getfield 182, 3) := by decide +kernel
theorem dX8_half_49 : decode cX8_half 49 = .ok (.lcmp, 1) := by decide +kernel
theorem dX8_half_50 : decode cX8_half 50 = .ok (.ifCond .gt 5, 3) := by decide +kernel
theorem dX8_half_53 : decode cX8_half 53 = .ok (.iload_n 2, 1) := by decide +kernel
theorem dX8_half_54 : decode cX8_half 54 = .ok (.ireturn, 1) := by decide +kernel
theorem dX8_half_55 : decode cX8_half 55 = .ok (.iinc 2 1, 3) := by decide +kernel
theorem dX8_half_58 : decode cX8_half 58 = .ok (.goto (-40), 3) := by decide +kernel
theorem dX8_half_61 : decode cX8_half 61 = .ok (.iconst (-1), 1) := by decide +kernel
theorem dX8_half_62 : decode cX8_half 62 = .ok (.ireturn, 1) := by decide +kernel
theorem dX8_hasBit_0 : decode cX8_hasBit 0 = .ok (.iload_n 0, 1) := by decide +kernel
theorem dX8_hasBit_1 : decode cX8_hasBit 1 = .ok (.iload_n 1, 1) := by decide +kernel
theorem dX8_hasBit_2 : decode cX8_hasBit 2 = .ok (.ishr, 1) := by decide +kernel
theorem dX8_hasBit_3 : decode cX8_hasBit 3 = .ok (.iconst 1, 1) := by decide +kernel
theorem dX8_hasBit_4 : decode cX8_hasBit 4 = .ok (.iand, 1) := by decide +kernel
theorem dX8_hasBit_5 : decode cX8_hasBit 5 = .ok (.iconst 1, 1) := by decide +kernel
theorem dX8_hasBit_6 : decode cX8_hasBit 6 = .ok (.if_icmp .ne 7, 3) := by decide +kernel
theorem dX8_hasBit_9 : decode cX8_hasBit 9 = .ok (.iconst 1, 1) := by decide +kernel
theorem dX8_hasBit_10 : decode cX8_hasBit 10 = .ok (.goto 4, 3) := by decide +kernel
theorem dX8_hasBit_13 : decode cX8_hasBit 13 = .ok (.iconst 0, 1) := by decide +kernel
theorem dX8_hasBit_14 : decode cX8_hasBit 14 = .ok (.ireturn, 1) := by decide +kernel
theorem dX8_heardBits_0 : decode cX8_heardBits 0 = .ok (.aload_n 0, 1) := by decide +kernel
theorem dX8_heardBits_1 : decode cX8_heardBits 1 = .ok (.getfield 61, 3) := by decide +kernel
theorem dX8_heardBits_4 : decode cX8_heardBits 4 = .ok (.aload_n 0, 1) := by decide +kernel
theorem dX8_heardBits_5 : decode cX8_heardBits 5 = .ok (.getfield 33, 3) := by decide +kernel
theorem dX8_heardBits_8 : decode cX8_heardBits 8 = .ok (.aload_n 0, 1) := by decide +kernel
theorem dX8_heardBits_9 : decode cX8_heardBits 9 = .ok (.getfield 54, 3) := by decide +kernel
theorem dX8_heardBits_12 : decode cX8_heardBits 12 = .ok (.iload_n 1, 1) := by decide +kernel
theorem dX8_heardBits_13 : decode cX8_heardBits 13 = .ok (.invokevirtual 281, 3) := by decide +kernel
theorem dX8_heardBits_16 : decode cX8_heardBits 16 = .ok (.iconst 0, 1) := by decide +kernel
theorem dX8_heardBits_17 : decode cX8_heardBits 17 = .ok (.istore_n 2, 1) := by decide +kernel
theorem dX8_heardBits_18 : decode cX8_heardBits 18 = .ok (.iconst 0, 1) := by decide +kernel
theorem dX8_heardBits_19 : decode cX8_heardBits 19 = .ok (.istore_n 3, 1) := by decide +kernel
theorem dX8_heardBits_20 : decode cX8_heardBits 20 = .ok (.iload_n 3, 1) := by decide +kernel
theorem dX8_heardBits_21 : decode cX8_heardBits 21 = .ok (.aload_n 0, 1) := by decide +kernel
theorem dX8_heardBits_22 : decode cX8_heardBits 22 = .ok (.getfield 33, 3) := by decide +kernel
theorem dX8_heardBits_25 : decode cX8_heardBits 25 = .ok (.getfield 210, 3) := by decide +kernel
theorem dX8_heardBits_28 : decode cX8_heardBits 28 = .ok (.if_icmp .ge 52, 3) := by decide +kernel
theorem dX8_heardBits_31 : decode cX8_heardBits 31 = .ok (.aload_n 0, 1) := by decide +kernel
theorem dX8_heardBits_32 : decode cX8_heardBits 32 = .ok (.iload_n 3, 1) := by decide +kernel
theorem dX8_heardBits_33 : decode cX8_heardBits 33 = .ok (.invokevirtual 213, 3) := by decide +kernel
theorem dX8_heardBits_36 : decode cX8_heardBits 36 = .ok (.ifCond .eq 38, 3) := by decide +kernel
theorem dX8_heardBits_39 : decode cX8_heardBits 39 = .ok (.aload_n 0, 1) := by decide +kernel
theorem dX8_heardBits_40 : decode cX8_heardBits 40 = .ok (.getfield 61, 3) := by decide +kernel
theorem dX8_heardBits_43 : decode cX8_heardBits 43 = .ok (.iload_n 3, 1) := by decide +kernel
theorem dX8_heardBits_44 : decode cX8_heardBits 44 = .ok (.aload_n 0, 1) := by decide +kernel
theorem dX8_heardBits_45 : decode cX8_heardBits 45 = .ok (.getfield 33, 3) := by decide +kernel
theorem dX8_heardBits_48 : decode cX8_heardBits 48 = .ok (.getfield 175, 3) := by decide +kernel
theorem dX8_heardBits_51 : decode cX8_heardBits 51 = .ok (.i2l, 1) := by decide +kernel
theorem dX8_heardBits_52 : decode cX8_heardBits 52 = .ok (.aload_n 0, 1) := by decide +kernel
theorem dX8_heardBits_53 : decode cX8_heardBits 53 = .ok (.getfield 33, 3) := by decide +kernel
theorem dX8_heardBits_56 : decode cX8_heardBits 56 = .ok (.getfield 131, 3) := by decide +kernel
theorem dX8_heardBits_59 : decode cX8_heardBits 59 = .ok (.iload_n 3, 1) := by decide +kernel
theorem dX8_heardBits_60 : decode cX8_heardBits 60 = .ok (.iaload, 1) := by decide +kernel
theorem dX8_heardBits_61 : decode cX8_heardBits 61 = .ok (.i2l, 1) := by decide +kernel
theorem dX8_heardBits_62 : decode cX8_heardBits 62 = .ok (.invokevirtual 399, 3) := by decide +kernel
theorem dX8_heardBits_65 : decode cX8_heardBits 65 = .ok (.ifCond .eq 9, 3) := by decide +kernel
theorem dX8_heardBits_68 : decode cX8_heardBits 68 = .ok (.iload_n 2, 1) := by decide +kernel
theorem dX8_heardBits_69 : decode cX8_heardBits 69 = .ok (.iconst 1, 1) := by decide +kernel
theorem dX8_heardBits_70 : decode cX8_heardBits 70 = .ok (.iload_n 3, 1) := by decide +kernel
theorem dX8_heardBits_71 : decode cX8_heardBits 71 = .ok (.ishl, 1) := by decide +kernel
theorem dX8_heardBits_72 : decode cX8_heardBits 72 = .ok (.ior, 1) := by decide +kernel
theorem dX8_heardBits_73 : decode cX8_heardBits 73 = .ok (.istore_n 2, 1) := by decide +kernel
theorem dX8_heardBits_74 : decode cX8_heardBits 74 = .ok (.iinc 3 1, 3) := by decide +kernel
theorem dX8_heardBits_77 : decode cX8_heardBits 77 = .ok (.goto (-57), 3) := by decide +kernel
theorem dX8_heardBits_80 : decode cX8_heardBits 80 = .ok (.iload_n 2, 1) := by decide +kernel
theorem dX8_heardBits_81 : decode cX8_heardBits 81 = .ok (.ireturn, 1) := by decide +kernel
theorem dX8_heardByLaw_0 : decode cX8_heardByLaw 0 = .ok (.aload_n 0, 1) := by decide +kernel
theorem dX8_heardByLaw_1 : decode cX8_heardByLaw 1 = .ok (.getfield 54, 3) := by decide +kernel
theorem dX8_heardByLaw_4 : decode cX8_heardByLaw 4 = .ok (.aload_n 0, 1) := by decide +kernel
theorem dX8_heardByLaw_5 : decode cX8_heardByLaw 5 = .ok (.getfield 33, 3) := by decide +kernel
theorem dX8_heardByLaw_8 : decode cX8_heardByLaw 8 = .ok (.invokevirtual 148, 3) := by decide +kernel
theorem dX8_heardByLaw_11 : decode cX8_heardByLaw 11 = .ok (.aload_n 0, 1) := by decide +kernel
theorem dX8_heardByLaw_12 : decode cX8_heardByLaw 12 = .ok (.getfield 54, 3) := by decide +kernel
theorem dX8_heardByLaw_15 : decode cX8_heardByLaw 15 = .ok (.iload_n 1, 1) := by decide +kernel
theorem dX8_heardByLaw_16 : decode cX8_heardByLaw 16 = .ok (.putfield 308, 3) := by decide +kernel
theorem dX8_heardByLaw_19 : decode cX8_heardByLaw 19 = .ok (.aload_n 0, 1) := by decide +kernel
theorem dX8_heardByLaw_20 : decode cX8_heardByLaw 20 = .ok (.invokevirtual 245, 3) := by decide +kernel
theorem dX8_heardByLaw_23 : decode cX8_heardByLaw 23 = .ok (.ireturn, 1) := by decide +kernel
theorem dX8_heardDaysOf_0 : decode cX8_heardDaysOf 0 = .ok (.iconst 0, 1) := by decide +kernel
theorem dX8_heardDaysOf_1 : decode cX8_heardDaysOf 1 = .ok (.istore_n 2, 1) := by decide +kernel
theorem dX8_heardDaysOf_2 : decode cX8_heardDaysOf 2 = .ok (.iconst 0, 1) := by decide +kernel
theorem dX8_heardDaysOf_3 : decode cX8_heardDaysOf 3 = .ok (.istore_n 3, 1) := by decide +kernel
theorem dX8_heardDaysOf_4 : decode cX8_heardDaysOf 4 = .ok (.iload_n 3, 1) := by decide +kernel
theorem dX8_heardDaysOf_5 : decode cX8_heardDaysOf 5 = .ok (.aload_n 0, 1) := by decide +kernel
theorem dX8_heardDaysOf_6 : decode cX8_heardDaysOf 6 = .ok (.getfield 33, 3) := by decide +kernel
theorem dX8_heardDaysOf_9 : decode cX8_heardDaysOf 9 = .ok (.getfield 242, 3) := by decide +kernel
theorem dX8_heardDaysOf_12 : decode cX8_heardDaysOf 12 = .ok (.if_icmp .gt 25, 3) := by decide +kernel
theorem dX8_heardDaysOf_15 : decode cX8_heardDaysOf 15 = .ok (.aload_n 0, 1) := by decide +kernel
theorem dX8_heardDaysOf_16 : decode cX8_heardDaysOf 16 = .ok (.getfield 72, 3) := by decide +kernel
theorem dX8_heardDaysOf_19 : decode cX8_heardDaysOf 19 = .ok (.iload_n 3, 1) := by decide +kernel
theorem dX8_heardDaysOf_20 : decode cX8_heardDaysOf 20 = .ok (.iaload, 1) := by decide +kernel
theorem dX8_heardDaysOf_21 : decode cX8_heardDaysOf 21 = .ok (.iload_n 1, 1) := by decide +kernel
theorem dX8_heardDaysOf_22 : decode cX8_heardDaysOf 22 = .ok (.invokestatic 272, 3) := by decide +kernel
theorem dX8_heardDaysOf_25 : decode cX8_heardDaysOf 25 = .ok (.ifCond .eq 6, 3) := by decide +kernel
theorem dX8_heardDaysOf_28 : decode cX8_heardDaysOf 28 = .ok (.iinc 2 1, 3) := by decide +kernel
theorem dX8_heardDaysOf_31 : decode cX8_heardDaysOf 31 = .ok (.iinc 3 1, 3) := by decide +kernel
theorem dX8_heardDaysOf_34 : decode cX8_heardDaysOf 34 = .ok (.goto (-30), 3) := by decide +kernel
theorem dX8_heardDaysOf_37 : decode cX8_heardDaysOf 37 = .ok (.iload_n 2, 1) := by decide +kernel
theorem dX8_heardDaysOf_38 : decode cX8_heardDaysOf 38 = .ok (.ireturn, 1) := by decide +kernel
theorem dX8_heardInAll_0 : decode cX8_heardInAll 0 = .ok (.iconst 0, 1) := by decide +kernel
theorem dX8_heardInAll_1 : decode cX8_heardInAll 1 = .ok (.istore_n 1, 1) := by decide +kernel
theorem dX8_heardInAll_2 : decode cX8_heardInAll 2 = .ok (.iconst 0, 1) := by decide +kernel
theorem dX8_heardInAll_3 : decode cX8_heardInAll 3 = .ok (.istore_n 2, 1) := by decide +kernel
theorem dX8_heardInAll_4 : decode cX8_heardInAll 4 = .ok (.iload_n 2, 1) := by decide +kernel
theorem dX8_heardInAll_5 : decode cX8_heardInAll 5 = .ok (.aload_n 0, 1) := by decide +kernel
theorem dX8_heardInAll_6 : decode cX8_heardInAll 6 = .ok (.getfield 33, 3) := by decide +kernel
theorem dX8_heardInAll_9 : decode cX8_heardInAll 9 = .ok (.getfield 242, 3) := by decide +kernel
theorem dX8_heardInAll_12 : decode cX8_heardInAll 12 = .ok (.if_icmp .gt 20, 3) := by decide +kernel
theorem dX8_heardInAll_15 : decode cX8_heardInAll 15 = .ok (.iload_n 1, 1) := by decide +kernel
theorem dX8_heardInAll_16 : decode cX8_heardInAll 16 = .ok (.aload_n 0, 1) := by decide +kernel
theorem dX8_heardInAll_17 : decode cX8_heardInAll 17 = .ok (.iload_n 2, 1) := by decide +kernel
theorem dX8_heardInAll_18 : decode cX8_heardInAll 18 = .ok (.invokevirtual 207, 3) := by decide +kernel
theorem dX8_heardInAll_21 : decode cX8_heardInAll 21 = .ok (.invokestatic 227, 3) := by decide +kernel
theorem dX8_heardInAll_24 : decode cX8_heardInAll 24 = .ok (.iadd, 1) := by decide +kernel
theorem dX8_heardInAll_25 : decode cX8_heardInAll 25 = .ok (.istore_n 1, 1) := by decide +kernel
theorem dX8_heardInAll_26 : decode cX8_heardInAll 26 = .ok (.iinc 2 1, 3) := by decide +kernel
theorem dX8_heardInAll_29 : decode cX8_heardInAll 29 = .ok (.goto (-25), 3) := by decide +kernel
theorem dX8_heardInAll_32 : decode cX8_heardInAll 32 = .ok (.iload_n 1, 1) := by decide +kernel
theorem dX8_heardInAll_33 : decode cX8_heardInAll 33 = .ok (.ireturn, 1) := by decide +kernel
theorem dX8_hearingDays_0 : decode cX8_hearingDays 0 = .ok (.aload_n 0, 1) := by decide +kernel
theorem dX8_hearingDays_1 : decode cX8_hearingDays 1 = .ok (.getfield 54, 3) := by decide +kernel
theorem dX8_hearingDays_4 : decode cX8_hearingDays 4 = .ok (.aload_n 0, 1) := by decide +kernel
theorem dX8_hearingDays_5 : decode cX8_hearingDays 5 = .ok (.getfield 33, 3) := by decide +kernel
theorem dX8_hearingDays_8 : decode cX8_hearingDays 8 = .ok (.invokevirtual 148, 3) := by decide +kernel
theorem dX8_hearingDays_11 : decode cX8_hearingDays 11 = .ok (.aload_n 0, 1) := by decide +kernel
theorem dX8_hearingDays_12 : decode cX8_hearingDays 12 = .ok (.iload_n 1, 1) := by decide +kernel
theorem dX8_hearingDays_13 : decode cX8_hearingDays 13 = .ok (.invokevirtual 403, 3) := by decide +kernel
theorem dX8_hearingDays_16 : decode cX8_hearingDays 16 = .ok (.ireturn, 1) := by decide +kernel
theorem dX8_hears_0 : decode cX8_hears 0 = .ok (.aload_n 0, 1) := by decide +kernel
theorem dX8_hears_1 : decode cX8_hears 1 = .ok (.iload_n 1, 1) := by decide +kernel
theorem dX8_hears_2 : decode cX8_hears 2 = .ok (.invokevirtual 145, 3) := by decide +kernel
theorem dX8_hears_5 : decode cX8_hears 5 = .ok (.ifCond .ne 6, 3) := by decide +kernel
theorem dX8_hears_8 : decode cX8_hears 8 = .ok (.bipush (-2), 2) := by decide +kernel
theorem dX8_hears_10 : decode cX8_hears 10 = .ok (.ireturn, 1) := by decide +kernel
theorem dX8_hears_11 : decode cX8_hears 11 = .ok (.aload_n 0, 1) := by decide +kernel
theorem dX8_hears_12 : decode cX8_hears 12 = .ok (.getfield 54, 3) := by decide +kernel
theorem dX8_hears_15 : decode cX8_hears 15 = .ok (.aload_n 0, 1) := by decide +kernel
theorem dX8_hears_16 : decode cX8_hears 16 = .ok (.getfield 33, 3) := by decide +kernel
theorem dX8_hears_19 : decode cX8_hears 19 = .ok (.invokevirtual 148, 3) := by decide +kernel
theorem dX8_hears_22 : decode cX8_hears 22 = .ok (.aload_n 0, 1) := by decide +kernel
theorem dX8_hears_23 : decode cX8_hears 23 = .ok (.iload_n 1, 1) := by decide +kernel
theorem dX8_hears_24 : decode cX8_hears 24 = .ok (.invokevirtual 207, 3) := by decide +kernel
theorem dX8_hears_27 : decode cX8_hears 27 = .ok (.ireturn, 1) := by decide +kernel
theorem dX8_highestBit_0 : decode cX8_highestBit 0 = .ok (.iload_n 0, 1) := by decide +kernel
theorem dX8_highestBit_1 : decode cX8_highestBit 1 = .ok (.ifCond .ne 7, 3) := by decide +kernel
theorem dX8_highestBit_4 : decode cX8_highestBit 4 = .ok (.iconst (-1), 1) := by decide +kernel
theorem dX8_highestBit_5 : decode cX8_highestBit 5 = .ok (.goto 10, 3) := by decide +kernel
theorem dX8_highestBit_8 : decode cX8_highestBit 8 = .ok (.bipush 31, 2) := by decide +kernel
theorem dX8_highestBit_10 : decode cX8_highestBit 10 = .ok (.iload_n 0, 1) := by decide +kernel
theorem dX8_highestBit_11 : decode cX8_highestBit 11 = .ok (.invokestatic 392, 3) := by decide +kernel
theorem dX8_highestBit_14 : decode cX8_highestBit 14 = .ok (.isub, 1) := by decide +kernel
theorem dX8_highestBit_15 : decode cX8_highestBit 15 = .ok (.ireturn, 1) := by decide +kernel
theorem dX8_isChanceDay_0 : decode cX8_isChanceDay 0 = .ok (.aload_n 0, 1) := by decide +kernel
theorem dX8_isChanceDay_1 : decode cX8_isChanceDay 1 = .ok (.iload_n 1, 1) := by decide +kernel
theorem dX8_isChanceDay_2 : decode cX8_isChanceDay 2 = .ok (.invokevirtual 145, 3) := by decide +kernel
theorem dX8_isChanceDay_5 : decode cX8_isChanceDay 5 = .ok (.ifCond .eq 13, 3) := by decide +kernel
theorem dX8_isChanceDay_8 : decode cX8_isChanceDay 8 = .ok (.iload_n 1, 1) := by decide +kernel
theorem dX8_isChanceDay_9 : decode cX8_isChanceDay 9 = .ok (.bipush 7, 2) := by decide +kernel
theorem dX8_isChanceDay_11 : decode cX8_isChanceDay 11 = .ok (.if_icmp .gt 7, 3) := by decide +kernel
theorem dX8_isChanceDay_14 : decode cX8_isChanceDay 14 = .ok (.iconst 1, 1) := by decide +kernel
theorem dX8_isChanceDay_15 : decode cX8_isChanceDay 15 = .ok (.goto 4, 3) := by decide +kernel
theorem dX8_isChanceDay_18 : decode cX8_isChanceDay 18 = .ok (.iconst 0, 1) := by decide +kernel
theorem dX8_isChanceDay_19 : decode cX8_isChanceDay 19 = .ok (.ireturn, 1) := by decide +kernel
theorem dX8_isDay_0 : decode cX8_isDay 0 = .ok (.aload_n 0, 1) := by decide +kernel
theorem dX8_isDay_1 : decode cX8_isDay 1 = .ok (.invokevirtual 134, 3) := by decide +kernel
theorem dX8_isDay_4 : decode cX8_isDay 4 = .ok (.ifCond .eq 22, 3) := by decide +kernel
theorem dX8_isDay_7 : decode cX8_isDay 7 = .ok (.iload_n 1, 1) := by decide +kernel
theorem dX8_isDay_8 : decode cX8_isDay 8 = .ok (.ifCond .lt 18, 3) := by decide +kernel
theorem dX8_isDay_11 : decode cX8_isDay 11 = .ok (.iload_n 1, 1) := by decide +kernel
theorem dX8_isDay_12 : decode cX8_isDay 12 = .ok (.aload_n 0, 1) := by decide +kernel
