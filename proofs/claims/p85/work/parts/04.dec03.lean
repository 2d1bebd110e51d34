theorem dX8_dayToAsk_11 : decode cX8_dayToAsk 11 = .ok (.iload 5, 2) := by decide +kernel
theorem dX8_dayToAsk_13 : decode cX8_dayToAsk 13 = .ok (.aload_n 0, 1) := by decide +kernel
theorem dX8_dayToAsk_14 : decode cX8_dayToAsk 14 = .ok (.getfield 33, 3) := by decide +kernel
theorem dX8_dayToAsk_17 : decode cX8_dayToAsk 17 = .ok (.getfield 242, 3) := by decide +kernel
theorem dX8_dayToAsk_20 : decode cX8_dayToAsk 20 = .ok (.if_icmp .gt 33, 3) := by decide +kernel
theorem dX8_dayToAsk_23 : decode cX8_dayToAsk 23 = .ok (.aload_n 0, 1) := by decide +kernel
theorem dX8_dayToAsk_24 : decode cX8_dayToAsk 24 = .ok (.iload_n 1, 1) := by decide +kernel
theorem dX8_dayToAsk_25 : decode cX8_dayToAsk 25 = .ok (.iload_n 2, 1) := by decide +kernel
theorem dX8_dayToAsk_26 : decode cX8_dayToAsk 26 = .ok (.iload 5, 2) := by decide +kernel
theorem dX8_dayToAsk_28 : decode cX8_dayToAsk 28 = .ok (.invokevirtual 298, 3) := by decide +kernel
theorem dX8_dayToAsk_31 : decode cX8_dayToAsk 31 = .ok (.istore 6, 2) := by decide +kernel
theorem dX8_dayToAsk_33 : decode cX8_dayToAsk 33 = .ok (.iload 6, 2) := by decide +kernel
theorem dX8_dayToAsk_35 : decode cX8_dayToAsk 35 = .ok (.iload 4, 2) := by decide +kernel
theorem dX8_dayToAsk_37 : decode cX8_dayToAsk 37 = .ok (.if_icmp .ge 10, 3) := by decide +kernel
theorem dX8_dayToAsk_40 : decode cX8_dayToAsk 40 = .ok (.iload 6, 2) := by decide +kernel
theorem dX8_dayToAsk_42 : decode cX8_dayToAsk 42 = .ok (.istore 4, 2) := by decide +kernel
theorem dX8_dayToAsk_44 : decode cX8_dayToAsk 44 = .ok (.iload 5, 2) := by decide +kernel
theorem dX8_dayToAsk_46 : decode cX8_dayToAsk 46 = .ok (.istore_n 3, 1) := by decide +kernel
theorem dX8_dayToAsk_47 : decode cX8_dayToAsk 47 = .ok (.iinc 5 1, 3) := by decide +kernel
theorem dX8_dayToAsk_50 : decode cX8_dayToAsk 50 = .ok (.goto (-39), 3) := by decide +kernel
theorem dX8_dayToAsk_53 : decode cX8_dayToAsk 53 = .ok (.iload_n 3, 1) := by decide +kernel
theorem dX8_dayToAsk_54 : decode cX8_dayToAsk 54 = .ok (.ireturn, 1) := by decide +kernel
theorem dX8_daysHeard_0 : decode cX8_daysHeard 0 = .ok (.iconst 0, 1) := by decide +kernel
theorem dX8_daysHeard_1 : decode cX8_daysHeard 1 = .ok (.istore_n 2, 1) := by decide +kernel
theorem dX8_daysHeard_2 : decode cX8_daysHeard 2 = .ok (.iconst 0, 1) := by decide +kernel
theorem dX8_daysHeard_3 : decode cX8_daysHeard 3 = .ok (.istore_n 3, 1) := by decide +kernel
theorem dX8_daysHeard_4 : decode cX8_daysHeard 4 = .ok (.iload_n 3, 1) := by decide +kernel
theorem dX8_daysHeard_5 : decode cX8_daysHeard 5 = .ok (.aload_n 0, 1) := by decide +kernel
theorem dX8_daysHeard_6 : decode cX8_daysHeard 6 = .ok (.getfield 33, 3) := by decide +kernel
theorem dX8_daysHeard_9 : decode cX8_daysHeard 9 = .ok (.getfield 242, 3) := by decide +kernel
theorem dX8_daysHeard_12 : decode cX8_daysHeard 12 = .ok (.if_icmp .gt 27, 3) := by decide +kernel
theorem dX8_daysHeard_15 : decode cX8_daysHeard 15 = .ok (.aload_n 0, 1) := by decide +kernel
theorem dX8_daysHeard_16 : decode cX8_daysHeard 16 = .ok (.iload_n 3, 1) := by decide +kernel
theorem dX8_daysHeard_17 : decode cX8_daysHeard 17 = .ok (.invokevirtual 207, 3) := by decide +kernel
theorem dX8_daysHeard_20 : decode cX8_daysHeard 20 = .ok (.iload_n 1, 1) := by decide +kernel
theorem dX8_daysHeard_21 : decode cX8_daysHeard 21 = .ok (.invokestatic 272, 3) := by decide +kernel
theorem dX8_daysHeard_24 : decode cX8_daysHeard 24 = .ok (.ifCond .eq 9, 3) := by decide +kernel
theorem dX8_daysHeard_27 : decode cX8_daysHeard 27 = .ok (.iload_n 2, 1) := by decide +kernel
theorem dX8_daysHeard_28 : decode cX8_daysHeard 28 = .ok (.iconst 1, 1) := by decide +kernel
theorem dX8_daysHeard_29 : decode cX8_daysHeard 29 = .ok (.iload_n 3, 1) := by decide +kernel
theorem dX8_daysHeard_30 : decode cX8_daysHeard 30 = .ok (.ishl, 1) := by decide +kernel
theorem dX8_daysHeard_31 : decode cX8_daysHeard 31 = .ok (.ior, 1) := by decide +kernel
theorem dX8_daysHeard_32 : decode cX8_daysHeard 32 = .ok (.istore_n 2, 1) := by decide +kernel
theorem dX8_daysHeard_33 : decode cX8_daysHeard 33 = .ok (.iinc 3 1, 3) := by decide +kernel
theorem dX8_daysHeard_36 : decode cX8_daysHeard 36 = .ok (.goto (-32), 3) := by decide +kernel
theorem dX8_daysHeard_39 : decode cX8_daysHeard 39 = .ok (.iload_n 2, 1) := by decide +kernel
theorem dX8_daysHeard_40 : decode cX8_daysHeard 40 = .ok (.ireturn, 1) := by decide +kernel
theorem dX8_deaf_0 : decode cX8_deaf 0 = .ok (.aload_n 0, 1) := by decide +kernel
theorem dX8_deaf_1 : decode cX8_deaf 1 = .ok (.iload_n 1, 1) := by decide +kernel
theorem dX8_deaf_2 : decode cX8_deaf 2 = .ok (.invokevirtual 213, 3) := by decide +kernel
theorem dX8_deaf_5 : decode cX8_deaf 5 = .ok (.ifCond .ne 6, 3) := by decide +kernel
theorem dX8_deaf_8 : decode cX8_deaf 8 = .ok (.bipush (-2), 2) := by decide +kernel
theorem dX8_deaf_10 : decode cX8_deaf 10 = .ok (.ireturn, 1) := by decide +kernel
theorem dX8_deaf_11 : decode cX8_deaf 11 = .ok (.aload_n 0, 1) := by decide +kernel
theorem dX8_deaf_12 : decode cX8_deaf 12 = .ok (.invokevirtual 216, 3) := by decide +kernel
theorem dX8_deaf_15 : decode cX8_deaf 15 = .ok (.aload_n 0, 1) := by decide +kernel
theorem dX8_deaf_16 : decode cX8_deaf 16 = .ok (.iload_n 1, 1) := by decide +kernel
theorem dX8_deaf_17 : decode cX8_deaf 17 = .ok (.invokevirtual 219, 3) := by decide +kernel
theorem dX8_deaf_20 : decode cX8_deaf 20 = .ok (.iconst (-1), 1) := by decide +kernel
theorem dX8_deaf_21 : decode cX8_deaf 21 = .ok (.ixor, 1) := by decide +kernel
theorem dX8_deaf_22 : decode cX8_deaf 22 = .ok (.iand, 1) := by decide +kernel
theorem dX8_deaf_23 : decode cX8_deaf 23 = .ok (.invokestatic 227, 3) := by decide +kernel
theorem dX8_deaf_26 : decode cX8_deaf 26 = .ok (.ireturn, 1) := by decide +kernel
theorem dX8_dim_0 : decode cX8_dim 0 = .ok (.aload_n 0, 1) := by decide +kernel
theorem dX8_dim_1 : decode cX8_dim 1 = .ok (.invokevirtual 134, 3) := by decide +kernel
theorem dX8_dim_4 : decode cX8_dim 4 = .ok (.ifCond .ne 6, 3) := by decide +kernel
theorem dX8_dim_7 : decode cX8_dim 7 = .ok (.bipush (-2), 2) := by decide +kernel
theorem dX8_dim_9 : decode cX8_dim 9 = .ok (.ireturn, 1) := by decide +kernel
theorem dX8_dim_10 : decode cX8_dim 10 = .ok (.aload_n 0, 1) := by decide +kernel
theorem dX8_dim_11 : decode cX8_dim 11 = .ok (.invokevirtual 239, 3) := by decide +kernel
theorem dX8_dim_14 : decode cX8_dim 14 = .ok (.iconst 0, 1) := by decide +kernel
theorem dX8_dim_15 : decode cX8_dim 15 = .ok (.istore_n 1, 1) := by decide +kernel
theorem dX8_dim_16 : decode cX8_dim 16 = .ok (.iconst 1, 1) := by decide +kernel
theorem dX8_dim_17 : decode cX8_dim 17 = .ok (.istore_n 2, 1) := by decide +kernel
theorem dX8_dim_18 : decode cX8_dim 18 = .ok (.iload_n 2, 1) := by decide +kernel
theorem dX8_dim_19 : decode cX8_dim 19 = .ok (.aload_n 0, 1) := by decide +kernel
theorem dX8_dim_20 : decode cX8_dim 20 = .ok (.getfield 33, 3) := by decide +kernel
theorem dX8_dim_23 : decode cX8_dim 23 = .ok (.getfield 242, 3) := by decide +kernel
theorem dX8_dim_26 : decode cX8_dim 26 = .ok (.if_icmp .gt 32, 3) := by decide +kernel
theorem dX8_dim_29 : decode cX8_dim 29 = .ok (.aload_n 0, 1) := by decide +kernel
theorem dX8_dim_30 : decode cX8_dim 30 = .ok (.getfield 72, 3) := by decide +kernel
theorem dX8_dim_33 : decode cX8_dim 33 = .ok (.iload_n 2, 1) := by decide +kernel
theorem dX8_dim_34 : decode cX8_dim 34 = .ok (.iaload, 1) := by decide +kernel
theorem dX8_dim_35 : decode cX8_dim 35 = .ok (.invokestatic 227, 3) := by decide +kernel
theorem dX8_dim_38 : decode cX8_dim 38 = .ok (.aload_n 0, 1) := by decide +kernel
theorem dX8_dim_39 : decode cX8_dim 39 = .ok (.getfield 72, 3) := by decide +kernel
theorem dX8_dim_42 : decode cX8_dim 42 = .ok (.iload_n 1, 1) := by decide +kernel
theorem dX8_dim_43 : decode cX8_dim 43 = .ok (.iaload, 1) := by decide +kernel
theorem dX8_dim_44 : decode cX8_dim 44 = .ok (.invokestatic 227, 3) := by decide +kernel
theorem dX8_dim_47 : decode cX8_dim 47 = .ok (.if_icmp .ge 5, 3) := by decide +kernel
theorem dX8_dim_50 : decode cX8_dim 50 = .ok (.iload_n 2, 1) := by decide +kernel
theorem dX8_dim_51 : decode cX8_dim 51 = .ok (.istore_n 1, 1) := by decide +kernel
theorem dX8_dim_52 : decode cX8_dim 52 = .ok (.iinc 2 1, 3) := by decide +kernel
theorem dX8_dim_55 : decode cX8_dim 55 = .ok (.goto (-37), 3) := by decide +kernel
theorem dX8_dim_58 : decode cX8_dim 58 = .ok (.iload_n 1, 1) := by decide +kernel
theorem dX8_dim_59 : decode cX8_dim 59 = .ok (.ireturn, 1) := by decide +kernel
theorem dX8_drawn_0 : decode cX8_drawn 0 = .ok (.aload_n 0, 1) := by decide +kernel
theorem dX8_drawn_1 : decode cX8_drawn 1 = .ok (.invokevirtual 134, 3) := by decide +kernel
theorem dX8_drawn_4 : decode cX8_drawn 4 = .ok (.ifCond .eq 17, 3) := by decide +kernel
theorem dX8_drawn_7 : decode cX8_drawn 7 = .ok (.iload_n 1, 1) := by decide +kernel
theorem dX8_drawn_8 : decode cX8_drawn 8 = .ok (.invokestatic 345, 3) := by decide +kernel
theorem dX8_drawn_11 : decode cX8_drawn 11 = .ok (.ifCond .eq 10, 3) := by decide +kernel
theorem dX8_drawn_14 : decode cX8_drawn 14 = .ok (.iload_n 2, 1) := by decide +kernel
theorem dX8_drawn_15 : decode cX8_drawn 15 = .ok (.invokestatic 159, 3) := by decide +kernel
theorem dX8_drawn_18 : decode cX8_drawn 18 = .ok (.ifCond .ne 6, 3) := by decide +kernel
theorem dX8_drawn_21 : decode cX8_drawn 21 = .ok (.bipush (-2), 2) := by decide +kernel
theorem dX8_drawn_23 : decode cX8_drawn 23 = .ok (.ireturn, 1) := by decide +kernel
theorem dX8_drawn_24 : decode cX8_drawn 24 = .ok (.iload_n 2, 1) := by decide +kernel
theorem dX8_drawn_25 : decode cX8_drawn 25 = .ok (.ifCond .ne 11, 3) := by decide +kernel
theorem dX8_drawn_28 : decode cX8_drawn 28 = .ok (.aload_n 0, 1) := by decide +kernel
theorem dX8_drawn_29 : decode cX8_drawn 29 = .ok (.iload_n 1, 1) := by decide +kernel
theorem dX8_drawn_30 : decode cX8_drawn 30 = .ok (.invokevirtual 348, 3) := by decide +kernel
theorem dX8_drawn_33 : decode cX8_drawn 33 = .ok (.goto 8, 3) := by decide +kernel
theorem dX8_drawn_36 : decode cX8_drawn 36 = .ok (.aload_n 0, 1) := by decide +kernel
theorem dX8_drawn_37 : decode cX8_drawn 37 = .ok (.iload_n 1, 1) := by decide +kernel
theorem dX8_drawn_38 : decode cX8_drawn 38 = .ok (.invokevirtual 351, 3) := by decide +kernel
theorem dX8_drawn_41 : decode cX8_drawn 41 = .ok (.ireturn, 1) := by decide +kernel
theorem dX8_dry_0 : decode cX8_dry 0 = .ok (.aload_n 0, 1) := by decide +kernel
theorem dX8_dry_1 : decode cX8_dry 1 = .ok (.invokevirtual 134, 3) := by decide +kernel
theorem dX8_dry_4 : decode cX8_dry 4 = .ok (.ifCond .eq 23, 3) := by decide +kernel
theorem dX8_dry_7 : decode cX8_dry 7 = .ok (.aload_n 0, 1) := by decide +kernel
theorem dX8_dry_8 : decode cX8_dry 8 = .ok (.invokevirtual 216, 3) := by decide +kernel
theorem dX8_dry_11 : decode cX8_dry 11 = .ok (.aload_n 0, 1) := by decide +kernel
theorem dX8_dry_12 : decode cX8_dry 12 = .ok (.getfield 33, 3) := by decide +kernel
theorem dX8_dry_15 : decode cX8_dry 15 = .ok (.getfield 142, 3) := by decide +kernel
theorem dX8_dry_18 : decode cX8_dry 18 = .ok (.iconst (-1), 1) := by decide +kernel
theorem dX8_dry_19 : decode cX8_dry 19 = .ok (.ixor, 1) := by decide +kernel
theorem dX8_dry_20 : decode cX8_dry 20 = .ok (.iand, 1) := by decide +kernel
theorem dX8_dry_21 : decode cX8_dry 21 = .ok (.invokestatic 230, 3) := by decide +kernel
theorem dX8_dry_24 : decode cX8_dry 24 = .ok (.goto 5, 3) := by decide +kernel
theorem dX8_dry_27 : decode cX8_dry 27 = .ok (.bipush (-2), 2) := by decide +kernel
theorem dX8_dry_29 : decode cX8_dry 29 = .ok (.ireturn, 1) := by decide +kernel
theorem dX8_earth_0 : decode cX8_earth 0 = .ok (.aload_n 0, 1) := by decide +kernel
theorem dX8_earth_1 : decode cX8_earth 1 = .ok (.iload_n 1, 1) := by decide +kernel
theorem dX8_earth_2 : decode cX8_earth 2 = .ok (.invokevirtual 121, 3) := by decide +kernel
theorem dX8_earth_5 : decode cX8_earth 5 = .ok (.ifCond .eq 18, 3) := by decide +kernel
theorem dX8_earth_8 : decode cX8_earth 8 = .ok (.aload_n 0, 1) := by decide +kernel
theorem dX8_earth_9 : decode cX8_earth 9 = .ok (.iload_n 2, 1) := by decide +kernel
theorem dX8_earth_10 : decode cX8_earth 10 = .ok (.invokevirtual 145, 3) := by decide +kernel
theorem dX8_earth_13 : decode cX8_earth 13 = .ok (.ifCond .eq 10, 3) := by decide +kernel
theorem dX8_earth_16 : decode cX8_earth 16 = .ok (.iload_n 3, 1) := by decide +kernel
theorem dX8_earth_17 : decode cX8_earth 17 = .ok (.invokestatic 159, 3) := by decide +kernel
theorem dX8_earth_20 : decode cX8_earth 20 = .ok (.ifCond .ne 7, 3) := by decide +kernel
theorem dX8_earth_23 : decode cX8_earth 23 = .ok (.ldc2_w 162, 3) := by decide +kernel
theorem dX8_earth_26 : decode cX8_earth 26 = .ok (.lreturn, 1) := by decide +kernel
theorem dX8_earth_27 : decode cX8_earth 27 = .ok (.aload_n 0, 1) := by decide +kernel
theorem dX8_earth_28 : decode cX8_earth 28 = .ok (.iload_n 2, 1) := by decide +kernel
theorem dX8_earth_29 : decode cX8_earth 29 = .ok (.invokevirtual 164, 3) := by decide +kernel
theorem dX8_earth_32 : decode cX8_earth 32 = .ok (.aload_n 0, 1) := by decide +kernel
theorem dX8_earth_33 : decode cX8_earth 33 = .ok (.aload_n 0, 1) := by decide +kernel
theorem dX8_earth_34 : decode cX8_earth 34 = .ok (.getfield 33, 3) := by decide +kernel
theorem dX8_earth_37 : decode cX8_earth 37 = .ok (.getfield 175, 3) := by decide +kernel
theorem dX8_earth_40 : decode cX8_earth 40 = .ok (.i2l, 1) := by decide +kernel
theorem dX8_earth_41 : decode cX8_earth 41 = .ok (.aload_n 0, 1) := by decide +kernel
theorem dX8_earth_42 : decode cX8_earth 42 = .ok (.getfield 61, 3) := by decide +kernel
theorem dX8_earth_45 : decode cX8_earth 45 = .ok (.getfield 190, 3) := by decide +kernel
theorem dX8_earth_48 : decode cX8_earth 48 = .ok (.iload_n 1, 1) := by decide +kernel
theorem dX8_earth_49 : decode cX8_earth 49 = .ok (.laload, 1) := by decide +kernel
theorem dX8_earth_50 : decode cX8_earth 50 = .ok (.lmul, 1) := by decide +kernel
theorem dX8_earth_51 : decode cX8_earth 51 = .ok (.aload_n 0, 1) := by decide +kernel
theorem dX8_earth_52 : decode cX8_earth 52 = .ok (.getfield 61, 3) := by decide +kernel
theorem dX8_earth_55 : decode cX8_earth 55 = .ok (.getfield 182, 3) := by decide +kernel
theorem dX8_earth_58 : decode cX8_earth 58 = .ok (.aload_n 0, 1) := by decide +kernel
theorem dX8_earth_59 : decode cX8_earth 59 = .ok (.getfield 61, 3) := by decide +kernel
theorem dX8_earth_62 : decode cX8_earth 62 = .ok (.getfield 199, 3) := by decide +kernel
theorem dX8_earth_65 : decode cX8_earth 65 = .ok (.iload_n 1, 1) := by decide +kernel
theorem dX8_earth_66 : decode cX8_earth 66 = .ok (.iaload, 1) := by decide +kernel
theorem dX8_earth_67 : decode cX8_earth 67 = .ok (.i2l, 1) := by decide +kernel
theorem dX8_earth_68 : decode cX8_earth 68 = .ok (.lmul, 1) := by decide +kernel
theorem dX8_earth_69 : decode cX8_earth 69 = .ok (.iload_n 3, 1) := by decide +kernel
theorem dX8_earth_70 : decode cX8_earth 70 = .ok (.invokevirtual 186, 3) := by decide +kernel
theorem dX8_earth_73 : decode cX8_earth 73 = .ok (.lreturn, 1) := by decide +kernel
theorem dX8_ends_0 : decode cX8_ends 0 = .ok (.aload_n 0, 1) := by decide +kernel
theorem dX8_ends_1 : decode cX8_ends 1 = .ok (.iload_n 1, 1) := by decide +kernel
theorem dX8_ends_2 : decode cX8_ends 2 = .ok (.invokevirtual 145, 3) := by decide +kernel
theorem dX8_ends_5 : decode cX8_ends 5 = .ok (.ifCond .ne 6, 3) := by decide +kernel
theorem dX8_ends_8 : decode cX8_ends 8 = .ok (.bipush (-2), 2) := by decide +kernel
theorem dX8_ends_10 : decode cX8_ends 10 = .ok (.ireturn, 1) := by decide +kernel
theorem dX8_ends_11 : decode cX8_ends 11 = .ok (.aload_n 0, 1) := by decide +kernel
theorem dX8_ends_12 : decode cX8_ends 12 = .ok (.getfield 54, 3) := by decide +kernel
theorem dX8_ends_15 : decode cX8_ends 15 = .ok (.aload_n 0, 1) := by decide +kernel
theorem dX8_ends_16 : decode cX8_ends 16 = .ok (.getfield 33, 3) := by decide +kernel
theorem dX8_ends_19 : decode cX8_ends 19 = .ok (.invokevirtual 148, 3) := by decide +kernel
theorem dX8_ends_22 : decode cX8_ends 22 = .ok (.aload_n 0, 1) := by decide +kernel
theorem dX8_ends_23 : decode cX8_ends 23 = .ok (.getfield 54, 3) := by decide +kernel
theorem dX8_ends_26 : decode cX8_ends 26 = .ok (.aload_n 0, 1) := by decide +kernel
theorem dX8_ends_27 : decode cX8_ends 27 = .ok (.getfield 33, 3) := by decide +kernel
theorem dX8_ends_30 : decode cX8_ends 30 = .ok (.iload_n 1, 1) := by decide +kernel
theorem dX8_ends_31 : decode cX8_ends 31 = .ok (.invokevirtual 155, 3) := by decide +kernel
theorem dX8_ends_34 : decode cX8_ends 34 = .ok (.istore_n 2, 1) := by decide +kernel
theorem dX8_ends_35 : decode cX8_ends 35 = .ok (.iload_n 2, 1) := by decide +kernel
theorem dX8_ends_36 : decode cX8_ends 36 = .ok (.ifCond .ne 7, 3) := by decide +kernel
theorem dX8_ends_39 : decode cX8_ends 39 = .ok (.iconst (-1), 1) := by decide +kernel
theorem dX8_ends_40 : decode cX8_ends 40 = .ok (.goto 6, 3) := by decide +kernel
theorem dX8_ends_43 : decode cX8_ends 43 = .ok (.iload_n 2, 1) := by decide +kernel
theorem dX8_ends_44 : decode cX8_ends 44 = .ok (.iconst 1, 1) := by decide +kernel
theorem dX8_ends_45 : decode cX8_ends 45 = .ok (.isub, 1) := by decide +kernel
theorem dX8_ends_46 : decode cX8_ends 46 = .ok (.ireturn, 1) := by decide +kernel
theorem dX8_factorial_0 : decode cX8_factorial 0 = .ok (.lconst 1, 1) := by decide +kernel
theorem dX8_factorial_1 : decode cX8_factorial 1 = .ok (.lstore_n 1, 1) := by decide +kernel
theorem dX8_factorial_2 : decode cX8_factorial 2 = .ok (.iconst 2, 1) := by decide +kernel
theorem dX8_factorial_3 : decode cX8_factorial 3 = .ok (.istore_n 3, 1) := by decide +kernel
theorem dX8_factorial_4 : decode cX8_factorial 4 = .ok (.iload_n 3, 1) := by decide +kernel
theorem dX8_factorial_5 : decode cX8_factorial 5 = .ok (.iload_n 0, 1) := by decide +kernel
theorem dX8_factorial_6 : decode cX8_factorial 6 = .ok (.if_icmp .gt 14, 3) := by decide +kernel
theorem dX8_factorial_9 : decode cX8_factorial 9 = .ok (.lload_n 1, 1) := by decide +kernel
theorem dX8_factorial_10 : decode cX8_factorial 10 = .ok (.iload_n 3, 1) := by decide +kernel
theorem dX8_factorial_11 : decode cX8_factorial 11 = .ok (.i2l, 1) := by decide +kernel
theorem dX8_factorial_12 : decode cX8_factorial 12 = .ok (.lmul, 1) := by decide +kernel
theorem dX8_factorial_13 : decode cX8_factorial 13 = .ok (.lstore_n 1, 1) := by decide +kernel
theorem dX8_factorial_14 : decode cX8_factorial 14 = .ok (.iinc 3 1, 3) := by decide +kernel
theorem dX8_factorial_17 : decode cX8_factorial 17 = .ok (.goto (-13), 3) := by decide +kernel
theorem dX8_factorial_20 : decode cX8_factorial 20 = .ok (.lload_n 1, 1) := by decide +kernel
theorem dX8_factorial_21 : decode cX8_factorial 21 = .ok (.lreturn, 1) := by decide +kernel
theorem dX8_faint_0 : decode cX8_faint 0 = .ok (.aload_n 0, 1) := by decide +kernel
theorem dX8_faint_1 : decode cX8_faint 1 = .ok (.iload_n 1, 1) := by decide +kernel
theorem dX8_faint_2 : decode cX8_faint 2 = .ok (.invokevirtual 145, 3) := by decide +kernel
theorem dX8_faint_5 : decode cX8_faint 5 = .ok (.ifCond .ne 6, 3) := by decide +kernel
theorem dX8_faint_8 : decode cX8_faint 8 = .ok (.bipush (-2), 2) := by decide +kernel
theorem dX8_faint_10 : decode cX8_faint 10 = .ok (.ireturn, 1) := by decide +kernel
theorem dX8_faint_11 : decode cX8_faint 11 = .ok (.aload_n 0, 1) := by decide +kernel
theorem dX8_faint_12 : decode cX8_faint 12 = .ok (.iload_n 1, 1) := by decide +kernel
theorem dX8_faint_13 : decode cX8_faint 13 = .ok (.invokevirtual 164, 3) := by decide +kernel
theorem dX8_faint_16 : decode cX8_faint 16 = .ok (.iconst (-1), 1) := by decide +kernel
theorem dX8_faint_17 : decode cX8_faint 17 = .ok (.istore_n 2, 1) := by decide +kernel
theorem dX8_faint_18 : decode cX8_faint 18 = .ok (.iconst 0, 1) := by decide +kernel
theorem dX8_faint_19 : decode cX8_faint 19 = .ok (.istore_n 3, 1) := by decide +kernel
theorem dX8_faint_20 : decode cX8_faint 20 = .ok (.iload_n 3, 1) := by decide +kernel
theorem dX8_faint_21 : decode cX8_faint 21 = .ok (.aload_n 0, 1) := by decide +kernel
theorem dX8_faint_22 : decode cX8_faint 22 = .ok (.getfield 33, 3) := by decide +kernel
theorem dX8_faint_25 : decode cX8_faint 25 = .ok (.getfield 210, 3) := by decide +kernel
theorem dX8_faint_28 : decode cX8_faint 28 = .ok (.if_icmp .ge 46, 3) := by decide +kernel
theorem dX8_faint_31 : decode cX8_faint 31 = .ok (.aload_n 0, 1) := by decide +kernel
theorem dX8_faint_32 : decode cX8_faint 32 = .ok (.iload_n 3, 1) := by decide +kernel
theorem dX8_faint_33 : decode cX8_faint 33 = .ok (.invokevirtual 213, 3) := by decide +kernel
theorem dX8_faint_36 : decode cX8_faint 36 = .ok (.ifCond .eq 32, 3) := by decide +kernel
theorem dX8_faint_39 : decode cX8_faint 39 = .ok (.iload_n 2, 1) := by decide +kernel
theorem dX8_faint_40 : decode cX8_faint 40 = .ok (.iconst (-1), 1) := by decide +kernel
theorem dX8_faint_41 : decode cX8_faint 41 = .ok (.if_icmp .eq 25, 3) := by decide +kernel
theorem dX8_faint_44 : decode cX8_faint 44 = .ok (.aload_n 0, 1) := by decide +kernel
theorem dX8_faint_45 : decode cX8_faint 45 = .ok (.getfield 61, 3) := by decide +kernel
theorem dX8_faint_48 : decode cX8_faint 48 = .ok (.getfield 190, 3) := by decide +kernel
theorem dX8_faint_51 : decode cX8_faint 51 = .ok (.iload_n 3, 1) := by decide +kernel
theorem dX8_faint_52 : decode cX8_faint 52 = .ok (.laload, 1) := by decide +kernel
theorem dX8_faint_53 : decode cX8_faint 53 = .ok (.aload_n 0, 1) := by decide +kernel
theorem dX8_faint_54 : decode cX8_faint 54 = .ok (.getfield 61, 3) := by decide +kernel
theorem dX8_faint_57 : decode cX8_faint 57 = .ok (.getfield 190, 3) := by decide +kernel
theorem dX8_faint_60 : decode cX8_faint 60 = .ok (.iload_n 2, 1) := by decide +kernel
theorem dX8_faint_61 : decode cX8_faint 61 = .ok (.laload, 1) := by decide +kernel
theorem dX8_faint_62 : decode cX8_faint 62 = .ok (.lcmp, 1) := by decide +kernel
theorem dX8_faint_63 : decode cX8_faint 63 = .ok (.ifCond .gt 5, 3) := by decide +kernel
theorem dX8_faint_66 : decode cX8_faint 66 = .ok (.iload_n 3, 1) := by decide +kernel
theorem dX8_faint_67 : decode cX8_faint 67 = .ok (.istore_n 2, 1) := by decide +kernel
theorem dX8_faint_68 : decode cX8_faint 68 = .ok (.iinc 3 1, 3) := by decide +kernel
theorem dX8_faint_71 : decode cX8_faint 71 = .ok (.goto (-51), 3) := by decide +kernel
theorem dX8_faint_74 : decode cX8_faint 74 = .ok (.iload_n 2, 1) := by decide +kernel
theorem dX8_faint_75 : decode cX8_faint 75 = .ok (.ireturn, 1) := by decide +kernel
theorem dX8_falls_0 : decode cX8_falls 0 = .ok (.aload_n 0, 1) := by decide +kernel
theorem dX8_falls_1 : decode cX8_falls 1 = .ok (.iload_n 1, 1) := by decide +kernel
theorem dX8_falls_2 : decode cX8_falls 2 = .ok (.invokevirtual 121, 3) := by decide +kernel
theorem dX8_falls_5 : decode cX8_falls 5 = .ok (.ifCond .eq 18, 3) := by decide +kernel
theorem dX8_falls_8 : decode cX8_falls 8 = .ok (.aload_n 0, 1) := by decide +kernel
theorem dX8_falls_9 : decode cX8_falls 9 = .ok (.iload_n 2, 1) := by decide +kernel
theorem dX8_falls_10 : decode cX8_falls 10 = .ok (.invokevirtual 145, 3) := by decide +kernel
theorem dX8_falls_13 : decode cX8_falls 13 = .ok (.ifCond .eq 10, 3) := by decide +kernel
theorem dX8_falls_16 : decode cX8_falls 16 = .ok (.iload_n 3, 1) := by decide +kernel
theorem dX8_falls_17 : decode cX8_falls 17 = .ok (.invokestatic 159, 3) := by decide +kernel
theorem dX8_falls_20 : decode cX8_falls 20 = .ok (.ifCond .ne 7, 3) := by decide +kernel
theorem dX8_falls_23 : decode cX8_falls 23 = .ok (.ldc2_w 162, 3) := by decide +kernel
theorem dX8_falls_26 : decode cX8_falls 26 = .ok (.lreturn, 1) := by decide +kernel
theorem dX8_falls_27 : decode cX8_falls 27 = .ok (.aload_n 0, 1) := by decide +kernel
theorem dX8_falls_28 : decode cX8_falls 28 = .ok (.iload_n 2, 1) := by decide +kernel
theorem dX8_falls_29 : decode cX8_falls 29 = .ok (.invokevirtual 164, 3) := by decide +kernel
theorem dX8_falls_32 : decode cX8_falls 32 = .ok (.aload_n 0, 1) := by decide +kernel
theorem dX8_falls_33 : decode cX8_falls 33 = .ok (.aload_n 0, 1) := by decide +kernel
theorem dX8_falls_34 : decode cX8_falls 34 = .ok (.getfield 33, 3) := by decide +kernel
theorem dX8_falls_37 : decode cX8_falls 37 = .ok (.getfield 175, 3) := by decide +kernel
theorem dX8_falls_40 : decode cX8_falls 40 = .ok (.i2l, 1) := by decide +kernel
theorem dX8_falls_41 : decode cX8_falls 41 = .ok (.aload_n 0, 1) := by decide +kernel
theorem dX8_falls_42 : decode cX8_falls 42 = .ok (.getfield 61, 3) := by decide +kernel
theorem dX8_falls_45 : decode cX8_falls 45 = .ok (.iload_n 1, 1) := by decide +kernel
theorem dX8_falls_46 : decode cX8_falls 46 = .ok (.invokevirtual 196, 3) := by decide +kernel
theorem dX8_falls_49 : decode cX8_falls 49 = .ok (.lmul, 1) := by decide +kernel
theorem dX8_falls_50 : decode cX8_falls 50 = .ok (.aload_n 0, 1) := by decide +kernel
theorem dX8_falls_51 : decode cX8_falls 51 = .ok (.getfield 61, 3) := by decide +kernel
theorem dX8_falls_54 : decode cX8_falls 54 = .ok (.getfield 182, 3) := by decide +kernel
theorem dX8_falls_57 : decode cX8_falls 57 = .ok (.iload_n 3, 1) := by decide +kernel
theorem dX8_falls_58 : decode cX8_falls 58 = .ok (.invokevirtual 186, 3) := by decide +kernel
theorem dX8_falls_61 : decode cX8_falls 61 = .ok (.lreturn, 1) := by decide +kernel
theorem dX8_fault_0 : decode cX8_fault 0 = .ok (.iload_n 1, 1) := by decide +kernel
theorem dX8_fault_1 : decode cX8_fault 1 = .ok (.ifCond .ne 8, 3) := by decide +kernel
theorem dX8_fault_4 : decode cX8_fault 4 = .ok (.aload_n 0, 1) := by decide +kernel
theorem dX8_fault_5 : decode cX8_fault 5 = .ok (.getfield 86, 3) := by decide +kernel
theorem dX8_fault_8 : decode cX8_fault 8 = .ok (.ireturn, 1) := by decide +kernel
theorem dX8_fault_9 : decode cX8_fault 9 = .ok (.iload_n 1, 1) := by decide +kernel
theorem dX8_fault_10 : decode cX8_fault 10 = .ok (.iconst 1, 1) := by decide +kernel
theorem dX8_fault_11 : decode cX8_fault 11 = .ok (.if_icmp .ne 10, 3) := by decide +kernel
theorem dX8_fault_14 : decode cX8_fault 14 = .ok (.aload_n 0, 1) := by decide +kernel
theorem dX8_fault_15 : decode cX8_fault 15 = .ok (.getfield 90, 3) := by decide +kernel
theorem dX8_fault_18 : decode cX8_fault 18 = .ok (.goto 4, 3) := by decide +kernel
theorem dX8_fault_21 : decode cX8_fault 21 = .ok (.iconst (-1), 1) := by decide +kernel
theorem dX8_fault_22 : decode cX8_fault 22 = .ok (.ireturn, 1) := by decide +kernel
theorem dX8_firstByDays_0 : decode cX8_firstByDays 0 = .ok (.aload_n 0, 1) := by decide +kernel
theorem dX8_firstByDays_1 : decode cX8_firstByDays 1 = .ok (.invokevirtual 239, 3) := by decide +kernel
theorem dX8_firstByDays_4 : decode cX8_firstByDays 4 = .ok (.iconst (-1), 1) := by decide +kernel
theorem dX8_firstByDays_5 : decode cX8_firstByDays 5 = .ok (.istore_n 2, 1) := by decide +kernel
theorem dX8_firstByDays_6 : decode cX8_firstByDays 6 = .ok (.iconst 0, 1) := by decide +kernel
theorem dX8_firstByDays_7 : decode cX8_firstByDays 7 = .ok (.istore_n 3, 1) := by decide +kernel
theorem dX8_firstByDays_8 : decode cX8_firstByDays 8 = .ok (.iconst 0, 1) := by decide +kernel
theorem dX8_firstByDays_9 : decode cX8_firstByDays 9 = .ok (.istore 4, 2) := by decide +kernel
theorem dX8_firstByDays_11 : decode cX8_firstByDays 11 = .ok (.iload 4, 2) := by decide +kernel
theorem dX8_firstByDays_13 : decode cX8_firstByDays 13 = .ok (.aload_n 0, 1) := by decide +kernel
theorem dX8_firstByDays_14 : decode cX8_firstByDays 14 = .ok (.getfield 33, 3) := by decide +kernel
theorem dX8_firstByDays_17 : decode cX8_firstByDays 17 = .ok (.getfield 210, 3) := by decide +kernel
theorem dX8_firstByDays_20 : decode cX8_firstByDays 20 = .ok (.if_icmp .ge 45, 3) := by decide +kernel
theorem dX8_firstByDays_23 : decode cX8_firstByDays 23 = .ok (.iload_n 1, 1) := by decide +kernel
theorem dX8_firstByDays_24 : decode cX8_firstByDays 24 = .ok (.aload_n 0, 1) := by decide +kernel
theorem dX8_firstByDays_25 : decode cX8_firstByDays 25 = .ok (.iload 4, 2) := by decide +kernel
theorem dX8_firstByDays_27 : decode cX8_firstByDays 27 = .ok (.invokevirtual 406, 3) := by decide +kernel
theorem dX8_firstByDays_30 : decode cX8_firstByDays 30 = .ok (.imul, 1) := by decide +kernel
theorem dX8_firstByDays_31 : decode cX8_firstByDays 31 = .ok (.istore 5, 2) := by decide +kernel
theorem dX8_firstByDays_33 : decode cX8_firstByDays 33 = .ok (.aload_n 0, 1) := by decide +kernel
theorem dX8_firstByDays_34 : decode cX8_firstByDays 34 = .ok (.iload 4, 2) := by decide +kernel
theorem dX8_firstByDays_36 : decode cX8_firstByDays 36 = .ok (.invokevirtual 213, 3) := by decide +kernel
theorem dX8_firstByDays_39 : decode cX8_firstByDays 39 = .ok (.ifCond .eq 20, 3) := by decide +kernel
theorem dX8_firstByDays_42 : decode cX8_firstByDays 42 = .ok (.iload_n 2, 1) := by decide +kernel
theorem dX8_firstByDays_43 : decode cX8_firstByDays 43 = .ok (.iconst (-1), 1) := by decide +kernel
theorem dX8_firstByDays_44 : decode cX8_firstByDays 44 = .ok (.if_icmp .eq 9, 3) := by decide +kernel
theorem dX8_firstByDays_47 : decode cX8_firstByDays 47 = .ok (.iload 5, 2) := by decide +kernel
theorem dX8_firstByDays_49 : decode cX8_firstByDays 49 = .ok (.iload_n 3, 1) := by decide +kernel
theorem dX8_firstByDays_50 : decode cX8_firstByDays 50 = .ok (.if_icmp .le 9, 3) := by decide +kernel
theorem dX8_firstByDays_53 : decode cX8_firstByDays 53 = .ok (.iload 4, 2) := by decide +kernel
theorem dX8_firstByDays_55 : decode cX8_firstByDays 55 = .ok (.istore_n 2, 1) := by decide +kernel
theorem dX8_firstByDays_56 : decode cX8_firstByDays 56 = .ok (.iload 5, 2) := by decide +kernel
theorem dX8_firstByDays_58 : decode cX8_firstByDays 58 = .ok (.istore_n 3, 1) := by decide +kernel
theorem dX8_firstByDays_59 : decode cX8_firstByDays 59 = .ok (.iinc 4 1, 3) := by decide +kernel
theorem dX8_firstByDays_62 : decode cX8_firstByDays 62 = .ok (.goto (-51), 3) := by decide +kernel
theorem dX8_firstByDays_65 : decode cX8_firstByDays 65 = .ok (.iload_n 2, 1) := by decide +kernel
theorem dX8_firstByDays_66 : decode cX8_firstByDays 66 = .ok (.ireturn, 1) := by decide +kernel
theorem dX8_fits_0 : decode cX8_fits 0 = .ok (.aload_n 0, 1) := by decide +kernel
theorem dX8_fits_1 : decode cX8_fits 1 = .ok (.iload_n 1, 1) := by decide +kernel
theorem dX8_fits_2 : decode cX8_fits 2 = .ok (.iload_n 2, 1) := by decide +kernel
theorem dX8_fits_3 : decode cX8_fits 3 = .ok (.invokevirtual 289, 3) := by decide +kernel
theorem dX8_fits_6 : decode cX8_fits 6 = .ok (.istore_n 3, 1) := by decide +kernel
theorem dX8_fits_7 : decode cX8_fits 7 = .ok (.iload_n 3, 1) := by decide +kernel
theorem dX8_fits_8 : decode cX8_fits 8 = .ok (.ifCond .eq 7, 3) := by decide +kernel
theorem dX8_fits_11 : decode cX8_fits 11 = .ok (.iload_n 3, 1) := by decide +kernel
theorem dX8_fits_12 : decode cX8_fits 12 = .ok (.goto 12, 3) := by decide +kernel
theorem dX8_fits_15 : decode cX8_fits 15 = .ok (.aload_n 0, 1) := by decide +kernel
theorem dX8_fits_16 : decode cX8_fits 16 = .ok (.iload_n 1, 1) := by decide +kernel
theorem dX8_fits_17 : decode cX8_fits 17 = .ok (.iload_n 2, 1) := by decide +kernel
theorem dX8_fits_18 : decode cX8_fits 18 = .ok (.invokevirtual 292, 3) := by decide +kernel
theorem dX8_fits_21 : decode cX8_fits 21 = .ok (.invokestatic 227, 3) := by decide +kernel
theorem dX8_fits_24 : decode cX8_fits 24 = .ok (.ireturn, 1) := by decide +kernel
theorem dX8_fittingLeaks_0 : decode cX8_fittingLeaks 0 = .ok (.aload_n 0, 1) := by decide +kernel
theorem dX8_fittingLeaks_1 : decode cX8_fittingLeaks 1 = .ok (.getfield 54, 3) := by decide +kernel
theorem dX8_fittingLeaks_4 : decode cX8_fittingLeaks 4 = .ok (.aload_n 0, 1) := by decide +kernel
theorem dX8_fittingLeaks_5 : decode cX8_fittingLeaks 5 = .ok (.getfield 33, 3) := by decide +kernel
theorem dX8_fittingLeaks_8 : decode cX8_fittingLeaks 8 = .ok (.invokevirtual 148, 3) := by decide +kernel
theorem dX8_fittingLeaks_11 : decode cX8_fittingLeaks 11 = .ok (.iconst 0, 1) := by decide +kernel
theorem dX8_fittingLeaks_12 : decode cX8_fittingLeaks 12 = .ok (.istore_n 3, 1) := by decide +kernel
theorem dX8_fittingLeaks_13 : decode cX8_fittingLeaks 13 = .ok (.iconst 1, 1) := by decide +kernel
theorem dX8_fittingLeaks_14 : decode cX8_fittingLeaks 14 = .ok (.istore 4, 2) := by decide +kernel
theorem dX8_fittingLeaks_16 : decode cX8_fittingLeaks 16 = .ok (.iload 4, 2) := by decide +kernel
theorem dX8_fittingLeaks_18 : decode cX8_fittingLeaks 18 = .ok (.bipush 30, 2) := by decide +kernel
theorem dX8_fittingLeaks_20 : decode cX8_fittingLeaks 20 = .ok (.if_icmp .gt 35, 3) := by decide +kernel
theorem dX8_fittingLeaks_23 : decode cX8_fittingLeaks 23 = .ok (.aload_n 0, 1) := by decide +kernel
theorem dX8_fittingLeaks_24 : decode cX8_fittingLeaks 24 = .ok (.getfield 54, 3) := by decide +kernel
theorem dX8_fittingLeaks_27 : decode cX8_fittingLeaks 27 = .ok (.getfield 426, 3) := by decide +kernel
theorem dX8_fittingLeaks_30 : decode cX8_fittingLeaks 30 = .ok (.iload_n 2, 1) := by decide +kernel
theorem dX8_fittingLeaks_31 : decode cX8_fittingLeaks 31 = .ok (.iload 4, 2) := by decide +kernel
theorem dX8_fittingLeaks_33 : decode cX8_fittingLeaks 33 = .ok (.iastore, 1) := by decide +kernel
theorem dX8_fittingLeaks_34 : decode cX8_fittingLeaks 34 = .ok (.aload_n 0, 1) := by decide +kernel
theorem dX8_fittingLeaks_35 : decode cX8_fittingLeaks 35 = .ok (.iload_n 1, 1) := by decide +kernel
theorem dX8_fittingLeaks_36 : decode cX8_fittingLeaks 36 = .ok (.invokevirtual 305, 3) := by decide +kernel
theorem dX8_fittingLeaks_39 : decode cX8_fittingLeaks 39 = .ok (.ifCond .eq 10, 3) := by decide +kernel
theorem dX8_fittingLeaks_42 : decode cX8_fittingLeaks 42 = .ok (.iload_n 3, 1) := by decide +kernel
theorem dX8_fittingLeaks_43 : decode cX8_fittingLeaks 43 = .ok (.iconst 1, 1) := by decide +kernel
theorem dX8_fittingLeaks_44 : decode cX8_fittingLeaks 44 = .ok (.iload 4, 2) := by decide +kernel
theorem dX8_fittingLeaks_46 : decode cX8_fittingLeaks 46 = .ok (.ishl, 1) := by decide +kernel
theorem dX8_fittingLeaks_47 : decode cX8_fittingLeaks 47 = .ok (.ior, 1) := by decide +kernel
theorem dX8_fittingLeaks_48 : decode cX8_fittingLeaks 48 = .ok (.istore_n 3, 1) := by decide +kernel
theorem dX8_fittingLeaks_49 : decode cX8_fittingLeaks 49 = .ok (.iinc 4 1, 3) := by decide +kernel
theorem dX8_fittingLeaks_52 : decode cX8_fittingLeaks 52 = .ok (.goto (-36), 3) := by decide +kernel
theorem dX8_fittingLeaks_55 : decode cX8_fittingLeaks 55 = .ok (.iload_n 3, 1) := by decide +kernel
theorem dX8_fittingLeaks_56 : decode cX8_fittingLeaks 56 = .ok (.ireturn, 1) := by decide +kernel
theorem dX8_flips_0 : decode cX8_flips 0 = .ok (.aload_n 0, 1) := by decide +kernel
theorem dX8_flips_1 : decode cX8_flips 1 = .ok (.iload_n 1, 1) := by decide +kernel
theorem dX8_flips_2 : decode cX8_flips 2 = .ok (.invokevirtual 213, 3) := by decide +kernel
theorem dX8_flips_5 : decode cX8_flips 5 = .ok (.ifCond .ne 6, 3) := by decide +kernel
theorem dX8_flips_8 : decode cX8_flips 8 = .ok (.bipush (-2), 2) := by decide +kernel
theorem dX8_flips_10 : decode cX8_flips 10 = .ok (.ireturn, 1) := by decide +kernel
theorem dX8_flips_11 : decode cX8_flips 11 = .ok (.aload_n 0, 1) := by decide +kernel
theorem dX8_flips_12 : decode cX8_flips 12 = .ok (.iload_n 1, 1) := by decide +kernel
theorem dX8_flips_13 : decode cX8_flips 13 = .ok (.invokevirtual 219, 3) := by decide +kernel
theorem dX8_flips_16 : decode cX8_flips 16 = .ok (.istore_n 2, 1) := by decide +kernel
theorem dX8_flips_17 : decode cX8_flips 17 = .ok (.iload_n 2, 1) := by decide +kernel
theorem dX8_flips_18 : decode cX8_flips 18 = .ok (.iload_n 2, 1) := by decide +kernel
theorem dX8_flips_19 : decode cX8_flips 19 = .ok (.iconst 1, 1) := by decide +kernel
theorem dX8_flips_20 : decode cX8_flips 20 = .ok (.ishl, 1) := by decide +kernel
