theorem dX8_count_136 : decode cX8_count 136 = .ok (.iconst (-1), 1) := by decide +kernel
theorem dX8_count_137 : decode cX8_count 137 = .ok (.ireturn, 1) := by decide +kernel
theorem dX8_cupped_0 : decode cX8_cupped 0 = .ok (.aload_n 0, 1) := by decide +kernel
theorem dX8_cupped_1 : decode cX8_cupped 1 = .ok (.iload_n 1, 1) := by decide +kernel
theorem dX8_cupped_2 : decode cX8_cupped 2 = .ok (.invokevirtual 121, 3) := by decide +kernel
theorem dX8_cupped_5 : decode cX8_cupped 5 = .ok (.ifCond .eq 11, 3) := by decide +kernel
theorem dX8_cupped_8 : decode cX8_cupped 8 = .ok (.aload_n 0, 1) := by decide +kernel
theorem dX8_cupped_9 : decode cX8_cupped 9 = .ok (.iload_n 2, 1) := by decide +kernel
theorem dX8_cupped_10 : decode cX8_cupped 10 = .ok (.invokevirtual 145, 3) := by decide +kernel
theorem dX8_cupped_13 : decode cX8_cupped 13 = .ok (.ifCond .ne 6, 3) := by decide +kernel
theorem dX8_cupped_16 : decode cX8_cupped 16 = .ok (.bipush (-2), 2) := by decide +kernel
theorem dX8_cupped_18 : decode cX8_cupped 18 = .ok (.ireturn, 1) := by decide +kernel
theorem dX8_cupped_19 : decode cX8_cupped 19 = .ok (.aload_n 0, 1) := by decide +kernel
theorem dX8_cupped_20 : decode cX8_cupped 20 = .ok (.getfield 33, 3) := by decide +kernel
theorem dX8_cupped_23 : decode cX8_cupped 23 = .ok (.iload_n 1, 1) := by decide +kernel
theorem dX8_cupped_24 : decode cX8_cupped 24 = .ok (.iload_n 2, 1) := by decide +kernel
theorem dX8_cupped_25 : decode cX8_cupped 25 = .ok (.invokevirtual 266, 3) := by decide +kernel
theorem dX8_cupped_28 : decode cX8_cupped 28 = .ok (.ireturn, 1) := by decide +kernel
theorem dX8_cups_0 : decode cX8_cups 0 = .ok (.aload_n 0, 1) := by decide +kernel
theorem dX8_cups_1 : decode cX8_cups 1 = .ok (.iload_n 1, 1) := by decide +kernel
theorem dX8_cups_2 : decode cX8_cups 2 = .ok (.invokevirtual 121, 3) := by decide +kernel
theorem dX8_cups_5 : decode cX8_cups 5 = .ok (.ifCond .eq 11, 3) := by decide +kernel
theorem dX8_cups_8 : decode cX8_cups 8 = .ok (.aload_n 0, 1) := by decide +kernel
theorem dX8_cups_9 : decode cX8_cups 9 = .ok (.iload_n 2, 1) := by decide +kernel
theorem dX8_cups_10 : decode cX8_cups 10 = .ok (.invokevirtual 145, 3) := by decide +kernel
theorem dX8_cups_13 : decode cX8_cups 13 = .ok (.ifCond .ne 6, 3) := by decide +kernel
theorem dX8_cups_16 : decode cX8_cups 16 = .ok (.bipush (-2), 2) := by decide +kernel
theorem dX8_cups_18 : decode cX8_cups 18 = .ok (.ireturn, 1) := by decide +kernel
theorem dX8_cups_19 : decode cX8_cups 19 = .ok (.aload_n 0, 1) := by decide +kernel
theorem dX8_cups_20 : decode cX8_cups 20 = .ok (.getfield 33, 3) := by decide +kernel
theorem dX8_cups_23 : decode cX8_cups 23 = .ok (.getfield 335, 3) := by decide +kernel
theorem dX8_cups_26 : decode cX8_cups 26 = .ok (.bipush 30, 2) := by decide +kernel
theorem dX8_cups_28 : decode cX8_cups 28 = .ok (.if_icmp .lt 6, 3) := by decide +kernel
theorem dX8_cups_31 : decode cX8_cups 31 = .ok (.bipush (-5), 2) := by decide +kernel
theorem dX8_cups_33 : decode cX8_cups 33 = .ok (.ireturn, 1) := by decide +kernel
theorem dX8_cups_34 : decode cX8_cups 34 = .ok (.aload_n 0, 1) := by decide +kernel
theorem dX8_cups_35 : decode cX8_cups 35 = .ok (.getfield 33, 3) := by decide +kernel
theorem dX8_cups_38 : decode cX8_cups 38 = .ok (.iconst 0, 1) := by decide +kernel
theorem dX8_cups_39 : decode cX8_cups 39 = .ok (.iload_n 1, 1) := by decide +kernel
theorem dX8_cups_40 : decode cX8_cups 40 = .ok (.iload_n 2, 1) := by decide +kernel
theorem dX8_cups_41 : decode cX8_cups 41 = .ok (.invokevirtual 338, 3) := by decide +kernel
theorem dX8_cups_44 : decode cX8_cups 44 = .ok (.aload_n 0, 1) := by decide +kernel
theorem dX8_cups_45 : decode cX8_cups 45 = .ok (.getfield 54, 3) := by decide +kernel
theorem dX8_cups_48 : decode cX8_cups 48 = .ok (.aload_n 0, 1) := by decide +kernel
theorem dX8_cups_49 : decode cX8_cups 49 = .ok (.getfield 33, 3) := by decide +kernel
theorem dX8_cups_52 : decode cX8_cups 52 = .ok (.invokevirtual 148, 3) := by decide +kernel
theorem dX8_cups_55 : decode cX8_cups 55 = .ok (.aload_n 0, 1) := by decide +kernel
theorem dX8_cups_56 : decode cX8_cups 56 = .ok (.getfield 54, 3) := by decide +kernel
theorem dX8_cups_59 : decode cX8_cups 59 = .ok (.aload_n 0, 1) := by decide +kernel
theorem dX8_cups_60 : decode cX8_cups 60 = .ok (.getfield 33, 3) := by decide +kernel
theorem dX8_cups_63 : decode cX8_cups 63 = .ok (.iload_n 1, 1) := by decide +kernel
theorem dX8_cups_64 : decode cX8_cups 64 = .ok (.aload_n 0, 1) := by decide +kernel
theorem dX8_cups_65 : decode cX8_cups 65 = .ok (.getfield 33, 3) := by decide +kernel
theorem dX8_cups_68 : decode cX8_cups 68 = .ok (.getfield 242, 3) := by decide +kernel
theorem dX8_cups_71 : decode cX8_cups 71 = .ok (.invokevirtual 151, 3) := by decide +kernel
theorem dX8_cups_74 : decode cX8_cups 74 = .ok (.ireturn, 1) := by decide +kernel
theorem dX8_cure_0 : decode cX8_cure 0 = .ok (.aload_n 0, 1) := by decide +kernel
theorem dX8_cure_1 : decode cX8_cure 1 = .ok (.iload_n 1, 1) := by decide +kernel
theorem dX8_cure_2 : decode cX8_cure 2 = .ok (.invokevirtual 145, 3) := by decide +kernel
theorem dX8_cure_5 : decode cX8_cure 5 = .ok (.ifCond .ne 6, 3) := by decide +kernel
theorem dX8_cure_8 : decode cX8_cure 8 = .ok (.bipush (-2), 2) := by decide +kernel
theorem dX8_cure_10 : decode cX8_cure 10 = .ok (.ireturn, 1) := by decide +kernel
theorem dX8_cure_11 : decode cX8_cure 11 = .ok (.aload_n 0, 1) := by decide +kernel
theorem dX8_cure_12 : decode cX8_cure 12 = .ok (.iload_n 1, 1) := by decide +kernel
theorem dX8_cure_13 : decode cX8_cure 13 = .ok (.invokevirtual 285, 3) := by decide +kernel
theorem dX8_cure_16 : decode cX8_cure 16 = .ok (.istore_n 2, 1) := by decide +kernel
theorem dX8_cure_17 : decode cX8_cure 17 = .ok (.iload_n 2, 1) := by decide +kernel
theorem dX8_cure_18 : decode cX8_cure 18 = .ok (.iconst (-1), 1) := by decide +kernel
theorem dX8_cure_19 : decode cX8_cure 19 = .ok (.if_icmp .ne 7, 3) := by decide +kernel
theorem dX8_cure_22 : decode cX8_cure 22 = .ok (.iconst (-1), 1) := by decide +kernel
theorem dX8_cure_23 : decode cX8_cure 23 = .ok (.goto 7, 3) := by decide +kernel
theorem dX8_cure_26 : decode cX8_cure 26 = .ok (.iload_n 2, 1) := by decide +kernel
theorem dX8_cure_27 : decode cX8_cure 27 = .ok (.invokestatic 227, 3) := by decide +kernel
theorem dX8_cure_30 : decode cX8_cure 30 = .ok (.ireturn, 1) := by decide +kernel
theorem dX8_cures_0 : decode cX8_cures 0 = .ok (.aload_n 0, 1) := by decide +kernel
theorem dX8_cures_1 : decode cX8_cures 1 = .ok (.iload_n 1, 1) := by decide +kernel
theorem dX8_cures_2 : decode cX8_cures 2 = .ok (.invokevirtual 145, 3) := by decide +kernel
theorem dX8_cures_5 : decode cX8_cures 5 = .ok (.ifCond .eq 11, 3) := by decide +kernel
theorem dX8_cures_8 : decode cX8_cures 8 = .ok (.aload_n 0, 1) := by decide +kernel
theorem dX8_cures_9 : decode cX8_cures 9 = .ok (.iload_n 1, 1) := by decide +kernel
theorem dX8_cures_10 : decode cX8_cures 10 = .ok (.invokevirtual 285, 3) := by decide +kernel
theorem dX8_cures_13 : decode cX8_cures 13 = .ok (.goto 5, 3) := by decide +kernel
theorem dX8_cures_16 : decode cX8_cures 16 = .ok (.bipush (-2), 2) := by decide +kernel
theorem dX8_cures_18 : decode cX8_cures 18 = .ok (.ireturn, 1) := by decide +kernel
theorem dX8_damp_0 : decode cX8_damp 0 = .ok (.aload_n 0, 1) := by decide +kernel
theorem dX8_damp_1 : decode cX8_damp 1 = .ok (.iload_n 1, 1) := by decide +kernel
theorem dX8_damp_2 : decode cX8_damp 2 = .ok (.invokevirtual 121, 3) := by decide +kernel
theorem dX8_damp_5 : decode cX8_damp 5 = .ok (.ifCond .eq 11, 3) := by decide +kernel
theorem dX8_damp_8 : decode cX8_damp 8 = .ok (.aload_n 0, 1) := by decide +kernel
theorem dX8_damp_9 : decode cX8_damp 9 = .ok (.iload_n 2, 1) := by decide +kernel
theorem dX8_damp_10 : decode cX8_damp 10 = .ok (.invokevirtual 145, 3) := by decide +kernel
theorem dX8_damp_13 : decode cX8_damp 13 = .ok (.ifCond .ne 6, 3) := by decide +kernel
theorem dX8_damp_16 : decode cX8_damp 16 = .ok (.bipush (-2), 2) := by decide +kernel
theorem dX8_damp_18 : decode cX8_damp 18 = .ok (.ireturn, 1) := by decide +kernel
theorem dX8_damp_19 : decode cX8_damp 19 = .ok (.aload_n 0, 1) := by decide +kernel
theorem dX8_damp_20 : decode cX8_damp 20 = .ok (.getfield 54, 3) := by decide +kernel
theorem dX8_damp_23 : decode cX8_damp 23 = .ok (.aload_n 0, 1) := by decide +kernel
theorem dX8_damp_24 : decode cX8_damp 24 = .ok (.getfield 33, 3) := by decide +kernel
theorem dX8_damp_27 : decode cX8_damp 27 = .ok (.invokevirtual 148, 3) := by decide +kernel
theorem dX8_damp_30 : decode cX8_damp 30 = .ok (.aload_n 0, 1) := by decide +kernel
theorem dX8_damp_31 : decode cX8_damp 31 = .ok (.getfield 54, 3) := by decide +kernel
theorem dX8_damp_34 : decode cX8_damp 34 = .ok (.aload_n 0, 1) := by decide +kernel
theorem dX8_damp_35 : decode cX8_damp 35 = .ok (.getfield 33, 3) := by decide +kernel
theorem dX8_damp_38 : decode cX8_damp 38 = .ok (.iload_n 1, 1) := by decide +kernel
theorem dX8_damp_39 : decode cX8_damp 39 = .ok (.iload_n 2, 1) := by decide +kernel
theorem dX8_damp_40 : decode cX8_damp 40 = .ok (.invokevirtual 151, 3) := by decide +kernel
theorem dX8_damp_43 : decode cX8_damp 43 = .ok (.istore_n 3, 1) := by decide +kernel
theorem dX8_damp_44 : decode cX8_damp 44 = .ok (.aload_n 0, 1) := by decide +kernel
theorem dX8_damp_45 : decode cX8_damp 45 = .ok (.getfield 54, 3) := by decide +kernel
theorem dX8_damp_48 : decode cX8_damp 48 = .ok (.iconst 0, 1) := by decide +kernel
theorem dX8_damp_49 : decode cX8_damp 49 = .ok (.putfield 248, 3) := by decide +kernel
theorem dX8_damp_52 : decode cX8_damp 52 = .ok (.aload_n 0, 1) := by decide +kernel
theorem dX8_damp_53 : decode cX8_damp 53 = .ok (.getfield 54, 3) := by decide +kernel
theorem dX8_damp_56 : decode cX8_damp 56 = .ok (.aload_n 0, 1) := by decide +kernel
theorem dX8_damp_57 : decode cX8_damp 57 = .ok (.getfield 33, 3) := by decide +kernel
theorem dX8_damp_60 : decode cX8_damp 60 = .ok (.iload_n 1, 1) := by decide +kernel
theorem dX8_damp_61 : decode cX8_damp 61 = .ok (.iload_n 2, 1) := by decide +kernel
theorem dX8_damp_62 : decode cX8_damp 62 = .ok (.invokevirtual 151, 3) := by decide +kernel
theorem dX8_damp_65 : decode cX8_damp 65 = .ok (.iload_n 3, 1) := by decide +kernel
theorem dX8_damp_66 : decode cX8_damp 66 = .ok (.isub, 1) := by decide +kernel
theorem dX8_damp_67 : decode cX8_damp 67 = .ok (.ireturn, 1) := by decide +kernel
theorem dX8_dayToAsk_0 : decode cX8_dayToAsk 0 = .ok (.iconst (-1), 1) := by decide +kernel
theorem dX8_dayToAsk_1 : decode cX8_dayToAsk 1 = .ok (.istore_n 3, 1) := by decide +kernel
theorem dX8_dayToAsk_2 : decode cX8_dayToAsk 2 = .ok (.iload_n 1, 1) := by decide +kernel
theorem dX8_dayToAsk_3 : decode cX8_dayToAsk 3 = .ok (.invokestatic 227, 3) := by decide +kernel
theorem dX8_dayToAsk_6 : decode cX8_dayToAsk 6 = .ok (.istore 4, 2) := by decide +kernel
theorem dX8_dayToAsk_8 : decode cX8_dayToAsk 8 = .ok (.iconst 0, 1) := by decide +kernel
theorem dX8_dayToAsk_9 : decode cX8_dayToAsk 9 = .ok (.istore 5, 2) := by decide +kernel
theorem dX8_dayToAsk_11 : decode cX8_dayToAsk 11 = .ok (.iload 5, 2) := by decide +kernel
theorem dX8_dayToAsk_13 : decode cX8_dayToAsk 13 = .ok (.aload_n 0, 1) := by decide +kernel
theorem dX8_dayToAsk_14 : decode cX8_dayToAsk 14 = .ok (.getfield 33, 3) := by decide +kernel
theorem dX8_dayToAsk_17 : decode cX8_dayToAsk 17 = .ok (.getfield 242, 3) := by decide +kernel
theorem dX8_dayToAsk_20 : decode cX8_dayToAsk 20 = .ok (.if_icmp .gt 33, 3) := by decide +kernel
theorem dX8_dayToAsk_23 : decode cX8_dayToAsk 23 = .ok (.aload_n 0, 1) := by decide +kernel
theorem dX8_dayToAsk_24 : decode cX8_dayToAsk 24 = .ok (.iload_n 1, 1) := by decide +kernel
theorem dX8_dayToAsk_25 : decode cX8_dayToAsk 25 = .ok (.iload_n 2, 1) := by decide +kernel
theorem dX8_dayToAsk_26 : decode cX8_dayToAsk 26 = .ok (.iload 5, 2) := by decide +kernel
theorem dX8_dayToAsk_28 : decode cX8_dayToAsk 28 = .ok (.invokevirtual 298, 3) := by decide +kernel
theorem dX8_dayToAsk_31 : decode cX8_dayToAsk 31 = .ok (.istore 6, 2) := by decide +kernel
theorem dX8_dayToAsk_33 : decode cX8_dayToAsk 33 = .ok (.iload 6, 2) := by decide +kernel
theorem dX8_dayToAsk_35 : decode cX8_dayToAsk 35 = .ok (.iload 4, 2) := by decide +kernel
theorem dX8_dayToAsk_37 : decode cX8_dayToAsk 37 = .ok (.if_icmp .ge 10, 3) := by decide +kernel
theorem dX8_dayToAsk_40 : decode cX8_dayToAsk 40 = .ok (.iload 6, 2) := by decide +kernel
theorem dX8_dayToAsk_42 : decode cX8_dayToAsk 42 = .ok (.istore 4, 2) := by decide +kernel
theorem dX8_dayToAsk_44 : decode cX8_dayToAsk 44 = .ok (.iload 5, 2) := by decide +kernel
theorem dX8_dayToAsk_46 : decode cX8_dayToAsk 46 = .ok (.istore_n 3, 1) := by decide +kernel
theorem dX8_dayToAsk_47 : decode cX8_dayToAsk 47 = .ok (.iinc 5 1, 3) := by decide +kernel
theorem dX8_dayToAsk_50 : decode cX8_dayToAsk 50 = .ok (.goto (-39), 3) := by decide +kernel
theorem dX8_dayToAsk_53 : decode cX8_dayToAsk 53 = .ok (.iload_n 3, 1) := by decide +kernel
theorem dX8_dayToAsk_54 : decode cX8_dayToAsk 54 = .ok (.ireturn, 1) := by decide +kernel
theorem dX8_daysHeard_0 : decode cX8_daysHeard 0 = .ok (.iconst 0, 1) := by decide +kernel
theorem dX8_daysHeard_1 : decode cX8_daysHeard 1 = .ok (.istore_n 2, 1) := by decide +kernel
theorem dX8_daysHeard_2 : decode cX8_daysHeard 2 = .ok (.iconst 0, 1) := by decide +kernel
theorem dX8_daysHeard_3 : decode cX8_daysHeard 3 = .ok (.istore_n 3, 1) := by decide +kernel
theorem dX8_daysHeard_4 : decode cX8_daysHeard 4 = .ok (.iload_n 3, 1) := by decide +kernel
theorem dX8_daysHeard_5 : decode cX8_daysHeard 5 = .ok (.aload_n 0, 1) := by decide +kernel
theorem dX8_daysHeard_6 : decode cX8_daysHeard 6 = .ok (.getfield 33, 3) := by decide +kernel
theorem dX8_daysHeard_9 : decode cX8_daysHeard 9 = .ok (.getfield 242, 3) := by decide +kernel
theorem dX8_daysHeard_12 : decode cX8_daysHeard 12 = .ok (.if_icmp .gt 27, 3) := by decide +kernel
theorem dX8_daysHeard_15 : decode cX8_daysHeard 15 = .ok (.aload_n 0, 1) := by decide +kernel
theorem dX8_daysHeard_16 : decode cX8_daysHeard 16 = .ok (.iload_n 3, 1) := by decide +kernel
theorem dX8_daysHeard_17 : decode cX8_daysHeard 17 = .ok (.invokevirtual 207, 3) := by decide +kernel
theorem dX8_daysHeard_20 : decode cX8_daysHeard 20 = .ok (.iload_n 1, 1) := by decide +kernel
theorem dX8_daysHeard_21 : decode cX8_daysHeard 21 = .ok (.invokestatic 272, 3) := by decide +kernel
theorem dX8_daysHeard_24 : decode cX8_daysHeard 24 = .ok (.ifCond .eq 9, 3) := by decide +kernel
theorem dX8_daysHeard_27 : decode cX8_daysHeard 27 = .ok (.iload_n 2, 1) := by decide +kernel
theorem dX8_daysHeard_28 : decode cX8_daysHeard 28 = .ok (.iconst 1, 1) := by decide +kernel
theorem dX8_daysHeard_29 : decode cX8_daysHeard 29 = .ok (.iload_n 3, 1) := by decide +kernel
theorem dX8_daysHeard_30 : decode cX8_daysHeard 30 = .ok (.ishl, 1) := by decide +kernel
theorem dX8_daysHeard_31 : decode cX8_daysHeard 31 = .ok (.ior, 1) := by decide +kernel
theorem dX8_daysHeard_32 : decode cX8_daysHeard 32 = .ok (.istore_n 2, 1) := by decide +kernel
theorem dX8_daysHeard_33 : decode cX8_daysHeard 33 = .ok (.iinc 3 1, 3) := by decide +kernel
theorem dX8_daysHeard_36 : decode cX8_daysHeard 36 = .ok (.goto (-32), 3) := by decide +kernel
theorem dX8_daysHeard_39 : decode cX8_daysHeard 39 = .ok (.iload_n 2, 1) := by decide +kernel
theorem dX8_daysHeard_40 : decode cX8_daysHeard 40 = .ok (.ireturn, 1) := by decide +kernel
theorem dX8_deaf_0 : decode cX8_deaf 0 = .ok (.aload_n 0, 1) := by decide +kernel
theorem dX8_deaf_1 : decode cX8_deaf 1 = .ok (.iload_n 1, 1) := by decide +kernel
theorem dX8_deaf_2 : decode cX8_deaf 2 = .ok (.invokevirtual 213, 3) := by decide +kernel
theorem dX8_deaf_5 : decode cX8_deaf 5 = .ok (.ifCond .ne 6, 3) := by decide +kernel
theorem dX8_deaf_8 : decode cX8_deaf 8 = .ok (.bipush (-2), 2) := by decide +kernel
theorem dX8_deaf_10 : decode cX8_deaf 10 = .ok (.ireturn, 1) := by decide +kernel
theorem dX8_deaf_11 : decode cX8_deaf 11 = .ok (.aload_n 0, 1) := by decide +kernel
theorem dX8_deaf_12 : decode cX8_deaf 12 = .ok (.invokevirtual 216, 3) := by decide +kernel
theorem dX8_deaf_15 : decode cX8_deaf 15 = .ok (.aload_n 0, 1) := by decide +kernel
theorem dX8_deaf_16 : decode cX8_deaf 16 = .ok (.iload_n 1, 1) := by decide +kernel
theorem dX8_deaf_17 : decode cX8_deaf 17 = .ok (.invokevirtual 219, 3) := by decide +kernel
theorem dX8_deaf_20 : decode cX8_deaf 20 = .ok (.iconst (-1), 1) := by decide +kernel
theorem dX8_deaf_21 : decode cX8_deaf 21 = .ok (.ixor, 1) := by decide +kernel
theorem dX8_deaf_22 : decode cX8_deaf 22 = .ok (.iand, 1) := by decide +kernel
theorem dX8_deaf_23 : decode cX8_deaf 23 = .ok (.invokestatic 227, 3) := by decide +kernel
theorem dX8_deaf_26 : decode cX8_deaf 26 = .ok (.ireturn, 1) := by decide +kernel
theorem dX8_dim_0 : decode cX8_dim 0 = .ok (.aload_n 0, 1) := by decide +kernel
theorem dX8_dim_1 : decode cX8_dim 1 = .ok (.invokevirtual 134, 3) := by decide +kernel
theorem dX8_dim_4 : decode cX8_dim 4 = .ok (.ifCond .ne 6, 3) := by decide +kernel
theorem dX8_dim_7 : decode cX8_dim 7 = .ok (.bipush (-2), 2) := by decide +kernel
theorem dX8_dim_9 : decode cX8_dim 9 = .ok (.ireturn, 1) := by decide +kernel
theorem dX8_dim_10 : decode cX8_dim 10 = .ok (.aload_n 0, 1) := by decide +kernel
theorem dX8_dim_11 : decode cX8_dim 11 = .ok (.invokevirtual 239, 3) := by decide +kernel
theorem dX8_dim_14 : decode cX8_dim 14 = .ok (.iconst 0, 1) := by decide +kernel
theorem dX8_dim_15 : decode cX8_dim 15 = .ok (.istore_n 1, 1) := by decide +kernel
theorem dX8_dim_16 : decode cX8_dim 16 = .ok (.iconst 1, 1) := by decide +kernel
theorem dX8_dim_17 : decode cX8_dim 17 = .ok (.istore_n 2, 1) := by decide +kernel
theorem dX8_dim_18 : decode cX8_dim 18 = .ok (.iload_n 2, 1) := by decide +kernel
theorem dX8_dim_19 : decode cX8_dim 19 = .ok (.aload_n 0, 1) := by decide +kernel
theorem dX8_dim_20 : decode cX8_dim 20 = .ok (.getfield 33, 3) := by decide +kernel
theorem dX8_dim_23 : decode cX8_dim 23 = .ok (.getfield 242, 3) := by decide +kernel
theorem dX8_dim_26 : decode cX8_dim 26 = .ok (.if_icmp .gt 32, 3) := by decide +kernel
theorem dX8_dim_29 : decode cX8_dim 29 = .ok (.aload_n 0, 1) := by decide +kernel
theorem dX8_dim_30 : decode cX8_dim 30 = .ok (.getfield 72, 3) := by decide +kernel
theorem dX8_dim_33 : decode cX8_dim 33 = .ok (.iload_n 2, 1) := by decide +kernel
theorem dX8_dim_34 : decode cX8_dim 34 = .ok (.iaload, 1) := by decide +kernel
theorem dX8_dim_35 : decode cX8_dim 35 = .ok (.invokestatic 227, 3) := by decide +kernel
theorem dX8_dim_38 : decode cX8_dim 38 = .ok (.aload_n 0, 1) := by decide +kernel
theorem dX8_dim_39 : decode cX8_dim 39 = .ok (.getfield 72, 3) := by decide +kernel
theorem dX8_dim_42 : decode cX8_dim 42 = .ok (.iload_n 1, 1) := by decide +kernel
theorem dX8_dim_43 : decode cX8_dim 43 = .ok (.iaload, 1) := by decide +kernel
theorem dX8_dim_44 : decode cX8_dim 44 = .ok (.invokestatic 227, 3) := by decide +kernel
theorem dX8_dim_47 : decode cX8_dim 47 = .ok (.if_icmp .ge 5, 3) := by decide +kernel
theorem dX8_dim_50 : decode cX8_dim 50 = .ok (.iload_n 2, 1) := by decide +kernel
theorem dX8_dim_51 : decode cX8_dim 51 = .ok (.istore_n 1, 1) := by decide +kernel
theorem dX8_dim_52 : decode cX8_dim 52 = .ok (.iinc 2 1, 3) := by decide +kernel
theorem dX8_dim_55 : decode cX8_dim 55 = .ok (.goto (-37), 3) := by decide +kernel
theorem dX8_dim_58 : decode cX8_dim 58 = .ok (.iload_n 1, 1) := by decide +kernel
theorem dX8_dim_59 : decode cX8_dim 59 = .ok (.ireturn, 1) := by decide +kernel
theorem dX8_drawn_0 : decode cX8_drawn 0 = .ok (.aload_n 0, 1) := by decide +kernel
theorem dX8_drawn_1 : decode cX8_drawn 1 = .ok (.invokevirtual 134, 3) := by decide +kernel
theorem dX8_drawn_4 : decode cX8_drawn 4 = .ok (.ifCond .eq 17, 3) := by decide +kernel
theorem dX8_drawn_7 : decode cX8_drawn 7 = .ok (.iload_n 1, 1) := by decide +kernel
theorem dX8_drawn_8 : decode cX8_drawn 8 = .ok (.invokestatic 345, 3) := by decide +kernel
theorem dX8_drawn_11 : decode cX8_drawn 11 = .ok (.ifCond .eq 10, 3) := by decide +kernel
theorem dX8_drawn_14 : decode cX8_drawn 14 = .ok (.iload_n 2, 1) := by decide +kernel
theorem dX8_drawn_15 : decode cX8_drawn 15 = .ok (.invokestatic 159, 3) := by decide +kernel
theorem dX8_drawn_18 : decode cX8_drawn 18 = .ok (.ifCond .ne 6, 3) := by decide +kernel
theorem dX8_drawn_21 : decode cX8_drawn 21 = .ok (.bipush (-2), 2) := by decide +kernel
theorem dX8_drawn_23 : decode cX8_drawn 23 = .ok (.ireturn, 1) := by decide +kernel
theorem dX8_drawn_24 : decode cX8_drawn 24 = .ok (.iload_n 2, 1) := by decide +kernel
theorem dX8_drawn_25 : decode cX8_drawn 25 = .ok (.ifCond .ne 11, 3) := by decide +kernel
theorem dX8_drawn_28 : decode cX8_drawn 28 = .ok (.aload_n 0, 1) := by decide +kernel
theorem dX8_drawn_29 : decode cX8_drawn 29 = .ok (.iload_n 1, 1) := by decide +kernel
theorem dX8_drawn_30 : decode cX8_drawn 30 = .ok (.invokevirtual 348, 3) := by decide +kernel
theorem dX8_drawn_33 : decode cX8_drawn 33 = .ok (.goto 8, 3) := by decide +kernel
theorem dX8_drawn_36 : decode cX8_drawn 36 = .ok (.aload_n 0, 1) := by decide +kernel
theorem dX8_drawn_37 : decode cX8_drawn 37 = .ok (.iload_n 1, 1) := by decide +kernel
theorem dX8_drawn_38 : decode cX8_drawn 38 = .ok (.invokevirtual 351, 3) := by decide +kernel
theorem dX8_drawn_41 : decode cX8_drawn 41 = .ok (.ireturn, 1) := by decide +kernel
theorem dX8_dry_0 : decode cX8_dry 0 = .ok (.aload_n 0, 1) := by decide +kernel
theorem dX8_dry_1 : decode cX8_dry 1 = .ok (.invokevirtual 134, 3) := by decide +kernel
theorem dX8_dry_4 : decode cX8_dry 4 = .ok (.ifCond .eq 23, 3) := by decide +kernel
theorem dX8_dry_7 : decode cX8_dry 7 = .ok (.aload_n 0, 1) := by decide +kernel
theorem dX8_dry_8 : decode cX8_dry 8 = .ok (.invokevirtual 216, 3) := by decide +kernel
theorem dX8_dry_11 : decode cX8_dry 11 = .ok (.aload_n 0, 1) := by decide +kernel
theorem dX8_dry_12 : decode cX8_dry 12 = .ok (.getfield 33, 3) := by decide +kernel
theorem dX8_dry_15 : decode cX8_dry 15 = .ok (.getfield 142, 3) := by decide +kernel
theorem dX8_dry_18 : decode cX8_dry 18 = .ok (.iconst (-1), 1) := by decide +kernel
theorem dX8_dry_19 : decode cX8_dry 19 = .ok (.ixor, 1) := by decide +kernel
theorem dX8_dry_20 : decode cX8_dry 20 = .ok (.iand, 1) := by decide +kernel
theorem dX8_dry_21 : decode cX8_dry 21 = .ok (.invokestatic 230, 3) := by decide +kernel
theorem dX8_dry_24 : decode cX8_dry 24 = .ok (.goto 5, 3) := by decide +kernel
theorem dX8_dry_27 : decode cX8_dry 27 = .ok (.bipush (-2), 2) := by decide +kernel
theorem dX8_dry_29 : decode cX8_dry 29 = .ok (.ireturn, 1) := by decide +kernel
theorem dX8_earth_0 : decode cX8_earth 0 = .ok (.aload_n 0, 1) := by decide +kernel
theorem dX8_earth_1 : decode cX8_earth 1 = .ok (.iload_n 1, 1) := by decide +kernel
theorem dX8_earth_2 : decode cX8_earth 2 = .ok (.invokevirtual 121, 3) := by decide +kernel
theorem dX8_earth_5 : decode cX8_earth 5 = .ok (.ifCond .eq 18, 3) := by decide +kernel
theorem dX8_earth_8 : decode cX8_earth 8 = .ok (.aload_n 0, 1) := by decide +kernel
theorem dX8_earth_9 : decode cX8_earth 9 = .ok (.iload_n 2, 1) := by decide +kernel
theorem dX8_earth_10 : decode cX8_earth 10 = .ok (.invokevirtual 145, 3) := by decide +kernel
theorem dX8_earth_13 : decode cX8_earth 13 = .ok (.ifCond .eq 10, 3) := by decide +kernel
theorem dX8_earth_16 : decode cX8_earth 16 = .ok (.iload_n 3, 1) := by decide +kernel
theorem dX8_earth_17 : decode cX8_earth 17 = .ok (.invokestatic 159, 3) := by decide +kernel
theorem dX8_earth_20 : decode cX8_earth 20 = .ok (.ifCond .ne 7, 3) := by decide +kernel
theorem dX8_earth_23 : decode cX8_earth 23 = .ok (.ldc2_w 162, 3) := by decide +kernel
theorem dX8_earth_26 : decode cX8_earth 26 = .ok (.lreturn, 1) := by decide +kernel
theorem dX8_earth_27 : decode cX8_earth 27 = .ok (.aload_n 0, 1) := by decide +kernel
theorem dX8_earth_28 : decode cX8_earth 28 = .ok (.iload_n 2, 1) := by decide +kernel
theorem dX8_earth_29 : decode cX8_earth 29 = .ok (.invokevirtual 164, 3) := by decide +kernel
theorem dX8_earth_32 : decode cX8_earth 32 = .ok (.aload_n 0, 1) := by decide +kernel
theorem dX8_earth_33 : decode cX8_earth 33 = .ok (.aload_n 0, 1) := by decide +kernel
theorem dX8_earth_34 : decode cX8_earth 34 = .ok (.getfield 33, 3) := by decide +kernel
theorem dX8_earth_37 : decode cX8_earth 37 = .ok (.getfield 175, 3) := by decide +kernel
theorem dX8_earth_40 : decode cX8_earth 40 = .ok (.i2l, 1) := by decide +kernel
theorem dX8_earth_41 : decode cX8_earth 41 = .ok (.aload_n 0, 1) := by decide +kernel
theorem dX8_earth_42 : decode cX8_earth 42 = .ok (.getfield 61, 3) := by decide +kernel
theorem dX8_earth_45 : decode cX8_earth 45 = .ok (.getfield 190, 3) := by decide +kernel
theorem dX8_earth_48 : decode cX8_earth 48 = .ok (.iload_n 1, 1) := by decide +kernel
theorem dX8_earth_49 : decode cX8_earth 49 = .ok (.laload, 1) := by decide +kernel
theorem dX8_earth_50 : decode cX8_earth 50 = .ok (.lmul, 1) := by decide +kernel
theorem dX8_earth_51 : decode cX8_earth 51 = .ok (.aload_n 0, 1) := by decide +kernel
theorem dX8_earth_52 : decode cX8_earth 52 = .ok (.getfield 61, 3) := by decide +kernel
theorem dX8_earth_55 : decode cX8_earth 55 = .ok (.getfield 182, 3) := by decide +kernel
theorem dX8_earth_58 : decode cX8_earth 58 = .ok (.aload_n 0, 1) := by decide +kernel
theorem dX8_earth_59 : decode cX8_earth 59 = .ok (.getfield 61, 3) := by decide +kernel
theorem dX8_earth_62 : decode cX8_earth 62 = .ok (.getfield 199, 3) := by decide +kernel
theorem dX8_earth_65 : decode cX8_earth 65 = .ok (.iload_n 1, 1) := by decide +kernel
theorem dX8_earth_66 : decode cX8_earth 66 = .ok (.iaload, 1) := by decide +kernel
theorem dX8_earth_67 : decode cX8_earth 67 = .ok (.i2l, 1) := by decide +kernel
theorem dX8_earth_68 : decode cX8_earth 68 = .ok (.lmul, 1) := by decide +kernel
theorem dX8_earth_69 : decode cX8_earth 69 = .ok (.iload_n 3, 1) := by decide +kernel
theorem dX8_earth_70 : decode cX8_earth 70 = .ok (.invokevirtual 186, 3) := by decide +kernel
theorem dX8_earth_73 : decode cX8_earth 73 = .ok (.lreturn, 1) := by decide +kernel
theorem dX8_end_0 : decode cX8_end 0 = .ok (.iload_n 1, 1) := by decide +kernel
theorem dX8_end_1 : decode cX8_end 1 = .ok (.ifCond .lt 14, 3) := by decide +kernel
theorem dX8_end_4 : decode cX8_end 4 = .ok (.iload_n 1, 1) := by decide +kernel
theorem dX8_end_5 : decode cX8_end 5 = .ok (.aload_n 0, 1) := by decide +kernel
theorem dX8_end_6 : decode cX8_end 6 = .ok (.getfield 10, 3) := by decide +kernel
theorem dX8_end_9 : decode cX8_end 9 = .ok (.getfield 93, 3) := by decide +kernel
theorem dX8_end_12 : decode cX8_end 12 = .ok (.if_icmp .le 5, 3) := by decide +kernel
theorem dX8_end_15 : decode cX8_end 15 = .ok (.iconst (-1), 1) := by decide +kernel
theorem dX8_end_16 : decode cX8_end 16 = .ok (.ireturn, 1) := by decide +kernel
theorem dX8_end_17 : decode cX8_end 17 = .ok (.aload_n 0, 1) := by decide +kernel
theorem dX8_end_18 : decode cX8_end 18 = .ok (.getfield 10, 3) := by decide +kernel
theorem dX8_end_21 : decode cX8_end 21 = .ok (.iload_n 1, 1) := by decide +kernel
theorem dX8_end_22 : decode cX8_end 22 = .ok (.putfield 93, 3) := by decide +kernel
theorem dX8_end_25 : decode cX8_end 25 = .ok (.iload_n 1, 1) := by decide +kernel
theorem dX8_end_26 : decode cX8_end 26 = .ok (.ireturn, 1) := by decide +kernel
theorem dX8_ends_0 : decode cX8_ends 0 = .ok (.aload_n 0, 1) := by decide +kernel
theorem dX8_ends_1 : decode cX8_ends 1 = .ok (.iload_n 1, 1) := by decide +kernel
theorem dX8_ends_2 : decode cX8_ends 2 = .ok (.invokevirtual 145, 3) := by decide +kernel
theorem dX8_ends_5 : decode cX8_ends 5 = .ok (.ifCond .ne 6, 3) := by decide +kernel
theorem dX8_ends_8 : decode cX8_ends 8 = .ok (.bipush (-2), 2) := by decide +kernel
theorem dX8_ends_10 : decode cX8_ends 10 = .ok (.ireturn, 1) := by decide +kernel
theorem dX8_ends_11 : decode cX8_ends 11 = .ok (.aload_n 0, 1) := by decide +kernel
theorem dX8_ends_12 : decode cX8_ends 12 = .ok (.getfield 54, 3) := by decide +kernel
theorem dX8_ends_15 : decode cX8_ends 15 = .ok (.aload_n 0, 1) := by decide +kernel
theorem dX8_ends_16 : decode cX8_ends 16 = .ok (.getfield 33, 3) := by decide +kernel
theorem dX8_ends_19 : decode cX8_ends 19 = .ok (.invokevirtual 148, 3) := by decide +kernel
theorem dX8_ends_22 : decode cX8_ends 22 = .ok (.aload_n 0, 1) := by decide +kernel
theorem dX8_ends_23 : decode cX8_ends 23 = .ok (.getfield 54, 3) := by decide +kernel
theorem dX8_ends_26 : decode cX8_ends 26 = .ok (.aload_n 0, 1) := by decide +kernel
theorem dX8_ends_27 : decode cX8_ends 27 = .ok (.getfield 33, 3) := by decide +kernel
theorem dX8_ends_30 : decode cX8_ends 30 = .ok (.iload_n 1, 1) := by decide +kernel
theorem dX8_ends_31 : decode cX8_ends 31 = .ok (.invokevirtual 155, 3) := by decide +kernel
theorem dX8_ends_34 : decode cX8_ends 34 = .ok (.istore_n 2, 1) := by decide +kernel
theorem dX8_ends_35 : decode cX8_ends 35 = .ok (.iload_n 2, 1) := by decide +kernel
theorem dX8_ends_36 : decode cX8_ends 36 = .ok (.ifCond .ne 7, 3) := by decide +kernel
theorem dX8_ends_39 : decode cX8_ends 39 = .ok (.iconst (-1), 1) := by decide +kernel
theorem dX8_ends_40 : decode cX8_ends 40 = .ok (.goto 6, 3) := by decide +kernel
theorem dX8_ends_43 : decode cX8_ends 43 = .ok (.iload_n 2, 1) := by decide +kernel
theorem dX8_ends_44 : decode cX8_ends 44 = .ok (.iconst 1, 1) := by decide +kernel
theorem dX8_ends_45 : decode cX8_ends 45 = .ok (.isub, 1) := by decide +kernel
theorem dX8_ends_46 : decode cX8_ends 46 = .ok (.ireturn, 1) := by decide +kernel
theorem dX8_factorial_0 : decode cX8_factorial 0 = .ok (.lconst 1, 1) := by decide +kernel
theorem dX8_factorial_1 : decode cX8_factorial 1 = .ok (.lstore_n 1, 1) := by decide +kernel
theorem dX8_factorial_2 : decode cX8_factorial 2 = .ok (.iconst 2, 1) := by decide +kernel
theorem dX8_factorial_3 : decode cX8_factorial 3 = .ok (.istore_n 3, 1) := by decide +kernel
theorem dX8_factorial_4 : decode cX8_factorial 4 = .ok (.iload_n 3, 1) := by decide +kernel
theorem dX8_factorial_5 : decode cX8_factorial 5 = .ok (.iload_n 0, 1) := by decide +kernel
theorem dX8_factorial_6 : decode cX8_factorial 6 = .ok (.if_icmp .gt 14, 3) := by decide +kernel
theorem dX8_factorial_9 : decode cX8_factorial 9 = .ok (.lload_n 1, 1) := by decide +kernel
theorem dX8_factorial_10 : decode cX8_factorial 10 = .ok (.iload_n 3, 1) := by decide +kernel
theorem dX8_factorial_11 : decode cX8_factorial 11 = .ok (.i2l, 1) := by decide +kernel
theorem dX8_factorial_12 : decode cX8_factorial 12 = .ok (.lmul, 1) := by decide +kernel
theorem dX8_factorial_13 : decode cX8_factorial 13 = .ok (.lstore_n 1, 1) := by decide +kernel
theorem dX8_factorial_14 : decode cX8_factorial 14 = .ok (.iinc 3 1, 3) := by decide +kernel
theorem dX8_factorial_17 : decode cX8_factorial 17 = .ok (.goto (-13), 3) := by decide +kernel
theorem dX8_factorial_20 : decode cX8_factorial 20 = .ok (.lload_n 1, 1) := by decide +kernel
theorem dX8_factorial_21 : decode cX8_factorial 21 = .ok (.lreturn, 1) := by decide +kernel
theorem dX8_faint_0 : decode cX8_faint 0 = .ok (.aload_n 0, 1) := by decide +kernel
theorem dX8_faint_1 : decode cX8_faint 1 = .ok (.iload_n 1, 1) := by decide +kernel
theorem dX8_faint_2 : decode cX8_faint 2 = .ok (.invokevirtual 145, 3) := by decide +kernel
theorem dX8_faint_5 : decode cX8_faint 5 = .ok (.ifCond .ne 6, 3) := by decide +kernel
theorem dX8_faint_8 : decode cX8_faint 8 = .ok (.bipush (-2), 2) := by decide +kernel
theorem dX8_faint_10 : decode cX8_faint 10 = .ok (.ireturn, 1) := by decide +kernel
theorem dX8_faint_11 : decode cX8_faint 11 = .ok (.aload_n 0, 1) := by decide +kernel
theorem dX8_faint_12 : decode cX8_faint 12 = .ok (.iload_n 1, 1) := by decide +kernel
theorem dX8_faint_13 : decode cX8_faint 13 = .ok (.invokevirtual 164, 3) := by decide +kernel
theorem dX8_faint_16 : decode cX8_faint 16 = .ok (.iconst (-1), 1) := by decide +kernel
theorem dX8_faint_17 : decode cX8_faint 17 = .ok (.istore_n 2, 1) := by decide +kernel
theorem dX8_faint_18 : decode cX8_faint 18 = .ok (.iconst 0, 1) := by decide +kernel
theorem dX8_faint_19 : decode cX8_faint 19 = .ok (.istore_n 3, 1) := by decide +kernel
theorem dX8_faint_20 : decode cX8_faint 20 = .ok (.iload_n 3, 1) := by decide +kernel
theorem dX8_faint_21 : decode cX8_faint 21 = .ok (.aload_n 0, 1) := by decide +kernel
theorem dX8_faint_22 : decode cX8_faint 22 = .ok (.getfield 33, 3) := by decide +kernel
theorem dX8_faint_25 : decode cX8_faint 25 = .ok (.getfield 210, 3) := by decide +kernel
theorem dX8_faint_28 : decode cX8_faint 28 = .ok (.if_icmp .ge 46, 3) := by decide +kernel
theorem dX8_faint_31 : decode cX8_faint 31 = .ok (.aload_n 0, 1) := by decide +kernel
theorem dX8_faint_32 : decode cX8_faint 32 = .ok (.iload_n 3, 1) := by decide +kernel
theorem dX8_faint_33 : decode cX8_faint 33 = .ok (.invokevirtual 213, 3) := by decide +kernel
theorem dX8_faint_36 : decode cX8_faint 36 = .ok (.ifCond .eq 32, 3) := by decide +kernel
theorem dX8_faint_39 : decode cX8_faint 39 = .ok (.iload_n 2, 1) := by decide +kernel
theorem dX8_faint_40 : decode cX8_faint 40 = .ok (.iconst (-1), 1) := by decide +kernel
theorem dX8_faint_41 : decode cX8_faint 41 = .ok (.if_icmp .eq 25, 3) := by decide +kernel
theorem dX8_faint_44 : decode cX8_faint 44 = .ok (.aload_n 0, 1) := by decide +kernel
theorem dX8_faint_45 : decode cX8_faint 45 = .ok (.getfield 61, 3) := by decide +kernel
theorem dX8_faint_48 : decode cX8_faint 48 = .ok (.getfield 190, 3) := by decide +kernel
theorem dX8_faint_51 : decode cX8_faint 51 = .ok (.iload_n 3, 1) := by decide +kernel
theorem dX8_faint_52 : decode cX8_faint 52 = .ok (.laload, 1) := by decide +kernel
theorem dX8_faint_53 : decode cX8_faint 53 = .ok (.aload_n 0, 1) := by decide +kernel
theorem dX8_faint_54 : decode cX8_faint 54 = .ok (.getfield 61, 3) := by decide +kernel
theorem dX8_faint_57 : decode cX8_faint 57 = .ok (.getfield 190, 3) := by decide +kernel
theorem dX8_faint_60 : decode cX8_faint 60 = .ok (.iload_n 2, 1) := by decide +kernel
theorem dX8_faint_61 : decode cX8_faint 61 = .ok (.laload, 1) := by decide +kernel
theorem dX8_faint_62 : decode cX8_faint 62 = .ok (.lcmp, 1) := by decide +kernel
theorem dX8_faint_63 : decode cX8_faint 63 = .ok (.ifCond .gt 5, 3) := by decide +kernel
theorem dX8_faint_66 : decode cX8_faint 66 = .ok (.iload_n 3, 1) := by decide +kernel
theorem dX8_faint_67 : decode cX8_faint 67 = .ok (.istore_n 2, 1) := by decide +kernel
theorem dX8_faint_68 : decode cX8_faint 68 = .ok (.iinc 3 1, 3) := by decide +kernel
theorem dX8_faint_71 : decode cX8_faint 71 = .ok (.goto (-51), 3) := by decide +kernel
theorem dX8_faint_74 : decode cX8_faint 74 = .ok (.iload_n 2, 1) := by decide +kernel
theorem dX8_faint_75 : decode cX8_faint 75 = .ok (.ireturn, 1) := by decide +kernel
