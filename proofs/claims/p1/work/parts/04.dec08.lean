theorem dX9_copyWire_17 : decode cX9_copyWire 17 = .ok (.iload_n 2, 1) := by decide +kernel
theorem dX9_copyWire_18 : decode cX9_copyWire 18 = .ok (.invokestatic 208, 3) := by decide +kernel
theorem dX9_copyWire_21 : decode cX9_copyWire 21 = .ok (.aload_n 0, 1) := by decide +kernel
theorem dX9_copyWire_22 : decode cX9_copyWire 22 = .ok (.getfield 37, 3) := by decide +kernel
theorem dX9_copyWire_25 : decode cX9_copyWire 25 = .ok (.bipush 15, 2) := by decide +kernel
theorem dX9_copyWire_27 : decode cX9_copyWire 27 = .ok (.iload_n 1, 1) := by decide +kernel
theorem dX9_copyWire_28 : decode cX9_copyWire 28 = .ok (.iload_n 2, 1) := by decide +kernel
theorem dX9_copyWire_29 : decode cX9_copyWire 29 = .ok (.invokestatic 208, 3) := by decide +kernel
theorem dX9_copyWire_32 : decode cX9_copyWire 32 = .ok (.aload_n 0, 1) := by decide +kernel
theorem dX9_copyWire_33 : decode cX9_copyWire 33 = .ok (.getfield 40, 3) := by decide +kernel
theorem dX9_copyWire_36 : decode cX9_copyWire 36 = .ok (.bipush 8, 2) := by decide +kernel
theorem dX9_copyWire_38 : decode cX9_copyWire 38 = .ok (.iload_n 1, 1) := by decide +kernel
theorem dX9_copyWire_39 : decode cX9_copyWire 39 = .ok (.iload_n 2, 1) := by decide +kernel
theorem dX9_copyWire_40 : decode cX9_copyWire 40 = .ok (.invokestatic 208, 3) := by decide +kernel
theorem dX9_copyWire_43 : decode cX9_copyWire 43 = .ok (.aload_n 0, 1) := by decide +kernel
theorem dX9_copyWire_44 : decode cX9_copyWire 44 = .ok (.getfield 43, 3) := by decide +kernel
theorem dX9_copyWire_47 : decode cX9_copyWire 47 = .ok (.bipush 90, 2) := by decide +kernel
theorem dX9_copyWire_49 : decode cX9_copyWire 49 = .ok (.iload_n 1, 1) := by decide +kernel
theorem dX9_copyWire_50 : decode cX9_copyWire 50 = .ok (.iload_n 2, 1) := by decide +kernel
theorem dX9_copyWire_51 : decode cX9_copyWire 51 = .ok (.invokestatic 208, 3) := by decide +kernel
theorem dX9_copyWire_54 : decode cX9_copyWire 54 = .ok (.return_, 1) := by decide +kernel
theorem dX9_count_0 : decode cX9_count 0 = .ok (.aload_n 0, 1) := by decide +kernel
theorem dX9_count_1 : decode cX9_count 1 = .ok (.iconst 0, 1) := by decide +kernel
theorem dX9_count_2 : decode cX9_count 2 = .ok (.putfield 68, 3) := by decide +kernel
theorem dX9_count_5 : decode cX9_count 5 = .ok (.iload_n 1, 1) := by decide +kernel
theorem dX9_count_6 : decode cX9_count 6 = .ok (.i2l, 1) := by decide +kernel
theorem dX9_count_7 : decode cX9_count 7 = .ok (.lconst 0, 1) := by decide +kernel
theorem dX9_count_8 : decode cX9_count 8 = .ok (.ldc2_w 415, 3) := by decide +kernel
theorem dX9_count_11 : decode cX9_count 11 = .ok (.invokestatic 73, 3) := by decide +kernel
theorem dX9_count_14 : decode cX9_count 14 = .ok (.ifCond .eq 10, 3) := by decide +kernel
theorem dX9_count_17 : decode cX9_count 17 = .ok (.aload_n 0, 1) := by decide +kernel
theorem dX9_count_18 : decode cX9_count 18 = .ok (.getfield 34, 3) := by decide +kernel
theorem dX9_count_21 : decode cX9_count 21 = .ok (.iload_n 1, 1) := by decide +kernel
theorem dX9_count_22 : decode cX9_count 22 = .ok (.iaload, 1) := by decide +kernel
theorem dX9_count_23 : decode cX9_count 23 = .ok (.ireturn, 1) := by decide +kernel
theorem dX9_count_24 : decode cX9_count 24 = .ok (.iconst 0, 1) := by decide +kernel
theorem dX9_count_25 : decode cX9_count 25 = .ok (.istore_n 2, 1) := by decide +kernel
theorem dX9_count_26 : decode cX9_count 26 = .ok (.iload_n 1, 1) := by decide +kernel
theorem dX9_count_27 : decode cX9_count 27 = .ok (.tableswitch 70 7 9 #[25, 32, 37], 25) := by decide +kernel
theorem dX9_count_52 : decode cX9_count 52 = .ok (.aload_n 0, 1) := by decide +kernel
theorem dX9_count_53 : decode cX9_count 53 = .ok (.getfield 31, 3) := by decide +kernel
theorem dX9_count_56 : decode cX9_count 56 = .ok (.iconst 0, 1) := by decide +kernel
theorem dX9_count_57 : decode cX9_count 57 = .ok (.iaload, 1) := by decide +kernel
theorem dX9_count_58 : decode cX9_count 58 = .ok (.ireturn, 1) := by decide +kernel
theorem dX9_count_59 : decode cX9_count 59 = .ok (.aload_n 0, 1) := by decide +kernel
theorem dX9_count_60 : decode cX9_count 60 = .ok (.getfield 85, 3) := by decide +kernel
theorem dX9_count_63 : decode cX9_count 63 = .ok (.ireturn, 1) := by decide +kernel
theorem dX9_count_64 : decode cX9_count 64 = .ok (.iconst 0, 1) := by decide +kernel
theorem dX9_count_65 : decode cX9_count 65 = .ok (.istore_n 3, 1) := by decide +kernel
theorem dX9_count_66 : decode cX9_count 66 = .ok (.iload_n 3, 1) := by decide +kernel
theorem dX9_count_67 : decode cX9_count 67 = .ok (.iconst 4, 1) := by decide +kernel
theorem dX9_count_68 : decode cX9_count 68 = .ok (.if_icmp .ge 27, 3) := by decide +kernel
theorem dX9_count_71 : decode cX9_count 71 = .ok (.iload_n 2, 1) := by decide +kernel
theorem dX9_count_72 : decode cX9_count 72 = .ok (.aload_n 0, 1) := by decide +kernel
theorem dX9_count_73 : decode cX9_count 73 = .ok (.getfield 7, 3) := by decide +kernel
theorem dX9_count_76 : decode cX9_count 76 = .ok (.iload_n 3, 1) := by decide +kernel
theorem dX9_count_77 : decode cX9_count 77 = .ok (.iaload, 1) := by decide +kernel
theorem dX9_count_78 : decode cX9_count 78 = .ok (.iconst (-1), 1) := by decide +kernel
theorem dX9_count_79 : decode cX9_count 79 = .ok (.if_icmp .ne 7, 3) := by decide +kernel
theorem dX9_count_82 : decode cX9_count 82 = .ok (.iconst 0, 1) := by decide +kernel
theorem dX9_count_83 : decode cX9_count 83 = .ok (.goto 4, 3) := by decide +kernel
theorem dX9_count_87 : decode cX9_count 87 = .ok (.iadd, 1) := by decide +kernel
theorem dX9_count_88 : decode cX9_count 88 = .ok (.istore_n 2, 1) := by decide +kernel
theorem dX9_count_89 : decode cX9_count 89 = .ok (.iinc 3 1, 3) := by decide +kernel
theorem dX9_count_92 : decode cX9_count 92 = .ok (.goto (-26), 3) := by decide +kernel
theorem dX9_count_95 : decode cX9_count 95 = .ok (.iload_n 2, 1) := by decide +kernel
theorem dX9_count_96 : decode cX9_count 96 = .ok (.ireturn, 1) := by decide +kernel
theorem dX9_count_97 : decode cX9_count 97 = .ok (.iconst (-1), 1) := by decide +kernel
theorem dX9_count_98 : decode cX9_count 98 = .ok (.ireturn, 1) := by decide +kernel
theorem dX9_cupped_0 : decode cX9_cupped 0 = .ok (.aload_n 0, 1) := by decide +kernel
theorem dX9_cupped_1 : decode cX9_cupped 1 = .ok (.iconst 0, 1) := by decide +kernel
theorem dX9_cupped_2 : decode cX9_cupped 2 = .ok (.putfield 68, 3) := by decide +kernel
theorem dX9_cupped_5 : decode cX9_cupped 5 = .ok (.aload_n 0, 1) := by decide +kernel
theorem dX9_cupped_6 : decode cX9_cupped 6 = .ok (.iload_n 1, 1) := by decide +kernel
theorem dX9_cupped_7 : decode cX9_cupped 7 = .ok (.iload_n 2, 1) := by decide +kernel
theorem dX9_cupped_8 : decode cX9_cupped 8 = .ok (.iconst 0, 1) := by decide +kernel
theorem dX9_cupped_9 : decode cX9_cupped 9 = .ok (.invokevirtual 301, 3) := by decide +kernel
theorem dX9_cupped_12 : decode cX9_cupped 12 = .ok (.ifCond .ne 6, 3) := by decide +kernel
theorem dX9_cupped_15 : decode cX9_cupped 15 = .ok (.bipush (-2), 2) := by decide +kernel
theorem dX9_cupped_17 : decode cX9_cupped 17 = .ok (.ireturn, 1) := by decide +kernel
theorem dX9_cups_0 : decode cX9_cups 0 = .ok (.aload_n 0, 1) := by decide +kernel
theorem dX9_cups_1 : decode cX9_cups 1 = .ok (.iconst 0, 1) := by decide +kernel
theorem dX9_cups_2 : decode cX9_cups 2 = .ok (.putfield 68, 3) := by decide +kernel
theorem dX9_cups_5 : decode cX9_cups 5 = .ok (.aload_n 0, 1) := by decide +kernel
theorem dX9_cups_6 : decode cX9_cups 6 = .ok (.iload_n 1, 1) := by decide +kernel
theorem dX9_cups_7 : decode cX9_cups 7 = .ok (.iload_n 2, 1) := by decide +kernel
theorem dX9_cups_8 : decode cX9_cups 8 = .ok (.iconst 0, 1) := by decide +kernel
theorem dX9_cups_9 : decode cX9_cups 9 = .ok (.invokevirtual 301, 3) := by decide +kernel
theorem dX9_cups_12 : decode cX9_cups 12 = .ok (.ifCond .ne 6, 3) := by decide +kernel
theorem dX9_cups_15 : decode cX9_cups 15 = .ok (.bipush (-2), 2) := by decide +kernel
theorem dX9_cups_17 : decode cX9_cups 17 = .ok (.ireturn, 1) := by decide +kernel
theorem dX9_cure_0 : decode cX9_cure 0 = .ok (.aload_n 0, 1) := by decide +kernel
theorem dX9_cure_1 : decode cX9_cure 1 = .ok (.iconst 0, 1) := by decide +kernel
theorem dX9_cure_2 : decode cX9_cure 2 = .ok (.putfield 68, 3) := by decide +kernel
theorem dX9_cure_5 : decode cX9_cure 5 = .ok (.aload_n 0, 1) := by decide +kernel
theorem dX9_cure_6 : decode cX9_cure 6 = .ok (.iload_n 1, 1) := by decide +kernel
theorem dX9_cure_7 : decode cX9_cure 7 = .ok (.i2l, 1) := by decide +kernel
theorem dX9_cure_8 : decode cX9_cure 8 = .ok (.invokevirtual 289, 3) := by decide +kernel
theorem dX9_cure_11 : decode cX9_cure 11 = .ok (.ifCond .ne 6, 3) := by decide +kernel
theorem dX9_cure_14 : decode cX9_cure 14 = .ok (.bipush (-2), 2) := by decide +kernel
theorem dX9_cure_16 : decode cX9_cure 16 = .ok (.ireturn, 1) := by decide +kernel
theorem dX9_cures_0 : decode cX9_cures 0 = .ok (.aload_n 0, 1) := by decide +kernel
theorem dX9_cures_1 : decode cX9_cures 1 = .ok (.iconst 0, 1) := by decide +kernel
theorem dX9_cures_2 : decode cX9_cures 2 = .ok (.putfield 68, 3) := by decide +kernel
theorem dX9_cures_5 : decode cX9_cures 5 = .ok (.aload_n 0, 1) := by decide +kernel
theorem dX9_cures_6 : decode cX9_cures 6 = .ok (.iload_n 1, 1) := by decide +kernel
theorem dX9_cures_7 : decode cX9_cures 7 = .ok (.i2l, 1) := by decide +kernel
theorem dX9_cures_8 : decode cX9_cures 8 = .ok (.invokevirtual 289, 3) := by decide +kernel
theorem dX9_cures_11 : decode cX9_cures 11 = .ok (.ifCond .eq 11, 3) := by decide +kernel
theorem dX9_cures_22 : decode cX9_cures 22 = .ok (.bipush (-2), 2) := by decide +kernel
theorem dX9_cures_24 : decode cX9_cures 24 = .ok (.ireturn, 1) := by decide +kernel
theorem dX9_damp_0 : decode cX9_damp 0 = .ok (.aload_n 0, 1) := by decide +kernel
theorem dX9_damp_1 : decode cX9_damp 1 = .ok (.iconst 0, 1) := by decide +kernel
theorem dX9_damp_2 : decode cX9_damp 2 = .ok (.putfield 68, 3) := by decide +kernel
theorem dX9_damp_5 : decode cX9_damp 5 = .ok (.aload_n 0, 1) := by decide +kernel
theorem dX9_damp_6 : decode cX9_damp 6 = .ok (.iload_n 1, 1) := by decide +kernel
theorem dX9_damp_7 : decode cX9_damp 7 = .ok (.iload_n 2, 1) := by decide +kernel
theorem dX9_damp_8 : decode cX9_damp 8 = .ok (.iconst 0, 1) := by decide +kernel
theorem dX9_damp_9 : decode cX9_damp 9 = .ok (.invokevirtual 301, 3) := by decide +kernel
theorem dX9_damp_12 : decode cX9_damp 12 = .ok (.ifCond .ne 6, 3) := by decide +kernel
theorem dX9_damp_15 : decode cX9_damp 15 = .ok (.bipush (-2), 2) := by decide +kernel
theorem dX9_damp_17 : decode cX9_damp 17 = .ok (.ireturn, 1) := by decide +kernel
theorem dX9_deaf_0 : decode cX9_deaf 0 = .ok (.aload_n 0, 1) := by decide +kernel
theorem dX9_deaf_1 : decode cX9_deaf 1 = .ok (.iconst 0, 1) := by decide +kernel
theorem dX9_deaf_2 : decode cX9_deaf 2 = .ok (.putfield 68, 3) := by decide +kernel
theorem dX9_deaf_5 : decode cX9_deaf 5 = .ok (.aload_n 0, 1) := by decide +kernel
theorem dX9_deaf_6 : decode cX9_deaf 6 = .ok (.iload_n 1, 1) := by decide +kernel
theorem dX9_deaf_7 : decode cX9_deaf 7 = .ok (.invokevirtual 268, 3) := by decide +kernel
theorem dX9_deaf_10 : decode cX9_deaf 10 = .ok (.ifCond .ne 6, 3) := by decide +kernel
theorem dX9_deaf_13 : decode cX9_deaf 13 = .ok (.bipush (-2), 2) := by decide +kernel
theorem dX9_deaf_15 : decode cX9_deaf 15 = .ok (.ireturn, 1) := by decide +kernel
theorem dX9_dim_0 : decode cX9_dim 0 = .ok (.aload_n 0, 1) := by decide +kernel
theorem dX9_dim_1 : decode cX9_dim 1 = .ok (.iconst 0, 1) := by decide +kernel
theorem dX9_dim_2 : decode cX9_dim 2 = .ok (.putfield 68, 3) := by decide +kernel
theorem dX9_dim_5 : decode cX9_dim 5 = .ok (.aload_n 0, 1) := by decide +kernel
theorem dX9_dim_6 : decode cX9_dim 6 = .ok (.invokevirtual 219, 3) := by decide +kernel
theorem dX9_dim_9 : decode cX9_dim 9 = .ok (.ifCond .eq 11, 3) := by decide +kernel
theorem dX9_dim_20 : decode cX9_dim 20 = .ok (.bipush (-2), 2) := by decide +kernel
theorem dX9_dim_22 : decode cX9_dim 22 = .ok (.ireturn, 1) := by decide +kernel
theorem dX9_drawn_0 : decode cX9_drawn 0 = .ok (.aload_n 0, 1) := by decide +kernel
theorem dX9_drawn_1 : decode cX9_drawn 1 = .ok (.iconst 0, 1) := by decide +kernel
theorem dX9_drawn_2 : decode cX9_drawn 2 = .ok (.putfield 68, 3) := by decide +kernel
theorem dX9_drawn_5 : decode cX9_drawn 5 = .ok (.aload_n 0, 1) := by decide +kernel
theorem dX9_drawn_6 : decode cX9_drawn 6 = .ok (.invokevirtual 219, 3) := by decide +kernel
theorem dX9_drawn_9 : decode cX9_drawn 9 = .ok (.ifCond .eq 17, 3) := by decide +kernel
theorem dX9_drawn_26 : decode cX9_drawn 26 = .ok (.bipush (-2), 2) := by decide +kernel
theorem dX9_drawn_28 : decode cX9_drawn 28 = .ok (.ireturn, 1) := by decide +kernel
theorem dX9_dry_0 : decode cX9_dry 0 = .ok (.aload_n 0, 1) := by decide +kernel
theorem dX9_dry_1 : decode cX9_dry 1 = .ok (.iconst 0, 1) := by decide +kernel
theorem dX9_dry_2 : decode cX9_dry 2 = .ok (.putfield 68, 3) := by decide +kernel
theorem dX9_dry_5 : decode cX9_dry 5 = .ok (.aload_n 0, 1) := by decide +kernel
theorem dX9_dry_6 : decode cX9_dry 6 = .ok (.invokevirtual 219, 3) := by decide +kernel
theorem dX9_dry_9 : decode cX9_dry 9 = .ok (.ifCond .eq 11, 3) := by decide +kernel
theorem dX9_dry_20 : decode cX9_dry 20 = .ok (.bipush (-2), 2) := by decide +kernel
theorem dX9_dry_22 : decode cX9_dry 22 = .ok (.ireturn, 1) := by decide +kernel
theorem dX9_earth_0 : decode cX9_earth 0 = .ok (.aload_n 0, 1) := by decide +kernel
theorem dX9_earth_1 : decode cX9_earth 1 = .ok (.iconst 0, 1) := by decide +kernel
theorem dX9_earth_2 : decode cX9_earth 2 = .ok (.putfield 68, 3) := by decide +kernel
theorem dX9_earth_5 : decode cX9_earth 5 = .ok (.aload_n 0, 1) := by decide +kernel
theorem dX9_earth_6 : decode cX9_earth 6 = .ok (.iload_n 1, 1) := by decide +kernel
theorem dX9_earth_7 : decode cX9_earth 7 = .ok (.iload_n 2, 1) := by decide +kernel
theorem dX9_earth_8 : decode cX9_earth 8 = .ok (.iload_n 3, 1) := by decide +kernel
theorem dX9_earth_9 : decode cX9_earth 9 = .ok (.invokevirtual 301, 3) := by decide +kernel
theorem dX9_earth_12 : decode cX9_earth 12 = .ok (.ifCond .ne 7, 3) := by decide +kernel
theorem dX9_earth_15 : decode cX9_earth 15 = .ok (.ldc2_w 295, 3) := by decide +kernel
theorem dX9_earth_18 : decode cX9_earth 18 = .ok (.lreturn, 1) := by decide +kernel
theorem dX9_end_0 : decode cX9_end 0 = .ok (.aload_n 0, 1) := by decide +kernel
theorem dX9_end_1 : decode cX9_end 1 = .ok (.iconst 0, 1) := by decide +kernel
theorem dX9_end_2 : decode cX9_end 2 = .ok (.putfield 68, 3) := by decide +kernel
theorem dX9_end_5 : decode cX9_end 5 = .ok (.iload_n 1, 1) := by decide +kernel
theorem dX9_end_6 : decode cX9_end 6 = .ok (.i2l, 1) := by decide +kernel
theorem dX9_end_7 : decode cX9_end 7 = .ok (.lconst 0, 1) := by decide +kernel
theorem dX9_end_8 : decode cX9_end 8 = .ok (.aload_n 0, 1) := by decide +kernel
theorem dX9_end_9 : decode cX9_end 9 = .ok (.getfield 85, 3) := by decide +kernel
theorem dX9_end_12 : decode cX9_end 12 = .ok (.i2l, 1) := by decide +kernel
theorem dX9_end_13 : decode cX9_end 13 = .ok (.invokestatic 73, 3) := by decide +kernel
theorem dX9_end_16 : decode cX9_end 16 = .ok (.ifCond .ne 5, 3) := by decide +kernel
theorem dX9_end_19 : decode cX9_end 19 = .ok (.iconst (-1), 1) := by decide +kernel
theorem dX9_end_20 : decode cX9_end 20 = .ok (.ireturn, 1) := by decide +kernel
theorem dX9_end_21 : decode cX9_end 21 = .ok (.aload_n 0, 1) := by decide +kernel
theorem dX9_end_22 : decode cX9_end 22 = .ok (.iload_n 1, 1) := by decide +kernel
theorem dX9_end_23 : decode cX9_end 23 = .ok (.putfield 85, 3) := by decide +kernel
theorem dX9_end_26 : decode cX9_end 26 = .ok (.iload_n 1, 1) := by decide +kernel
theorem dX9_end_27 : decode cX9_end 27 = .ok (.ireturn, 1) := by decide +kernel
theorem dX9_ends_0 : decode cX9_ends 0 = .ok (.aload_n 0, 1) := by decide +kernel
theorem dX9_ends_1 : decode cX9_ends 1 = .ok (.iconst 0, 1) := by decide +kernel
theorem dX9_ends_2 : decode cX9_ends 2 = .ok (.putfield 68, 3) := by decide +kernel
theorem dX9_ends_5 : decode cX9_ends 5 = .ok (.aload_n 0, 1) := by decide +kernel
theorem dX9_ends_6 : decode cX9_ends 6 = .ok (.iload_n 1, 1) := by decide +kernel
theorem dX9_ends_7 : decode cX9_ends 7 = .ok (.i2l, 1) := by decide +kernel
theorem dX9_ends_8 : decode cX9_ends 8 = .ok (.invokevirtual 289, 3) := by decide +kernel
theorem dX9_ends_11 : decode cX9_ends 11 = .ok (.ifCond .ne 6, 3) := by decide +kernel
theorem dX9_ends_14 : decode cX9_ends 14 = .ok (.bipush (-2), 2) := by decide +kernel
theorem dX9_ends_16 : decode cX9_ends 16 = .ok (.ireturn, 1) := by decide +kernel
theorem dX9_faint_0 : decode cX9_faint 0 = .ok (.aload_n 0, 1) := by decide +kernel
theorem dX9_faint_1 : decode cX9_faint 1 = .ok (.iconst 0, 1) := by decide +kernel
theorem dX9_faint_2 : decode cX9_faint 2 = .ok (.putfield 68, 3) := by decide +kernel
theorem dX9_faint_5 : decode cX9_faint 5 = .ok (.aload_n 0, 1) := by decide +kernel
theorem dX9_faint_6 : decode cX9_faint 6 = .ok (.iload_n 1, 1) := by decide +kernel
theorem dX9_faint_7 : decode cX9_faint 7 = .ok (.i2l, 1) := by decide +kernel
theorem dX9_faint_8 : decode cX9_faint 8 = .ok (.invokevirtual 289, 3) := by decide +kernel
theorem dX9_faint_11 : decode cX9_faint 11 = .ok (.ifCond .ne 6, 3) := by decide +kernel
theorem dX9_faint_14 : decode cX9_faint 14 = .ok (.bipush (-2), 2) := by decide +kernel
theorem dX9_faint_16 : decode cX9_faint 16 = .ok (.ireturn, 1) := by decide +kernel
theorem dX9_falls_0 : decode cX9_falls 0 = .ok (.aload_n 0, 1) := by decide +kernel
theorem dX9_falls_1 : decode cX9_falls 1 = .ok (.iconst 0, 1) := by decide +kernel
theorem dX9_falls_2 : decode cX9_falls 2 = .ok (.putfield 68, 3) := by decide +kernel
theorem dX9_falls_5 : decode cX9_falls 5 = .ok (.aload_n 0, 1) := by decide +kernel
theorem dX9_falls_6 : decode cX9_falls 6 = .ok (.iload_n 1, 1) := by decide +kernel
theorem dX9_falls_7 : decode cX9_falls 7 = .ok (.iload_n 2, 1) := by decide +kernel
theorem dX9_falls_8 : decode cX9_falls 8 = .ok (.iload_n 3, 1) := by decide +kernel
theorem dX9_falls_9 : decode cX9_falls 9 = .ok (.invokevirtual 301, 3) := by decide +kernel
theorem dX9_falls_12 : decode cX9_falls 12 = .ok (.ifCond .ne 7, 3) := by decide +kernel
theorem dX9_falls_15 : decode cX9_falls 15 = .ok (.ldc2_w 295, 3) := by decide +kernel
theorem dX9_falls_18 : decode cX9_falls 18 = .ok (.lreturn, 1) := by decide +kernel
theorem dX9_fault_0 : decode cX9_fault 0 = .ok (.aload_n 0, 1) := by decide +kernel
theorem dX9_fault_1 : decode cX9_fault 1 = .ok (.iconst 0, 1) := by decide +kernel
theorem dX9_fault_2 : decode cX9_fault 2 = .ok (.putfield 68, 3) := by decide +kernel
theorem dX9_fault_5 : decode cX9_fault 5 = .ok (.iload_n 1, 1) := by decide +kernel
theorem dX9_fault_6 : decode cX9_fault 6 = .ok (.ifCond .ne 10, 3) := by decide +kernel
theorem dX9_fault_9 : decode cX9_fault 9 = .ok (.aload_n 0, 1) := by decide +kernel
theorem dX9_fault_10 : decode cX9_fault 10 = .ok (.getfield 147, 3) := by decide +kernel
theorem dX9_fault_13 : decode cX9_fault 13 = .ok (.goto 16, 3) := by decide +kernel
theorem dX9_fault_16 : decode cX9_fault 16 = .ok (.iload_n 1, 1) := by decide +kernel
theorem dX9_fault_17 : decode cX9_fault 17 = .ok (.iconst 1, 1) := by decide +kernel
theorem dX9_fault_18 : decode cX9_fault 18 = .ok (.if_icmp .ne 10, 3) := by decide +kernel
theorem dX9_fault_21 : decode cX9_fault 21 = .ok (.aload_n 0, 1) := by decide +kernel
theorem dX9_fault_22 : decode cX9_fault 22 = .ok (.getfield 27, 3) := by decide +kernel
theorem dX9_fault_25 : decode cX9_fault 25 = .ok (.goto 4, 3) := by decide +kernel
theorem dX9_fault_28 : decode cX9_fault 28 = .ok (.iconst (-1), 1) := by decide +kernel
theorem dX9_fault_29 : decode cX9_fault 29 = .ok (.ireturn, 1) := by decide +kernel
theorem dX9_feed_0 : decode cX9_feed 0 = .ok (.aload_n 0, 1) := by decide +kernel
theorem dX9_feed_1 : decode cX9_feed 1 = .ok (.iconst 0, 1) := by decide +kernel
theorem dX9_feed_2 : decode cX9_feed 2 = .ok (.putfield 68, 3) := by decide +kernel
theorem dX9_feed_5 : decode cX9_feed 5 = .ok (.aload_n 0, 1) := by decide +kernel
theorem dX9_feed_6 : decode cX9_feed 6 = .ok (.getfield 85, 3) := by decide +kernel
theorem dX9_feed_9 : decode cX9_feed 9 = .ok (.bipush 20, 2) := by decide +kernel
theorem dX9_feed_11 : decode cX9_feed 11 = .ok (.iadd, 1) := by decide +kernel
theorem dX9_feed_12 : decode cX9_feed 12 = .ok (.sipush 500, 3) := by decide +kernel
theorem dX9_feed_15 : decode cX9_feed 15 = .ok (.if_icmp .le 5, 3) := by decide +kernel
theorem dX9_feed_20 : decode cX9_feed 20 = .ok (.aload_n 0, 1) := by decide +kernel
theorem dX9_feed_21 : decode cX9_feed 21 = .ok (.iload_n 1, 1) := by decide +kernel
theorem dX9_feed_22 : decode cX9_feed 22 = .ok (.invokevirtual 88, 3) := by decide +kernel
theorem dX9_feed_25 : decode cX9_feed 25 = .ok (.aload_n 0, 1) := by decide +kernel
theorem dX9_feed_26 : decode cX9_feed 26 = .ok (.iload_n 2, 1) := by decide +kernel
theorem dX9_feed_27 : decode cX9_feed 27 = .ok (.invokevirtual 88, 3) := by decide +kernel
theorem dX9_feed_30 : decode cX9_feed 30 = .ok (.aload_n 0, 1) := by decide +kernel
theorem dX9_feed_31 : decode cX9_feed 31 = .ok (.iload_n 3, 1) := by decide +kernel
theorem dX9_feed_32 : decode cX9_feed 32 = .ok (.invokevirtual 88, 3) := by decide +kernel
theorem dX9_feed_35 : decode cX9_feed 35 = .ok (.aload_n 0, 1) := by decide +kernel
theorem dX9_feed_36 : decode cX9_feed 36 = .ok (.iload 4, 2) := by decide +kernel
theorem dX9_feed_38 : decode cX9_feed 38 = .ok (.invokevirtual 88, 3) := by decide +kernel
theorem dX9_feed_41 : decode cX9_feed 41 = .ok (.aload_n 0, 1) := by decide +kernel
theorem dX9_feed_42 : decode cX9_feed 42 = .ok (.iload 5, 2) := by decide +kernel
theorem dX9_feed_44 : decode cX9_feed 44 = .ok (.invokevirtual 88, 3) := by decide +kernel
theorem dX9_feed_47 : decode cX9_feed 47 = .ok (.aload_n 0, 1) := by decide +kernel
theorem dX9_feed_48 : decode cX9_feed 48 = .ok (.getfield 85, 3) := by decide +kernel
theorem dX9_feed_51 : decode cX9_feed 51 = .ok (.ireturn, 1) := by decide +kernel
theorem dX9_fits_0 : decode cX9_fits 0 = .ok (.aload_n 0, 1) := by decide +kernel
theorem dX9_fits_1 : decode cX9_fits 1 = .ok (.iconst 0, 1) := by decide +kernel
theorem dX9_fits_2 : decode cX9_fits 2 = .ok (.putfield 68, 3) := by decide +kernel
theorem dX9_fits_5 : decode cX9_fits 5 = .ok (.aload_n 0, 1) := by decide +kernel
theorem dX9_fits_6 : decode cX9_fits 6 = .ok (.iload_n 1, 1) := by decide +kernel
theorem dX9_fits_7 : decode cX9_fits 7 = .ok (.aload_n 0, 1) := by decide +kernel
theorem dX9_fits_8 : decode cX9_fits 8 = .ok (.iload_n 2, 1) := by decide +kernel
theorem dX9_fits_9 : decode cX9_fits 9 = .ok (.invokevirtual 216, 3) := by decide +kernel
theorem dX9_fits_12 : decode cX9_fits 12 = .ok (.invokevirtual 358, 3) := by decide +kernel
theorem dX9_fits_15 : decode cX9_fits 15 = .ok (.istore_n 3, 1) := by decide +kernel
theorem dX9_fits_16 : decode cX9_fits 16 = .ok (.iload_n 3, 1) := by decide +kernel
theorem dX9_fits_17 : decode cX9_fits 17 = .ok (.ifCond .eq 5, 3) := by decide +kernel
theorem dX9_fits_20 : decode cX9_fits 20 = .ok (.iload_n 3, 1) := by decide +kernel
theorem dX9_fits_21 : decode cX9_fits 21 = .ok (.ireturn, 1) := by decide +kernel
theorem dX9_flips_0 : decode cX9_flips 0 = .ok (.aload_n 0, 1) := by decide +kernel
theorem dX9_flips_1 : decode cX9_flips 1 = .ok (.iconst 0, 1) := by decide +kernel
theorem dX9_flips_2 : decode cX9_flips 2 = .ok (.putfield 68, 3) := by decide +kernel
theorem dX9_flips_5 : decode cX9_flips 5 = .ok (.aload_n 0, 1) := by decide +kernel
theorem dX9_flips_6 : decode cX9_flips 6 = .ok (.iload_n 1, 1) := by decide +kernel
theorem dX9_flips_7 : decode cX9_flips 7 = .ok (.invokevirtual 268, 3) := by decide +kernel
theorem dX9_flips_10 : decode cX9_flips 10 = .ok (.ifCond .ne 6, 3) := by decide +kernel
theorem dX9_flips_13 : decode cX9_flips 13 = .ok (.bipush (-2), 2) := by decide +kernel
theorem dX9_flips_15 : decode cX9_flips 15 = .ok (.ireturn, 1) := by decide +kernel
theorem dX9_four_0 : decode cX9_four 0 = .ok (.bipush 24, 2) := by decide +kernel
theorem dX9_four_2 : decode cX9_four 2 = .ok (.istore_n 2, 1) := by decide +kernel
theorem dX9_four_3 : decode cX9_four 3 = .ok (.iload_n 2, 1) := by decide +kernel
theorem dX9_four_4 : decode cX9_four 4 = .ok (.ifCond .lt 32, 3) := by decide +kernel
theorem dX9_four_7 : decode cX9_four 7 = .ok (.aload_n 0, 1) := by decide +kernel
theorem dX9_four_8 : decode cX9_four 8 = .ok (.getfield 23, 3) := by decide +kernel
theorem dX9_four_11 : decode cX9_four 11 = .ok (.aload_n 0, 1) := by decide +kernel
theorem dX9_four_12 : decode cX9_four 12 = .ok (.getfield 85, 3) := by decide +kernel
theorem dX9_four_15 : decode cX9_four 15 = .ok (.iload_n 1, 1) := by decide +kernel
theorem dX9_four_16 : decode cX9_four 16 = .ok (.iload_n 2, 1) := by decide +kernel
theorem dX9_four_17 : decode cX9_four 17 = .ok (.ishr, 1) := by decide +kernel
theorem dX9_four_18 : decode cX9_four 18 = .ok (.i2b, 1) := by decide +kernel
theorem dX9_four_19 : decode cX9_four 19 = .ok (.bastore, 1) := by decide +kernel
theorem dX9_four_20 : decode cX9_four 20 = .ok (.aload_n 0, 1) := by decide +kernel
theorem dX9_four_21 : decode cX9_four 21 = .ok (.dup, 1) := by decide +kernel
theorem dX9_four_22 : decode cX9_four 22 = .ok (.getfield 85, 3) := by decide +kernel
theorem dX9_four_25 : decode cX9_four 25 = .ok (.iconst 1, 1) := by decide +kernel
theorem dX9_four_26 : decode cX9_four 26 = .ok (.iadd, 1) := by decide +kernel
theorem dX9_four_27 : decode cX9_four 27 = .ok (.putfield 85, 3) := by decide +kernel
theorem dX9_four_30 : decode cX9_four 30 = .ok (.iinc 2 (-8), 3) := by decide +kernel
theorem dX9_four_33 : decode cX9_four 33 = .ok (.goto (-30), 3) := by decide +kernel
theorem dX9_four_36 : decode cX9_four 36 = .ok (.return_, 1) := by decide +kernel
theorem dX9_gets_0 : decode cX9_gets 0 = .ok (.aload_n 0, 1) := by decide +kernel
theorem dX9_gets_1 : decode cX9_gets 1 = .ok (.iconst 0, 1) := by decide +kernel
theorem dX9_gets_2 : decode cX9_gets 2 = .ok (.putfield 68, 3) := by decide +kernel
theorem dX9_gets_5 : decode cX9_gets 5 = .ok (.aload_n 0, 1) := by decide +kernel
theorem dX9_gets_6 : decode cX9_gets 6 = .ok (.iload_n 1, 1) := by decide +kernel
theorem dX9_gets_7 : decode cX9_gets 7 = .ok (.iload_n 2, 1) := by decide +kernel
theorem dX9_gets_8 : decode cX9_gets 8 = .ok (.invokevirtual 372, 3) := by decide +kernel
theorem dX9_gets_11 : decode cX9_gets 11 = .ok (.ifCond .eq 31, 3) := by decide +kernel
theorem dX9_gets_42 : decode cX9_gets 42 = .ok (.sipush (-1000), 3) := by decide +kernel
theorem dX9_gets_45 : decode cX9_gets 45 = .ok (.ireturn, 1) := by decide +kernel
theorem dX9_grounds_0 : decode cX9_grounds 0 = .ok (.aload_n 0, 1) := by decide +kernel
theorem dX9_grounds_1 : decode cX9_grounds 1 = .ok (.iconst 0, 1) := by decide +kernel
theorem dX9_grounds_2 : decode cX9_grounds 2 = .ok (.putfield 68, 3) := by decide +kernel
theorem dX9_grounds_5 : decode cX9_grounds 5 = .ok (.aload_n 0, 1) := by decide +kernel
theorem dX9_grounds_6 : decode cX9_grounds 6 = .ok (.iload_n 1, 1) := by decide +kernel
theorem dX9_grounds_7 : decode cX9_grounds 7 = .ok (.i2l, 1) := by decide +kernel
theorem dX9_grounds_8 : decode cX9_grounds 8 = .ok (.invokevirtual 289, 3) := by decide +kernel
theorem dX9_grounds_11 : decode cX9_grounds 11 = .ok (.ifCond .ne 6, 3) := by decide +kernel
theorem dX9_grounds_14 : decode cX9_grounds 14 = .ok (.bipush (-2), 2) := by decide +kernel
theorem dX9_grounds_16 : decode cX9_grounds 16 = .ok (.ireturn, 1) := by decide +kernel
theorem dX9_half_0 : decode cX9_half 0 = .ok (.aload_n 0, 1) := by decide +kernel
theorem dX9_half_1 : decode cX9_half 1 = .ok (.iconst 0, 1) := by decide +kernel
theorem dX9_half_2 : decode cX9_half 2 = .ok (.putfield 68, 3) := by decide +kernel
theorem dX9_half_5 : decode cX9_half 5 = .ok (.aload_n 0, 1) := by decide +kernel
theorem dX9_half_6 : decode cX9_half 6 = .ok (.iload_n 1, 1) := by decide +kernel
theorem dX9_half_7 : decode cX9_half 7 = .ok (.i2l, 1) := by decide +kernel
theorem dX9_half_8 : decode cX9_half 8 = .ok (.invokevirtual 289, 3) := by decide +kernel
theorem dX9_half_11 : decode cX9_half 11 = .ok (.ifCond .ne 6, 3) := by decide +kernel
theorem dX9_half_14 : decode cX9_half 14 = .ok (.bipush (-2), 2) := by decide +kernel
theorem dX9_half_16 : decode cX9_half 16 = .ok (.ireturn, 1) := by decide +kernel
theorem dX9_hears_0 : decode cX9_hears 0 = .ok (.aload_n 0, 1) := by decide +kernel
theorem dX9_hears_1 : decode cX9_hears 1 = .ok (.iconst 0, 1) := by decide +kernel
theorem dX9_hears_2 : decode cX9_hears 2 = .ok (.putfield 68, 3) := by decide +kernel
theorem dX9_hears_5 : decode cX9_hears 5 = .ok (.aload_n 0, 1) := by decide +kernel
theorem dX9_hears_6 : decode cX9_hears 6 = .ok (.iload_n 1, 1) := by decide +kernel
theorem dX9_hears_7 : decode cX9_hears 7 = .ok (.i2l, 1) := by decide +kernel
theorem dX9_hears_8 : decode cX9_hears 8 = .ok (.invokevirtual 289, 3) := by decide +kernel
theorem dX9_hears_11 : decode cX9_hears 11 = .ok (.ifCond .ne 6, 3) := by decide +kernel
theorem dX9_hears_14 : decode cX9_hears 14 = .ok (.bipush (-2), 2) := by decide +kernel
theorem dX9_hears_16 : decode cX9_hears 16 = .ok (.ireturn, 1) := by decide +kernel
theorem dX9_high_0 : decode cX9_high 0 = .ok (.aload_n 0, 1) := by decide +kernel
theorem dX9_high_1 : decode cX9_high 1 = .ok (.iconst 0, 1) := by decide +kernel
theorem dX9_high_2 : decode cX9_high 2 = .ok (.putfield 68, 3) := by decide +kernel
theorem dX9_high_5 : decode cX9_high 5 = .ok (.aload_n 0, 1) := by decide +kernel
theorem dX9_high_6 : decode cX9_high 6 = .ok (.iload_n 1, 1) := by decide +kernel
theorem dX9_high_7 : decode cX9_high 7 = .ok (.aload_n 0, 1) := by decide +kernel
theorem dX9_high_8 : decode cX9_high 8 = .ok (.iload_n 2, 1) := by decide +kernel
theorem dX9_high_9 : decode cX9_high 9 = .ok (.invokevirtual 216, 3) := by decide +kernel
theorem dX9_high_12 : decode cX9_high 12 = .ok (.invokevirtual 358, 3) := by decide +kernel
theorem dX9_high_15 : decode cX9_high 15 = .ok (.istore_n 3, 1) := by decide +kernel
theorem dX9_high_16 : decode cX9_high 16 = .ok (.iload_n 3, 1) := by decide +kernel
theorem dX9_high_17 : decode cX9_high 17 = .ok (.ifCond .eq 5, 3) := by decide +kernel
theorem dX9_high_20 : decode cX9_high 20 = .ok (.iload_n 3, 1) := by decide +kernel
theorem dX9_high_21 : decode cX9_high 21 = .ok (.ireturn, 1) := by decide +kernel
theorem dX9_image_0 : decode cX9_image 0 = .ok (.aload_n 0, 1) := by decide +kernel
theorem dX9_image_1 : decode cX9_image 1 = .ok (.iconst 0, 1) := by decide +kernel
theorem dX9_image_2 : decode cX9_image 2 = .ok (.putfield 68, 3) := by decide +kernel
theorem dX9_image_5 : decode cX9_image 5 = .ok (.iload_n 1, 1) := by decide +kernel
theorem dX9_image_6 : decode cX9_image 6 = .ok (.i2l, 1) := by decide +kernel
theorem dX9_image_7 : decode cX9_image 7 = .ok (.lconst 0, 1) := by decide +kernel
theorem dX9_image_8 : decode cX9_image 8 = .ok (.ldc2_w 281, 3) := by decide +kernel
theorem dX9_image_11 : decode cX9_image 11 = .ok (.invokestatic 73, 3) := by decide +kernel
theorem dX9_image_14 : decode cX9_image 14 = .ok (.ifCond .ne 6, 3) := by decide +kernel
theorem dX9_image_17 : decode cX9_image 17 = .ok (.bipush (-2), 2) := by decide +kernel
theorem dX9_image_19 : decode cX9_image 19 = .ok (.ireturn, 1) := by decide +kernel
theorem dX9_image_20 : decode cX9_image 20 = .ok (.aload_n 0, 1) := by decide +kernel
theorem dX9_image_21 : decode cX9_image 21 = .ok (.iconst 0, 1) := by decide +kernel
theorem dX9_image_22 : decode cX9_image 22 = .ok (.iconst 1, 1) := by decide +kernel
theorem dX9_image_23 : decode cX9_image 23 = .ok (.iload_n 1, 1) := by decide +kernel
theorem dX9_image_24 : decode cX9_image 24 = .ok (.iadd, 1) := by decide +kernel
theorem dX9_image_25 : decode cX9_image 25 = .ok (.invokevirtual 205, 3) := by decide +kernel
theorem dX9_image_28 : decode cX9_image 28 = .ok (.aload_n 0, 1) := by decide +kernel
theorem dX9_image_29 : decode cX9_image 29 = .ok (.getfield 46, 3) := by decide +kernel
theorem dX9_image_32 : decode cX9_image 32 = .ok (.iload_n 1, 1) := by decide +kernel
theorem dX9_image_33 : decode cX9_image 33 = .ok (.iconst 1, 1) := by decide +kernel
theorem dX9_image_34 : decode cX9_image 34 = .ok (.bastore, 1) := by decide +kernel
theorem dX9_image_35 : decode cX9_image 35 = .ok (.iconst 0, 1) := by decide +kernel
theorem dX9_image_36 : decode cX9_image 36 = .ok (.ireturn, 1) := by decide +kernel
theorem dX9_in_0 : decode cX9_in 0 = .ok (.lload_n 0, 1) := by decide +kernel
theorem dX9_in_1 : decode cX9_in 1 = .ok (.lload_n 2, 1) := by decide +kernel
theorem dX9_in_2 : decode cX9_in 2 = .ok (.lcmp, 1) := by decide +kernel
theorem dX9_in_3 : decode cX9_in 3 = .ok (.ifCond .lt 14, 3) := by decide +kernel
theorem dX9_in_6 : decode cX9_in 6 = .ok (.lload_n 0, 1) := by decide +kernel
theorem dX9_in_7 : decode cX9_in 7 = .ok (.lload 4, 2) := by decide +kernel
theorem dX9_in_9 : decode cX9_in 9 = .ok (.lcmp, 1) := by decide +kernel
theorem dX9_in_10 : decode cX9_in 10 = .ok (.ifCond .gt 7, 3) := by decide +kernel
theorem dX9_in_13 : decode cX9_in 13 = .ok (.iconst 1, 1) := by decide +kernel
theorem dX9_in_14 : decode cX9_in 14 = .ok (.goto 4, 3) := by decide +kernel
theorem dX9_in_17 : decode cX9_in 17 = .ok (.iconst 0, 1) := by decide +kernel
theorem dX9_in_18 : decode cX9_in 18 = .ok (.ireturn, 1) := by decide +kernel
theorem dX9_init_0 : decode cX9_init 0 = .ok (.aload_n 0, 1) := by decide +kernel
theorem dX9_init_1 : decode cX9_init 1 = .ok (.invokespecial 1, 3) := by decide +kernel
theorem dX9_init_4 : decode cX9_init 4 = .ok (.aload_n 0, 1) := by decide +kernel
theorem dX9_init_5 : decode cX9_init 5 = .ok (.iconst 4, 1) := by decide +kernel
theorem dX9_init_6 : decode cX9_init 6 = .ok (.newarray .int, 2) := by decide +kernel
theorem dX9_init_8 : decode cX9_init 8 = .ok (.putfield 7, 3) := by decide +kernel
theorem dX9_init_11 : decode cX9_init 11 = .ok (.aload_n 0, 1) := by decide +kernel
