theorem dX9_draws_62 : decode cX9_draws 62 = .ok (.iconst 1, 1) := by decide +kernel
theorem dX9_draws_63 : decode cX9_draws 63 = .ok (.iload 5, 2) := by decide +kernel
theorem dX9_draws_65 : decode cX9_draws 65 = .ok (.ishl, 1) := by decide +kernel
theorem dX9_draws_66 : decode cX9_draws 66 = .ok (.goto 4, 3) := by decide +kernel
theorem dX9_draws_69 : decode cX9_draws 69 = .ok (.iconst 0, 1) := by decide +kernel
theorem dX9_draws_70 : decode cX9_draws 70 = .ok (.ior, 1) := by decide +kernel
theorem dX9_draws_71 : decode cX9_draws 71 = .ok (.putfield 228, 3) := by decide +kernel
theorem dX9_draws_74 : decode cX9_draws 74 = .ok (.iinc 5 1, 3) := by decide +kernel
theorem dX9_draws_77 : decode cX9_draws 77 = .ok (.goto (-63), 3) := by decide +kernel
theorem dX9_draws_80 : decode cX9_draws 80 = .ok (.return_, 1) := by decide +kernel
theorem dX9_dry_0 : decode cX9_dry 0 = .ok (.aload_n 0, 1) := by decide +kernel
theorem dX9_dry_1 : decode cX9_dry 1 = .ok (.iconst 0, 1) := by decide +kernel
theorem dX9_dry_2 : decode cX9_dry 2 = .ok (.putfield 68, 3) := by decide +kernel
theorem dX9_dry_5 : decode cX9_dry 5 = .ok (.aload_n 0, 1) := by decide +kernel
theorem dX9_dry_6 : decode cX9_dry 6 = .ok (.invokevirtual 219, 3) := by decide +kernel
theorem dX9_dry_9 : decode cX9_dry 9 = .ok (.ifCond .eq 11, 3) := by decide +kernel
theorem dX9_dry_12 : decode cX9_dry 12 = .ok (.aload_n 0, 1) := by decide +kernel
theorem dX9_dry_13 : decode cX9_dry 13 = .ok (.iconst 0, 1) := by decide +kernel
theorem dX9_dry_14 : decode cX9_dry 14 = .ok (.invokevirtual 317, 3) := by decide +kernel
theorem dX9_dry_17 : decode cX9_dry 17 = .ok (.goto 5, 3) := by decide +kernel
theorem dX9_dry_20 : decode cX9_dry 20 = .ok (.bipush (-2), 2) := by decide +kernel
theorem dX9_dry_22 : decode cX9_dry 22 = .ok (.ireturn, 1) := by decide +kernel
theorem dX9_earth_0 : decode cX9_earth 0 = .ok (.aload_n 0, 1) := by decide +kernel
theorem dX9_earth_1 : decode cX9_earth 1 = .ok (.iconst 0, 1) := by decide +kernel
theorem dX9_earth_2 : decode cX9_earth 2 = .ok (.putfield 68, 3) := by decide +kernel
theorem dX9_earth_5 : decode cX9_earth 5 = .ok (.aload_n 0, 1) := by decide +kernel
theorem dX9_earth_6 : decode cX9_earth 6 = .ok (.iload_n 1, 1) := by decide +kernel
theorem dX9_earth_7 : decode cX9_earth 7 = .ok (.iload_n 2, 1) := by decide +kernel
theorem dX9_earth_8 : decode cX9_earth 8 = .ok (.iload_n 3, 1) := by decide +kernel
theorem dX9_earth_9 : decode cX9_earth 9 = .ok (.invokevirtual 301, 3) := by decide +kernel
theorem dX9_earth_12 : decode cX9_earth 12 = .ok (.ifCond .ne 7, 3) := by decide +kernel
theorem dX9_earth_15 : decode cX9_earth 15 = .ok (.ldc2_w 295, 3) := by decide +kernel
theorem dX9_earth_18 : decode cX9_earth 18 = .ok (.lreturn, 1) := by decide +kernel
theorem dX9_earth_19 : decode cX9_earth 19 = .ok (.aload_n 0, 1) := by decide +kernel
theorem dX9_earth_20 : decode cX9_earth 20 = .ok (.invokevirtual 286, 3) := by decide +kernel
theorem dX9_earth_23 : decode cX9_earth 23 = .ok (.aload_n 0, 1) := by decide +kernel
theorem dX9_earth_24 : decode cX9_earth 24 = .ok (.iload_n 2, 1) := by decide +kernel
theorem dX9_earth_25 : decode cX9_earth 25 = .ok (.invokevirtual 262, 3) := by decide +kernel
theorem dX9_earth_28 : decode cX9_earth 28 = .ok (.iload_n 1, 1) := by decide +kernel
theorem dX9_earth_29 : decode cX9_earth 29 = .ok (.aload_n 0, 1) := by decide +kernel
theorem dX9_earth_30 : decode cX9_earth 30 = .ok (.getfield 250, 3) := by decide +kernel
theorem dX9_earth_33 : decode cX9_earth 33 = .ok (.if_icmp .lt 8, 3) := by decide +kernel
theorem dX9_earth_36 : decode cX9_earth 36 = .ok (.iload_n 3, 1) := by decide +kernel
theorem dX9_earth_37 : decode cX9_earth 37 = .ok (.i2l, 1) := by decide +kernel
theorem dX9_earth_38 : decode cX9_earth 38 = .ok (.goto 31, 3) := by decide +kernel
theorem dX9_earth_41 : decode cX9_earth 41 = .ok (.aload_n 0, 1) := by decide +kernel
theorem dX9_earth_42 : decode cX9_earth 42 = .ok (.getfield 237, 3) := by decide +kernel
theorem dX9_earth_45 : decode cX9_earth 45 = .ok (.i2l, 1) := by decide +kernel
theorem dX9_earth_46 : decode cX9_earth 46 = .ok (.aload_n 0, 1) := by decide +kernel
theorem dX9_earth_47 : decode cX9_earth 47 = .ok (.getfield 56, 3) := by decide +kernel
theorem dX9_earth_50 : decode cX9_earth 50 = .ok (.iload_n 1, 1) := by decide +kernel
theorem dX9_earth_51 : decode cX9_earth 51 = .ok (.laload, 1) := by decide +kernel
theorem dX9_earth_52 : decode cX9_earth 52 = .ok (.aload_n 0, 1) := by decide +kernel
theorem dX9_earth_53 : decode cX9_earth 53 = .ok (.iload_n 1, 1) := by decide +kernel
theorem dX9_earth_54 : decode cX9_earth 54 = .ok (.iload_n 2, 1) := by decide +kernel
theorem dX9_earth_55 : decode cX9_earth 55 = .ok (.invokevirtual 256, 3) := by decide +kernel
theorem dX9_earth_58 : decode cX9_earth 58 = .ok (.i2l, 1) := by decide +kernel
theorem dX9_earth_59 : decode cX9_earth 59 = .ok (.ldiv, 1) := by decide +kernel
theorem dX9_earth_60 : decode cX9_earth 60 = .ok (.lmul, 1) := by decide +kernel
theorem dX9_earth_61 : decode cX9_earth 61 = .ok (.aload_n 0, 1) := by decide +kernel
theorem dX9_earth_62 : decode cX9_earth 62 = .ok (.getfield 259, 3) := by decide +kernel
theorem dX9_earth_65 : decode cX9_earth 65 = .ok (.iload_n 3, 1) := by decide +kernel
theorem dX9_earth_66 : decode cX9_earth 66 = .ok (.invokestatic 297, 3) := by decide +kernel
theorem dX9_earth_69 : decode cX9_earth 69 = .ok (.lreturn, 1) := by decide +kernel
theorem dX9_end_0 : decode cX9_end 0 = .ok (.aload_n 0, 1) := by decide +kernel
theorem dX9_end_1 : decode cX9_end 1 = .ok (.iconst 0, 1) := by decide +kernel
theorem dX9_end_2 : decode cX9_end 2 = .ok (.putfield 68, 3) := by decide +kernel
theorem dX9_end_5 : decode cX9_end 5 = .ok (.iload_n 1, 1) := by decide +kernel
theorem dX9_end_6 : decode cX9_end 6 = .ok (.i2l, 1) := by decide +kernel
theorem dX9_end_7 : decode cX9_end 7 = .ok (.lconst 0, 1) := by decide +kernel
theorem dX9_end_8 : decode cX9_end 8 = .ok (.aload_n 0, 1) := by decide +kernel
theorem dX9_end_9 : decode cX9_end 9 = .ok (.getfield 85, 3) := by decide +kernel
theorem dX9_end_12 : decode cX9_end 12 = .ok (.i2l, 1) := by decide +kernel
theorem dX9_end_13 : decode cX9_end 13 = .ok (.invokestatic 73, 3) := by decide +kernel
theorem dX9_end_16 : decode cX9_end 16 = .ok (.ifCond .ne 5, 3) := by decide +kernel
theorem dX9_end_19 : decode cX9_end 19 = .ok (.iconst (-1), 1) := by decide +kernel
theorem dX9_end_20 : decode cX9_end 20 = .ok (.ireturn, 1) := by decide +kernel
theorem dX9_end_21 : decode cX9_end 21 = .ok (.aload_n 0, 1) := by decide +kernel
theorem dX9_end_22 : decode cX9_end 22 = .ok (.iload_n 1, 1) := by decide +kernel
theorem dX9_end_23 : decode cX9_end 23 = .ok (.putfield 85, 3) := by decide +kernel
theorem dX9_end_26 : decode cX9_end 26 = .ok (.iload_n 1, 1) := by decide +kernel
theorem dX9_end_27 : decode cX9_end 27 = .ok (.ireturn, 1) := by decide +kernel
theorem dX9_ends_0 : decode cX9_ends 0 = .ok (.aload_n 0, 1) := by decide +kernel
theorem dX9_ends_1 : decode cX9_ends 1 = .ok (.iconst 0, 1) := by decide +kernel
theorem dX9_ends_2 : decode cX9_ends 2 = .ok (.putfield 68, 3) := by decide +kernel
theorem dX9_ends_5 : decode cX9_ends 5 = .ok (.aload_n 0, 1) := by decide +kernel
theorem dX9_ends_6 : decode cX9_ends 6 = .ok (.iload_n 1, 1) := by decide +kernel
theorem dX9_ends_7 : decode cX9_ends 7 = .ok (.i2l, 1) := by decide +kernel
theorem dX9_ends_8 : decode cX9_ends 8 = .ok (.invokevirtual 289, 3) := by decide +kernel
theorem dX9_ends_11 : decode cX9_ends 11 = .ok (.ifCond .ne 6, 3) := by decide +kernel
theorem dX9_ends_14 : decode cX9_ends 14 = .ok (.bipush (-2), 2) := by decide +kernel
theorem dX9_ends_16 : decode cX9_ends 16 = .ok (.ireturn, 1) := by decide +kernel
theorem dX9_ends_17 : decode cX9_ends 17 = .ok (.aload_n 0, 1) := by decide +kernel
theorem dX9_ends_18 : decode cX9_ends 18 = .ok (.invokevirtual 286, 3) := by decide +kernel
theorem dX9_ends_21 : decode cX9_ends 21 = .ok (.aload_n 0, 1) := by decide +kernel
theorem dX9_ends_22 : decode cX9_ends 22 = .ok (.iload_n 1, 1) := by decide +kernel
theorem dX9_ends_23 : decode cX9_ends 23 = .ok (.invokevirtual 262, 3) := by decide +kernel
theorem dX9_ends_26 : decode cX9_ends 26 = .ok (.aload_n 0, 1) := by decide +kernel
theorem dX9_ends_27 : decode cX9_ends 27 = .ok (.getfield 250, 3) := by decide +kernel
theorem dX9_ends_30 : decode cX9_ends 30 = .ok (.iconst 1, 1) := by decide +kernel
theorem dX9_ends_31 : decode cX9_ends 31 = .ok (.isub, 1) := by decide +kernel
theorem dX9_ends_32 : decode cX9_ends 32 = .ok (.ireturn, 1) := by decide +kernel
theorem dX9_fails_0 : decode cX9_fails 0 = .ok (.aload_n 0, 1) := by decide +kernel
theorem dX9_fails_1 : decode cX9_fails 1 = .ok (.getfield 120, 3) := by decide +kernel
theorem dX9_fails_4 : decode cX9_fails 4 = .ok (.ifCond .eq 4, 3) := by decide +kernel
theorem dX9_fails_7 : decode cX9_fails 7 = .ok (.return_, 1) := by decide +kernel
theorem dX9_fails_8 : decode cX9_fails 8 = .ok (.aload_n 0, 1) := by decide +kernel
theorem dX9_fails_9 : decode cX9_fails 9 = .ok (.iload_n 1, 1) := by decide +kernel
theorem dX9_fails_10 : decode cX9_fails 10 = .ok (.putfield 120, 3) := by decide +kernel
theorem dX9_fails_13 : decode cX9_fails 13 = .ok (.aload_n 0, 1) := by decide +kernel
theorem dX9_fails_14 : decode cX9_fails 14 = .ok (.aload_n 0, 1) := by decide +kernel
theorem dX9_fails_15 : decode cX9_fails 15 = .ok (.getfield 99, 3) := by decide +kernel
theorem dX9_fails_18 : decode cX9_fails 18 = .ok (.putfield 123, 3) := by decide +kernel
theorem dX9_fails_21 : decode cX9_fails 21 = .ok (.return_, 1) := by decide +kernel
theorem dX9_faint_0 : decode cX9_faint 0 = .ok (.aload_n 0, 1) := by decide +kernel
theorem dX9_faint_1 : decode cX9_faint 1 = .ok (.iconst 0, 1) := by decide +kernel
theorem dX9_faint_2 : decode cX9_faint 2 = .ok (.putfield 68, 3) := by decide +kernel
theorem dX9_faint_5 : decode cX9_faint 5 = .ok (.aload_n 0, 1) := by decide +kernel
theorem dX9_faint_6 : decode cX9_faint 6 = .ok (.iload_n 1, 1) := by decide +kernel
theorem dX9_faint_7 : decode cX9_faint 7 = .ok (.i2l, 1) := by decide +kernel
theorem dX9_faint_8 : decode cX9_faint 8 = .ok (.invokevirtual 289, 3) := by decide +kernel
theorem dX9_faint_11 : decode cX9_faint 11 = .ok (.ifCond .ne 6, 3) := by decide +kernel
theorem dX9_faint_14 : decode cX9_faint 14 = .ok (.bipush (-2), 2) := by decide +kernel
theorem dX9_faint_16 : decode cX9_faint 16 = .ok (.ireturn, 1) := by decide +kernel
theorem dX9_faint_17 : decode cX9_faint 17 = .ok (.aload_n 0, 1) := by decide +kernel
theorem dX9_faint_18 : decode cX9_faint 18 = .ok (.invokevirtual 286, 3) := by decide +kernel
theorem dX9_faint_21 : decode cX9_faint 21 = .ok (.aload_n 0, 1) := by decide +kernel
theorem dX9_faint_22 : decode cX9_faint 22 = .ok (.iload_n 1, 1) := by decide +kernel
theorem dX9_faint_23 : decode cX9_faint 23 = .ok (.invokevirtual 262, 3) := by decide +kernel
theorem dX9_faint_26 : decode cX9_faint 26 = .ok (.iconst (-1), 1) := by decide +kernel
theorem dX9_faint_27 : decode cX9_faint 27 = .ok (.istore_n 2, 1) := by decide +kernel
theorem dX9_faint_28 : decode cX9_faint 28 = .ok (.iconst 0, 1) := by decide +kernel
theorem dX9_faint_29 : decode cX9_faint 29 = .ok (.istore_n 3, 1) := by decide +kernel
theorem dX9_faint_30 : decode cX9_faint 30 = .ok (.iload_n 3, 1) := by decide +kernel
theorem dX9_faint_31 : decode cX9_faint 31 = .ok (.aload_n 0, 1) := by decide +kernel
theorem dX9_faint_32 : decode cX9_faint 32 = .ok (.invokevirtual 212, 3) := by decide +kernel
theorem dX9_faint_35 : decode cX9_faint 35 = .ok (.if_icmp .ge 38, 3) := by decide +kernel
theorem dX9_faint_38 : decode cX9_faint 38 = .ok (.aload_n 0, 1) := by decide +kernel
theorem dX9_faint_39 : decode cX9_faint 39 = .ok (.iload_n 3, 1) := by decide +kernel
theorem dX9_faint_40 : decode cX9_faint 40 = .ok (.invokevirtual 268, 3) := by decide +kernel
theorem dX9_faint_43 : decode cX9_faint 43 = .ok (.ifCond .eq 24, 3) := by decide +kernel
theorem dX9_faint_46 : decode cX9_faint 46 = .ok (.iload_n 2, 1) := by decide +kernel
theorem dX9_faint_47 : decode cX9_faint 47 = .ok (.iconst (-1), 1) := by decide +kernel
theorem dX9_faint_48 : decode cX9_faint 48 = .ok (.if_icmp .eq 17, 3) := by decide +kernel
theorem dX9_faint_51 : decode cX9_faint 51 = .ok (.aload_n 0, 1) := by decide +kernel
theorem dX9_faint_52 : decode cX9_faint 52 = .ok (.iload_n 3, 1) := by decide +kernel
theorem dX9_faint_53 : decode cX9_faint 53 = .ok (.invokevirtual 304, 3) := by decide +kernel
theorem dX9_faint_56 : decode cX9_faint 56 = .ok (.aload_n 0, 1) := by decide +kernel
theorem dX9_faint_57 : decode cX9_faint 57 = .ok (.iload_n 2, 1) := by decide +kernel
theorem dX9_faint_58 : decode cX9_faint 58 = .ok (.invokevirtual 304, 3) := by decide +kernel
theorem dX9_faint_61 : decode cX9_faint 61 = .ok (.lcmp, 1) := by decide +kernel
theorem dX9_faint_62 : decode cX9_faint 62 = .ok (.ifCond .gt 5, 3) := by decide +kernel
theorem dX9_faint_65 : decode cX9_faint 65 = .ok (.iload_n 3, 1) := by decide +kernel
theorem dX9_faint_66 : decode cX9_faint 66 = .ok (.istore_n 2, 1) := by decide +kernel
theorem dX9_faint_67 : decode cX9_faint 67 = .ok (.iinc 3 1, 3) := by decide +kernel
theorem dX9_faint_70 : decode cX9_faint 70 = .ok (.goto (-40), 3) := by decide +kernel
theorem dX9_faint_73 : decode cX9_faint 73 = .ok (.iload_n 2, 1) := by decide +kernel
theorem dX9_faint_74 : decode cX9_faint 74 = .ok (.ireturn, 1) := by decide +kernel
theorem dX9_falls_0 : decode cX9_falls 0 = .ok (.aload_n 0, 1) := by decide +kernel
theorem dX9_falls_1 : decode cX9_falls 1 = .ok (.iconst 0, 1) := by decide +kernel
theorem dX9_falls_2 : decode cX9_falls 2 = .ok (.putfield 68, 3) := by decide +kernel
theorem dX9_falls_5 : decode cX9_falls 5 = .ok (.aload_n 0, 1) := by decide +kernel
theorem dX9_falls_6 : decode cX9_falls 6 = .ok (.iload_n 1, 1) := by decide +kernel
theorem dX9_falls_7 : decode cX9_falls 7 = .ok (.iload_n 2, 1) := by decide +kernel
theorem dX9_falls_8 : decode cX9_falls 8 = .ok (.iload_n 3, 1) := by decide +kernel
theorem dX9_falls_9 : decode cX9_falls 9 = .ok (.invokevirtual 301, 3) := by decide +kernel
theorem dX9_falls_12 : decode cX9_falls 12 = .ok (.ifCond .ne 7, 3) := by decide +kernel
theorem dX9_falls_15 : decode cX9_falls 15 = .ok (.ldc2_w 295, 3) := by decide +kernel
theorem dX9_falls_18 : decode cX9_falls 18 = .ok (.lreturn, 1) := by decide +kernel
theorem dX9_falls_19 : decode cX9_falls 19 = .ok (.aload_n 0, 1) := by decide +kernel
theorem dX9_falls_20 : decode cX9_falls 20 = .ok (.invokevirtual 286, 3) := by decide +kernel
theorem dX9_falls_23 : decode cX9_falls 23 = .ok (.aload_n 0, 1) := by decide +kernel
theorem dX9_falls_24 : decode cX9_falls 24 = .ok (.iload_n 2, 1) := by decide +kernel
theorem dX9_falls_25 : decode cX9_falls 25 = .ok (.invokevirtual 262, 3) := by decide +kernel
theorem dX9_falls_28 : decode cX9_falls 28 = .ok (.iload_n 1, 1) := by decide +kernel
theorem dX9_falls_29 : decode cX9_falls 29 = .ok (.aload_n 0, 1) := by decide +kernel
theorem dX9_falls_30 : decode cX9_falls 30 = .ok (.getfield 250, 3) := by decide +kernel
theorem dX9_falls_33 : decode cX9_falls 33 = .ok (.if_icmp .lt 8, 3) := by decide +kernel
theorem dX9_falls_36 : decode cX9_falls 36 = .ok (.iload_n 3, 1) := by decide +kernel
theorem dX9_falls_37 : decode cX9_falls 37 = .ok (.i2l, 1) := by decide +kernel
theorem dX9_falls_38 : decode cX9_falls 38 = .ok (.goto 30, 3) := by decide +kernel
theorem dX9_falls_41 : decode cX9_falls 41 = .ok (.aload_n 0, 1) := by decide +kernel
theorem dX9_falls_42 : decode cX9_falls 42 = .ok (.getfield 237, 3) := by decide +kernel
theorem dX9_falls_45 : decode cX9_falls 45 = .ok (.aload_n 0, 1) := by decide +kernel
theorem dX9_falls_46 : decode cX9_falls 46 = .ok (.getfield 50, 3) := by decide +kernel
theorem dX9_falls_49 : decode cX9_falls 49 = .ok (.iload_n 1, 1) := by decide +kernel
theorem dX9_falls_50 : decode cX9_falls 50 = .ok (.iaload, 1) := by decide +kernel
theorem dX9_falls_51 : decode cX9_falls 51 = .ok (.imul, 1) := by decide +kernel
theorem dX9_falls_52 : decode cX9_falls 52 = .ok (.i2l, 1) := by decide +kernel
theorem dX9_falls_53 : decode cX9_falls 53 = .ok (.aload_n 0, 1) := by decide +kernel
theorem dX9_falls_54 : decode cX9_falls 54 = .ok (.getfield 59, 3) := by decide +kernel
theorem dX9_falls_57 : decode cX9_falls 57 = .ok (.iload_n 1, 1) := by decide +kernel
theorem dX9_falls_58 : decode cX9_falls 58 = .ok (.laload, 1) := by decide +kernel
theorem dX9_falls_59 : decode cX9_falls 59 = .ok (.lmul, 1) := by decide +kernel
theorem dX9_falls_60 : decode cX9_falls 60 = .ok (.aload_n 0, 1) := by decide +kernel
theorem dX9_falls_61 : decode cX9_falls 61 = .ok (.getfield 259, 3) := by decide +kernel
theorem dX9_falls_64 : decode cX9_falls 64 = .ok (.iload_n 3, 1) := by decide +kernel
theorem dX9_falls_65 : decode cX9_falls 65 = .ok (.invokestatic 297, 3) := by decide +kernel
theorem dX9_falls_68 : decode cX9_falls 68 = .ok (.lreturn, 1) := by decide +kernel
theorem dX9_fault_0 : decode cX9_fault 0 = .ok (.aload_n 0, 1) := by decide +kernel
theorem dX9_fault_1 : decode cX9_fault 1 = .ok (.iconst 0, 1) := by decide +kernel
theorem dX9_fault_2 : decode cX9_fault 2 = .ok (.putfield 68, 3) := by decide +kernel
theorem dX9_fault_5 : decode cX9_fault 5 = .ok (.iload_n 1, 1) := by decide +kernel
theorem dX9_fault_6 : decode cX9_fault 6 = .ok (.ifCond .ne 10, 3) := by decide +kernel
theorem dX9_fault_9 : decode cX9_fault 9 = .ok (.aload_n 0, 1) := by decide +kernel
theorem dX9_fault_10 : decode cX9_fault 10 = .ok (.getfield 147, 3) := by decide +kernel
theorem dX9_fault_13 : decode cX9_fault 13 = .ok (.goto 16, 3) := by decide +kernel
theorem dX9_fault_16 : decode cX9_fault 16 = .ok (.iload_n 1, 1) := by decide +kernel
theorem dX9_fault_17 : decode cX9_fault 17 = .ok (.iconst 1, 1) := by decide +kernel
theorem dX9_fault_18 : decode cX9_fault 18 = .ok (.if_icmp .ne 10, 3) := by decide +kernel
theorem dX9_fault_21 : decode cX9_fault 21 = .ok (.aload_n 0, 1) := by decide +kernel
theorem dX9_fault_22 : decode cX9_fault 22 = .ok (.getfield 27, 3) := by decide +kernel
theorem dX9_fault_25 : decode cX9_fault 25 = .ok (.goto 4, 3) := by decide +kernel
theorem dX9_fault_28 : decode cX9_fault 28 = .ok (.iconst (-1), 1) := by decide +kernel
theorem dX9_fault_29 : decode cX9_fault 29 = .ok (.ireturn, 1) := by decide +kernel
theorem dX9_feed_0 : decode cX9_feed 0 = .ok (.aload_n 0, 1) := by decide +kernel
theorem dX9_feed_1 : decode cX9_feed 1 = .ok (.iconst 0, 1) := by decide +kernel
theorem dX9_feed_2 : decode cX9_feed 2 = .ok (.putfield 68, 3) := by decide +kernel
theorem dX9_feed_5 : decode cX9_feed 5 = .ok (.aload_n 0, 1) := by decide +kernel
theorem dX9_feed_6 : decode cX9_feed 6 = .ok (.getfield 85, 3) := by decide +kernel
theorem dX9_feed_9 : decode cX9_feed 9 = .ok (.bipush 20, 2) := by decide +kernel
theorem dX9_feed_11 : decode cX9_feed 11 = .ok (.iadd, 1) := by decide +kernel
theorem dX9_feed_12 : decode cX9_feed 12 = .ok (.sipush 500, 3) := by decide +kernel
theorem dX9_feed_15 : decode cX9_feed 15 = .ok (.if_icmp .le 5, 3) := by decide +kernel
theorem dX9_feed_18 : decode cX9_feed 18 = .ok (.iconst (-1), 1) := by decide +kernel
theorem dX9_feed_19 : decode cX9_feed 19 = .ok (.ireturn, 1) := by decide +kernel
theorem dX9_feed_20 : decode cX9_feed 20 = .ok (.aload_n 0, 1) := by decide +kernel
theorem dX9_feed_21 : decode cX9_feed 21 = .ok (.iload_n 1, 1) := by decide +kernel
theorem dX9_feed_22 : decode cX9_feed 22 = .ok (.invokevirtual 88, 3) := by decide +kernel
theorem dX9_feed_25 : decode cX9_feed 25 = .ok (.aload_n 0, 1) := by decide +kernel
theorem dX9_feed_26 : decode cX9_feed 26 = .ok (.iload_n 2, 1) := by decide +kernel
theorem dX9_feed_27 : decode cX9_feed 27 = .ok (.invokevirtual 88, 3) := by decide +kernel
theorem dX9_feed_30 : decode cX9_feed 30 = .ok (.aload_n 0, 1) := by decide +kernel
theorem dX9_feed_31 : decode cX9_feed 31 = .ok (.iload_n 3, 1) := by decide +kernel
theorem dX9_feed_32 : decode cX9_feed 32 = .ok (.invokevirtual 88, 3) := by decide +kernel
theorem dX9_feed_35 : decode cX9_feed 35 = .ok (.aload_n 0, 1) := by decide +kernel
theorem dX9_feed_36 : decode cX9_feed 36 = .ok (.iload 4, 2) := by decide +kernel
theorem dX9_feed_38 : decode cX9_feed 38 = .ok (.invokevirtual 88, 3) := by decide +kernel
theorem dX9_feed_41 : decode cX9_feed 41 = .ok (.aload_n 0, 1) := by decide +kernel
theorem dX9_feed_42 : decode cX9_feed 42 = .ok (.iload 5, 2) := by decide +kernel
theorem dX9_feed_44 : decode cX9_feed 44 = .ok (.invokevirtual 88, 3) := by decide +kernel
theorem dX9_feed_47 : decode cX9_feed 47 = .ok (.aload_n 0, 1) := by decide +kernel
theorem dX9_feed_48 : decode cX9_feed 48 = .ok (.getfield 85, 3) := by decide +kernel
theorem dX9_feed_51 : decode cX9_feed 51 = .ok (.ireturn, 1) := by decide +kernel
theorem dX9_fits_0 : decode cX9_fits 0 = .ok (.aload_n 0, 1) := by decide +kernel
theorem dX9_fits_1 : decode cX9_fits 1 = .ok (.iconst 0, 1) := by decide +kernel
theorem dX9_fits_2 : decode cX9_fits 2 = .ok (.putfield 68, 3) := by decide +kernel
theorem dX9_fits_5 : decode cX9_fits 5 = .ok (.aload_n 0, 1) := by decide +kernel
theorem dX9_fits_6 : decode cX9_fits 6 = .ok (.iload_n 1, 1) := by decide +kernel
theorem dX9_fits_7 : decode cX9_fits 7 = .ok (.aload_n 0, 1) := by decide +kernel
theorem dX9_fits_8 : decode cX9_fits 8 = .ok (.iload_n 2, 1) := by decide +kernel
theorem dX9_fits_9 : decode cX9_fits 9 = .ok (.invokevirtual 216, 3) := by decide +kernel
theorem dX9_fits_12 : decode cX9_fits 12 = .ok (.invokevirtual 358, 3) := by decide +kernel
theorem dX9_fits_15 : decode cX9_fits 15 = .ok (.istore_n 3, 1) := by decide +kernel
theorem dX9_fits_16 : decode cX9_fits 16 = .ok (.iload_n 3, 1) := by decide +kernel
theorem dX9_fits_17 : decode cX9_fits 17 = .ok (.ifCond .eq 5, 3) := by decide +kernel
theorem dX9_fits_20 : decode cX9_fits 20 = .ok (.iload_n 3, 1) := by decide +kernel
theorem dX9_fits_21 : decode cX9_fits 21 = .ok (.ireturn, 1) := by decide +kernel
theorem dX9_fits_22 : decode cX9_fits 22 = .ok (.aload_n 0, 1) := by decide +kernel
theorem dX9_fits_23 : decode cX9_fits 23 = .ok (.iload_n 1, 1) := by decide +kernel
theorem dX9_fits_24 : decode cX9_fits 24 = .ok (.iload_n 2, 1) := by decide +kernel
theorem dX9_fits_25 : decode cX9_fits 25 = .ok (.invokevirtual 362, 3) := by decide +kernel
theorem dX9_fits_28 : decode cX9_fits 28 = .ok (.aload_n 0, 1) := by decide +kernel
theorem dX9_fits_29 : decode cX9_fits 29 = .ok (.getfield 343, 3) := by decide +kernel
theorem dX9_fits_32 : decode cX9_fits 32 = .ok (.invokestatic 274, 3) := by decide +kernel
theorem dX9_fits_35 : decode cX9_fits 35 = .ok (.ireturn, 1) := by decide +kernel
theorem dX9_flips_0 : decode cX9_flips 0 = .ok (.aload_n 0, 1) := by decide +kernel
theorem dX9_flips_1 : decode cX9_flips 1 = .ok (.iconst 0, 1) := by decide +kernel
theorem dX9_flips_2 : decode cX9_flips 2 = .ok (.putfield 68, 3) := by decide +kernel
theorem dX9_flips_5 : decode cX9_flips 5 = .ok (.aload_n 0, 1) := by decide +kernel
theorem dX9_flips_6 : decode cX9_flips 6 = .ok (.iload_n 1, 1) := by decide +kernel
theorem dX9_flips_7 : decode cX9_flips 7 = .ok (.invokevirtual 268, 3) := by decide +kernel
theorem dX9_flips_10 : decode cX9_flips 10 = .ok (.ifCond .ne 6, 3) := by decide +kernel
theorem dX9_flips_13 : decode cX9_flips 13 = .ok (.bipush (-2), 2) := by decide +kernel
theorem dX9_flips_15 : decode cX9_flips 15 = .ok (.ireturn, 1) := by decide +kernel
theorem dX9_flips_16 : decode cX9_flips 16 = .ok (.aload_n 0, 1) := by decide +kernel
theorem dX9_flips_17 : decode cX9_flips 17 = .ok (.invokevirtual 286, 3) := by decide +kernel
theorem dX9_flips_20 : decode cX9_flips 20 = .ok (.iconst 0, 1) := by decide +kernel
theorem dX9_flips_21 : decode cX9_flips 21 = .ok (.istore_n 2, 1) := by decide +kernel
theorem dX9_flips_22 : decode cX9_flips 22 = .ok (.iconst 1, 1) := by decide +kernel
theorem dX9_flips_23 : decode cX9_flips 23 = .ok (.istore_n 3, 1) := by decide +kernel
theorem dX9_flips_24 : decode cX9_flips 24 = .ok (.iload_n 3, 1) := by decide +kernel
theorem dX9_flips_25 : decode cX9_flips 25 = .ok (.aload_n 0, 1) := by decide +kernel
theorem dX9_flips_26 : decode cX9_flips 26 = .ok (.invokevirtual 222, 3) := by decide +kernel
theorem dX9_flips_29 : decode cX9_flips 29 = .ok (.if_icmp .gt 34, 3) := by decide +kernel
theorem dX9_flips_32 : decode cX9_flips 32 = .ok (.iload_n 2, 1) := by decide +kernel
theorem dX9_flips_33 : decode cX9_flips 33 = .ok (.aload_n 0, 1) := by decide +kernel
theorem dX9_flips_34 : decode cX9_flips 34 = .ok (.iload_n 1, 1) := by decide +kernel
theorem dX9_flips_35 : decode cX9_flips 35 = .ok (.iload_n 3, 1) := by decide +kernel
theorem dX9_flips_36 : decode cX9_flips 36 = .ok (.invokevirtual 308, 3) := by decide +kernel
theorem dX9_flips_39 : decode cX9_flips 39 = .ok (.aload_n 0, 1) := by decide +kernel
theorem dX9_flips_40 : decode cX9_flips 40 = .ok (.iload_n 1, 1) := by decide +kernel
theorem dX9_flips_41 : decode cX9_flips 41 = .ok (.iload_n 3, 1) := by decide +kernel
theorem dX9_flips_42 : decode cX9_flips 42 = .ok (.iconst 1, 1) := by decide +kernel
theorem dX9_flips_43 : decode cX9_flips 43 = .ok (.isub, 1) := by decide +kernel
theorem dX9_flips_44 : decode cX9_flips 44 = .ok (.invokevirtual 308, 3) := by decide +kernel
theorem dX9_flips_47 : decode cX9_flips 47 = .ok (.if_icmp .ne 7, 3) := by decide +kernel
theorem dX9_flips_50 : decode cX9_flips 50 = .ok (.iconst 0, 1) := by decide +kernel
theorem dX9_flips_51 : decode cX9_flips 51 = .ok (.goto 4, 3) := by decide +kernel
theorem dX9_flips_54 : decode cX9_flips 54 = .ok (.iconst 1, 1) := by decide +kernel
theorem dX9_flips_55 : decode cX9_flips 55 = .ok (.iadd, 1) := by decide +kernel
theorem dX9_flips_56 : decode cX9_flips 56 = .ok (.istore_n 2, 1) := by decide +kernel
theorem dX9_flips_57 : decode cX9_flips 57 = .ok (.iinc 3 1, 3) := by decide +kernel
theorem dX9_flips_60 : decode cX9_flips 60 = .ok (.goto (-36), 3) := by decide +kernel
theorem dX9_flips_63 : decode cX9_flips 63 = .ok (.iload_n 2, 1) := by decide +kernel
theorem dX9_flips_64 : decode cX9_flips 64 = .ok (.ireturn, 1) := by decide +kernel
theorem dX9_four_0 : decode cX9_four 0 = .ok (.bipush 24, 2) := by decide +kernel
theorem dX9_four_2 : decode cX9_four 2 = .ok (.istore_n 2, 1) := by decide +kernel
theorem dX9_four_3 : decode cX9_four 3 = .ok (.iload_n 2, 1) := by decide +kernel
theorem dX9_four_4 : decode cX9_four 4 = .ok (.ifCond .lt 32, 3) := by decide +kernel
theorem dX9_four_7 : decode cX9_four 7 = .ok (.aload_n 0, 1) := by decide +kernel
theorem dX9_four_8 : decode cX9_four 8 = .ok (.getfield 23, 3) := by decide +kernel
theorem dX9_four_11 : decode cX9_four 11 = .ok (.aload_n 0, 1) := by decide +kernel
theorem dX9_four_12 : decode cX9_four 12 = .ok (.getfield 85, 3) := by decide +kernel
theorem dX9_four_15 : decode cX9_four 15 = .ok (.iload_n 1, 1) := by decide +kernel
theorem dX9_four_16 : decode cX9_four 16 = .ok (.iload_n 2, 1) := by decide +kernel
theorem dX9_four_17 : decode cX9_four 17 = .ok (.ishr, 1) := by decide +kernel
theorem dX9_four_18 : decode cX9_four 18 = .ok (.i2b, 1) := by decide +kernel
theorem dX9_four_19 : decode cX9_four 19 = .ok (.bastore, 1) := by decide +kernel
theorem dX9_four_20 : decode cX9_four 20 = .ok (.aload_n 0, 1) := by decide +kernel
theorem dX9_four_21 : decode cX9_four 21 = .ok (.dup, 1) := by decide +kernel
theorem dX9_four_22 : decode cX9_four 22 = .ok (.getfield 85, 3) := by decide +kernel
theorem dX9_four_25 : decode cX9_four 25 = .ok (.iconst 1, 1) := by decide +kernel
theorem dX9_four_26 : decode cX9_four 26 = .ok (.iadd, 1) := by decide +kernel
theorem dX9_four_27 : decode cX9_four 27 = .ok (.putfield 85, 3) := by decide +kernel
theorem dX9_four_30 : decode cX9_four 30 = .ok (.iinc 2 (-8), 3) := by decide +kernel
theorem dX9_four_33 : decode cX9_four 33 = .ok (.goto (-30), 3) := by decide +kernel
theorem dX9_four_36 : decode cX9_four 36 = .ok (.return_, 1) := by decide +kernel
theorem dX9_gets_0 : decode cX9_gets 0 = .ok (.aload_n 0, 1) := by decide +kernel
theorem dX9_gets_1 : decode cX9_gets 1 = .ok (.iconst 0, 1) := by decide +kernel
theorem dX9_gets_2 : decode cX9_gets 2 = .ok (.putfield 68, 3) := by decide +kernel
theorem dX9_gets_5 : decode cX9_gets 5 = .ok (.aload_n 0, 1) := by decide +kernel
theorem dX9_gets_6 : decode cX9_gets 6 = .ok (.iload_n 1, 1) := by decide +kernel
theorem dX9_gets_7 : decode cX9_gets 7 = .ok (.iload_n 2, 1) := by decide +kernel
theorem dX9_gets_8 : decode cX9_gets 8 = .ok (.invokevirtual 372, 3) := by decide +kernel
theorem dX9_gets_11 : decode cX9_gets 11 = .ok (.ifCond .eq 31, 3) := by decide +kernel
theorem dX9_gets_14 : decode cX9_gets 14 = .ok (.iload_n 3, 1) := by decide +kernel
theorem dX9_gets_15 : decode cX9_gets 15 = .ok (.invokestatic 292, 3) := by decide +kernel
theorem dX9_gets_18 : decode cX9_gets 18 = .ok (.ifCond .eq 24, 3) := by decide +kernel
theorem dX9_gets_21 : decode cX9_gets 21 = .ok (.iload 4, 2) := by decide +kernel
theorem dX9_gets_23 : decode cX9_gets 23 = .ok (.invokestatic 292, 3) := by decide +kernel
theorem dX9_gets_26 : decode cX9_gets 26 = .ok (.ifCond .eq 16, 3) := by decide +kernel
theorem dX9_gets_29 : decode cX9_gets 29 = .ok (.aload_n 0, 1) := by decide +kernel
theorem dX9_gets_30 : decode cX9_gets 30 = .ok (.iload_n 1, 1) := by decide +kernel
theorem dX9_gets_31 : decode cX9_gets 31 = .ok (.iload_n 1, 1) := by decide +kernel
theorem dX9_gets_32 : decode cX9_gets 32 = .ok (.iload_n 2, 1) := by decide +kernel
theorem dX9_gets_33 : decode cX9_gets 33 = .ok (.iload_n 3, 1) := by decide +kernel
theorem dX9_gets_34 : decode cX9_gets 34 = .ok (.iload 4, 2) := by decide +kernel
theorem dX9_gets_36 : decode cX9_gets 36 = .ok (.invokevirtual 375, 3) := by decide +kernel
theorem dX9_gets_39 : decode cX9_gets 39 = .ok (.goto 6, 3) := by decide +kernel
theorem dX9_gets_42 : decode cX9_gets 42 = .ok (.sipush (-1000), 3) := by decide +kernel
theorem dX9_gets_45 : decode cX9_gets 45 = .ok (.ireturn, 1) := by decide +kernel
theorem dX9_getsBy_0 : decode cX9_getsBy 0 = .ok (.aload_n 0, 1) := by decide +kernel
theorem dX9_getsBy_1 : decode cX9_getsBy 1 = .ok (.invokevirtual 286, 3) := by decide +kernel
theorem dX9_getsBy_4 : decode cX9_getsBy 4 = .ok (.aload_n 0, 1) := by decide +kernel
theorem dX9_getsBy_5 : decode cX9_getsBy 5 = .ok (.iload 4, 2) := by decide +kernel
theorem dX9_getsBy_7 : decode cX9_getsBy 7 = .ok (.iload_n 2, 1) := by decide +kernel
theorem dX9_getsBy_8 : decode cX9_getsBy 8 = .ok (.ishl, 1) := by decide +kernel
theorem dX9_getsBy_9 : decode cX9_getsBy 9 = .ok (.iload 5, 2) := by decide +kernel
theorem dX9_getsBy_11 : decode cX9_getsBy 11 = .ok (.iload_n 3, 1) := by decide +kernel
theorem dX9_getsBy_12 : decode cX9_getsBy 12 = .ok (.ishl, 1) := by decide +kernel
theorem dX9_getsBy_13 : decode cX9_getsBy 13 = .ok (.ior, 1) := by decide +kernel
theorem dX9_getsBy_14 : decode cX9_getsBy 14 = .ok (.putfield 231, 3) := by decide +kernel
theorem dX9_getsBy_17 : decode cX9_getsBy 17 = .ok (.iconst 0, 1) := by decide +kernel
theorem dX9_getsBy_18 : decode cX9_getsBy 18 = .ok (.istore 6, 2) := by decide +kernel
theorem dX9_getsBy_20 : decode cX9_getsBy 20 = .ok (.iconst 0, 1) := by decide +kernel
theorem dX9_getsBy_21 : decode cX9_getsBy 21 = .ok (.istore 7, 2) := by decide +kernel
theorem dX9_getsBy_23 : decode cX9_getsBy 23 = .ok (.iload 7, 2) := by decide +kernel
theorem dX9_getsBy_25 : decode cX9_getsBy 25 = .ok (.aload_n 0, 1) := by decide +kernel
theorem dX9_getsBy_26 : decode cX9_getsBy 26 = .ok (.invokevirtual 222, 3) := by decide +kernel
theorem dX9_getsBy_29 : decode cX9_getsBy 29 = .ok (.if_icmp .gt 29, 3) := by decide +kernel
theorem dX9_getsBy_32 : decode cX9_getsBy 32 = .ok (.iload 6, 2) := by decide +kernel
theorem dX9_getsBy_34 : decode cX9_getsBy 34 = .ok (.aload_n 0, 1) := by decide +kernel
theorem dX9_getsBy_35 : decode cX9_getsBy 35 = .ok (.iload_n 1, 1) := by decide +kernel
theorem dX9_getsBy_36 : decode cX9_getsBy 36 = .ok (.iload 7, 2) := by decide +kernel
theorem dX9_getsBy_38 : decode cX9_getsBy 38 = .ok (.invokevirtual 308, 3) := by decide +kernel
theorem dX9_getsBy_41 : decode cX9_getsBy 41 = .ok (.ifCond .eq 7, 3) := by decide +kernel
theorem dX9_getsBy_44 : decode cX9_getsBy 44 = .ok (.iconst 1, 1) := by decide +kernel
theorem dX9_getsBy_45 : decode cX9_getsBy 45 = .ok (.goto 4, 3) := by decide +kernel
theorem dX9_getsBy_48 : decode cX9_getsBy 48 = .ok (.iconst 0, 1) := by decide +kernel
theorem dX9_getsBy_49 : decode cX9_getsBy 49 = .ok (.iadd, 1) := by decide +kernel
theorem dX9_getsBy_50 : decode cX9_getsBy 50 = .ok (.istore 6, 2) := by decide +kernel
theorem dX9_getsBy_52 : decode cX9_getsBy 52 = .ok (.iinc 7 1, 3) := by decide +kernel
theorem dX9_getsBy_55 : decode cX9_getsBy 55 = .ok (.goto (-32), 3) := by decide +kernel
theorem dX9_getsBy_58 : decode cX9_getsBy 58 = .ok (.iload 6, 2) := by decide +kernel
theorem dX9_getsBy_60 : decode cX9_getsBy 60 = .ok (.iconst 2, 1) := by decide +kernel
theorem dX9_getsBy_61 : decode cX9_getsBy 61 = .ok (.iload_n 1, 1) := by decide +kernel
theorem dX9_getsBy_62 : decode cX9_getsBy 62 = .ok (.iload_n 2, 1) := by decide +kernel
theorem dX9_getsBy_63 : decode cX9_getsBy 63 = .ok (.if_icmp .ne 8, 3) := by decide +kernel
theorem dX9_getsBy_66 : decode cX9_getsBy 66 = .ok (.iload 4, 2) := by decide +kernel
theorem dX9_getsBy_68 : decode cX9_getsBy 68 = .ok (.goto 5, 3) := by decide +kernel
theorem dX9_getsBy_71 : decode cX9_getsBy 71 = .ok (.iload 5, 2) := by decide +kernel
theorem dX9_getsBy_73 : decode cX9_getsBy 73 = .ok (.imul, 1) := by decide +kernel
theorem dX9_getsBy_74 : decode cX9_getsBy 74 = .ok (.isub, 1) := by decide +kernel
theorem dX9_getsBy_75 : decode cX9_getsBy 75 = .ok (.ireturn, 1) := by decide +kernel
theorem dX9_grounds_0 : decode cX9_grounds 0 = .ok (.aload_n 0, 1) := by decide +kernel
theorem dX9_grounds_1 : decode cX9_grounds 1 = .ok (.iconst 0, 1) := by decide +kernel
theorem dX9_grounds_2 : decode cX9_grounds 2 = .ok (.putfield 68, 3) := by decide +kernel
theorem dX9_grounds_5 : decode cX9_grounds 5 = .ok (.aload_n 0, 1) := by decide +kernel
theorem dX9_grounds_6 : decode cX9_grounds 6 = .ok (.iload_n 1, 1) := by decide +kernel
