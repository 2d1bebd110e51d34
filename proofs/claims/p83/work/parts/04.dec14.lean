theorem dX9_both_14 : decode cX9_both 14 = .ok (.iload_n 2, 1) := by decide +kernel
theorem dX9_both_15 : decode cX9_both 15 = .ok (.invokevirtual 268, 3) := by decide +kernel
theorem dX9_both_18 : decode cX9_both 18 = .ok (.ifCond .eq 13, 3) := by decide +kernel
theorem dX9_both_21 : decode cX9_both 21 = .ok (.aload_n 0, 1) := by decide +kernel
theorem dX9_both_22 : decode cX9_both 22 = .ok (.iload_n 1, 1) := by decide +kernel
theorem dX9_both_23 : decode cX9_both 23 = .ok (.iload_n 2, 1) := by decide +kernel
theorem dX9_both_24 : decode cX9_both 24 = .ok (.iconst 1, 1) := by decide +kernel
theorem dX9_both_25 : decode cX9_both 25 = .ok (.invokevirtual 321, 3) := by decide +kernel
theorem dX9_both_28 : decode cX9_both 28 = .ok (.goto 5, 3) := by decide +kernel
theorem dX9_both_31 : decode cX9_both 31 = .ok (.bipush (-2), 2) := by decide +kernel
theorem dX9_both_33 : decode cX9_both 33 = .ok (.ireturn, 1) := by decide +kernel
theorem dX9_breaks_0 : decode cX9_breaks 0 = .ok (.aload_n 0, 1) := by decide +kernel
theorem dX9_breaks_1 : decode cX9_breaks 1 = .ok (.iconst 0, 1) := by decide +kernel
theorem dX9_breaks_2 : decode cX9_breaks 2 = .ok (.putfield 68, 3) := by decide +kernel
theorem dX9_breaks_5 : decode cX9_breaks 5 = .ok (.aload_n 0, 1) := by decide +kernel
theorem dX9_breaks_6 : decode cX9_breaks 6 = .ok (.iload_n 1, 1) := by decide +kernel
theorem dX9_breaks_7 : decode cX9_breaks 7 = .ok (.iconst 1, 1) := by decide +kernel
theorem dX9_breaks_8 : decode cX9_breaks 8 = .ok (.invokevirtual 358, 3) := by decide +kernel
theorem dX9_breaks_11 : decode cX9_breaks 11 = .ok (.istore_n 2, 1) := by decide +kernel
theorem dX9_breaks_12 : decode cX9_breaks 12 = .ok (.iload_n 2, 1) := by decide +kernel
theorem dX9_breaks_13 : decode cX9_breaks 13 = .ok (.ifCond .eq 5, 3) := by decide +kernel
theorem dX9_breaks_16 : decode cX9_breaks 16 = .ok (.iload_n 2, 1) := by decide +kernel
theorem dX9_breaks_17 : decode cX9_breaks 17 = .ok (.ireturn, 1) := by decide +kernel
theorem dX9_breaks_18 : decode cX9_breaks 18 = .ok (.iconst 0, 1) := by decide +kernel
theorem dX9_breaks_19 : decode cX9_breaks 19 = .ok (.istore_n 3, 1) := by decide +kernel
theorem dX9_breaks_20 : decode cX9_breaks 20 = .ok (.iconst 0, 1) := by decide +kernel
theorem dX9_breaks_21 : decode cX9_breaks 21 = .ok (.istore 4, 2) := by decide +kernel
theorem dX9_breaks_23 : decode cX9_breaks 23 = .ok (.iload 4, 2) := by decide +kernel
theorem dX9_breaks_25 : decode cX9_breaks 25 = .ok (.aload_n 0, 1) := by decide +kernel
theorem dX9_breaks_26 : decode cX9_breaks 26 = .ok (.invokevirtual 212, 3) := by decide +kernel
theorem dX9_breaks_29 : decode cX9_breaks 29 = .ok (.if_icmp .ge 40, 3) := by decide +kernel
theorem dX9_breaks_32 : decode cX9_breaks 32 = .ok (.aload_n 0, 1) := by decide +kernel
theorem dX9_breaks_33 : decode cX9_breaks 33 = .ok (.invokevirtual 286, 3) := by decide +kernel
theorem dX9_breaks_36 : decode cX9_breaks 36 = .ok (.aload_n 0, 1) := by decide +kernel
theorem dX9_breaks_37 : decode cX9_breaks 37 = .ok (.iconst 1, 1) := by decide +kernel
theorem dX9_breaks_38 : decode cX9_breaks 38 = .ok (.iload 4, 2) := by decide +kernel
theorem dX9_breaks_40 : decode cX9_breaks 40 = .ok (.ishl, 1) := by decide +kernel
theorem dX9_breaks_41 : decode cX9_breaks 41 = .ok (.putfield 234, 3) := by decide +kernel
theorem dX9_breaks_44 : decode cX9_breaks 44 = .ok (.iload_n 3, 1) := by decide +kernel
theorem dX9_breaks_45 : decode cX9_breaks 45 = .ok (.aload_n 0, 1) := by decide +kernel
theorem dX9_breaks_46 : decode cX9_breaks 46 = .ok (.iload_n 1, 1) := by decide +kernel
theorem dX9_breaks_47 : decode cX9_breaks 47 = .ok (.invokevirtual 340, 3) := by decide +kernel
theorem dX9_breaks_50 : decode cX9_breaks 50 = .ok (.ifCond .eq 10, 3) := by decide +kernel
theorem dX9_breaks_53 : decode cX9_breaks 53 = .ok (.iconst 1, 1) := by decide +kernel
theorem dX9_breaks_54 : decode cX9_breaks 54 = .ok (.iload 4, 2) := by decide +kernel
theorem dX9_breaks_56 : decode cX9_breaks 56 = .ok (.ishl, 1) := by decide +kernel
theorem dX9_breaks_57 : decode cX9_breaks 57 = .ok (.goto 4, 3) := by decide +kernel
theorem dX9_breaks_60 : decode cX9_breaks 60 = .ok (.iconst 0, 1) := by decide +kernel
theorem dX9_breaks_61 : decode cX9_breaks 61 = .ok (.ior, 1) := by decide +kernel
theorem dX9_breaks_62 : decode cX9_breaks 62 = .ok (.istore_n 3, 1) := by decide +kernel
theorem dX9_breaks_63 : decode cX9_breaks 63 = .ok (.iinc 4 1, 3) := by decide +kernel
theorem dX9_breaks_66 : decode cX9_breaks 66 = .ok (.goto (-43), 3) := by decide +kernel
theorem dX9_breaks_69 : decode cX9_breaks 69 = .ok (.iload_n 3, 1) := by decide +kernel
theorem dX9_breaks_70 : decode cX9_breaks 70 = .ok (.ireturn, 1) := by decide +kernel
theorem dX9_bright_0 : decode cX9_bright 0 = .ok (.aload_n 0, 1) := by decide +kernel
theorem dX9_bright_1 : decode cX9_bright 1 = .ok (.iconst 0, 1) := by decide +kernel
theorem dX9_bright_2 : decode cX9_bright 2 = .ok (.putfield 68, 3) := by decide +kernel
theorem dX9_bright_5 : decode cX9_bright 5 = .ok (.aload_n 0, 1) := by decide +kernel
theorem dX9_bright_6 : decode cX9_bright 6 = .ok (.invokevirtual 219, 3) := by decide +kernel
theorem dX9_bright_9 : decode cX9_bright 9 = .ok (.ifCond .eq 11, 3) := by decide +kernel
theorem dX9_bright_12 : decode cX9_bright 12 = .ok (.aload_n 0, 1) := by decide +kernel
theorem dX9_bright_13 : decode cX9_bright 13 = .ok (.iconst 1, 1) := by decide +kernel
theorem dX9_bright_14 : decode cX9_bright 14 = .ok (.invokevirtual 311, 3) := by decide +kernel
theorem dX9_bright_17 : decode cX9_bright 17 = .ok (.goto 5, 3) := by decide +kernel
theorem dX9_bright_20 : decode cX9_bright 20 = .ok (.bipush (-2), 2) := by decide +kernel
theorem dX9_bright_22 : decode cX9_bright 22 = .ok (.ireturn, 1) := by decide +kernel
theorem dX9_by_0 : decode cX9_by 0 = .ok (.aload_n 0, 1) := by decide +kernel
theorem dX9_by_1 : decode cX9_by 1 = .ok (.iconst 0, 1) := by decide +kernel
theorem dX9_by_2 : decode cX9_by 2 = .ok (.putfield 68, 3) := by decide +kernel
theorem dX9_by_5 : decode cX9_by 5 = .ok (.aload_n 0, 1) := by decide +kernel
theorem dX9_by_6 : decode cX9_by 6 = .ok (.invokevirtual 219, 3) := by decide +kernel
theorem dX9_by_9 : decode cX9_by 9 = .ok (.ifCond .eq 23, 3) := by decide +kernel
theorem dX9_by_12 : decode cX9_by 12 = .ok (.iload_n 1, 1) := by decide +kernel
theorem dX9_by_13 : decode cX9_by 13 = .ok (.i2l, 1) := by decide +kernel
theorem dX9_by_14 : decode cX9_by 14 = .ok (.lconst 0, 1) := by decide +kernel
theorem dX9_by_15 : decode cX9_by 15 = .ok (.ldc2_w 71, 3) := by decide +kernel
theorem dX9_by_18 : decode cX9_by 18 = .ok (.invokestatic 73, 3) := by decide +kernel
theorem dX9_by_21 : decode cX9_by 21 = .ok (.ifCond .eq 11, 3) := by decide +kernel
theorem dX9_by_24 : decode cX9_by 24 = .ok (.aload_n 0, 1) := by decide +kernel
theorem dX9_by_25 : decode cX9_by 25 = .ok (.iload_n 1, 1) := by decide +kernel
theorem dX9_by_26 : decode cX9_by 26 = .ok (.invokevirtual 365, 3) := by decide +kernel
theorem dX9_by_29 : decode cX9_by 29 = .ok (.goto 5, 3) := by decide +kernel
theorem dX9_by_32 : decode cX9_by 32 = .ok (.bipush (-2), 2) := by decide +kernel
theorem dX9_by_34 : decode cX9_by 34 = .ok (.ireturn, 1) := by decide +kernel
theorem dX9_chance_0 : decode cX9_chance 0 = .ok (.aload_n 0, 1) := by decide +kernel
theorem dX9_chance_1 : decode cX9_chance 1 = .ok (.iconst 0, 1) := by decide +kernel
theorem dX9_chance_2 : decode cX9_chance 2 = .ok (.putfield 68, 3) := by decide +kernel
theorem dX9_chance_5 : decode cX9_chance 5 = .ok (.aload_n 0, 1) := by decide +kernel
theorem dX9_chance_6 : decode cX9_chance 6 = .ok (.iload_n 1, 1) := by decide +kernel
theorem dX9_chance_7 : decode cX9_chance 7 = .ok (.invokevirtual 268, 3) := by decide +kernel
theorem dX9_chance_10 : decode cX9_chance 10 = .ok (.ifCond .eq 41, 3) := by decide +kernel
theorem dX9_chance_13 : decode cX9_chance 13 = .ok (.aload_n 0, 1) := by decide +kernel
theorem dX9_chance_14 : decode cX9_chance 14 = .ok (.iload_n 2, 1) := by decide +kernel
theorem dX9_chance_15 : decode cX9_chance 15 = .ok (.invokevirtual 384, 3) := by decide +kernel
theorem dX9_chance_18 : decode cX9_chance 18 = .ok (.ifCond .eq 33, 3) := by decide +kernel
theorem dX9_chance_21 : decode cX9_chance 21 = .ok (.iload_n 3, 1) := by decide +kernel
theorem dX9_chance_22 : decode cX9_chance 22 = .ok (.invokestatic 292, 3) := by decide +kernel
theorem dX9_chance_25 : decode cX9_chance 25 = .ok (.ifCond .eq 26, 3) := by decide +kernel
theorem dX9_chance_28 : decode cX9_chance 28 = .ok (.aload_n 0, 1) := by decide +kernel
theorem dX9_chance_29 : decode cX9_chance 29 = .ok (.iload_n 1, 1) := by decide +kernel
theorem dX9_chance_30 : decode cX9_chance 30 = .ok (.iload_n 2, 1) := by decide +kernel
theorem dX9_chance_31 : decode cX9_chance 31 = .ok (.invokevirtual 387, 3) := by decide +kernel
theorem dX9_chance_34 : decode cX9_chance 34 = .ok (.ldc2_w 382, 3) := by decide +kernel
theorem dX9_chance_37 : decode cX9_chance 37 = .ok (.iload_n 2, 1) := by decide +kernel
theorem dX9_chance_38 : decode cX9_chance 38 = .ok (.iconst 1, 1) := by decide +kernel
theorem dX9_chance_39 : decode cX9_chance 39 = .ok (.iadd, 1) := by decide +kernel
theorem dX9_chance_40 : decode cX9_chance 40 = .ok (.invokestatic 379, 3) := by decide +kernel
theorem dX9_chance_43 : decode cX9_chance 43 = .ok (.iload_n 3, 1) := by decide +kernel
theorem dX9_chance_44 : decode cX9_chance 44 = .ok (.invokestatic 297, 3) := by decide +kernel
theorem dX9_chance_47 : decode cX9_chance 47 = .ok (.l2i, 1) := by decide +kernel
theorem dX9_chance_48 : decode cX9_chance 48 = .ok (.goto 5, 3) := by decide +kernel
theorem dX9_chance_51 : decode cX9_chance 51 = .ok (.bipush (-2), 2) := by decide +kernel
theorem dX9_chance_53 : decode cX9_chance 53 = .ok (.ireturn, 1) := by decide +kernel
theorem dX9_changes_0 : decode cX9_changes 0 = .ok (.aload_n 0, 1) := by decide +kernel
theorem dX9_changes_1 : decode cX9_changes 1 = .ok (.iconst 0, 1) := by decide +kernel
theorem dX9_changes_2 : decode cX9_changes 2 = .ok (.putfield 68, 3) := by decide +kernel
theorem dX9_changes_5 : decode cX9_changes 5 = .ok (.aload_n 0, 1) := by decide +kernel
theorem dX9_changes_6 : decode cX9_changes 6 = .ok (.invokevirtual 219, 3) := by decide +kernel
theorem dX9_changes_9 : decode cX9_changes 9 = .ok (.ifCond .ne 6, 3) := by decide +kernel
theorem dX9_changes_12 : decode cX9_changes 12 = .ok (.bipush (-2), 2) := by decide +kernel
theorem dX9_changes_14 : decode cX9_changes 14 = .ok (.ireturn, 1) := by decide +kernel
theorem dX9_changes_15 : decode cX9_changes 15 = .ok (.aload_n 0, 1) := by decide +kernel
theorem dX9_changes_16 : decode cX9_changes 16 = .ok (.invokevirtual 286, 3) := by decide +kernel
theorem dX9_changes_19 : decode cX9_changes 19 = .ok (.iconst 0, 1) := by decide +kernel
theorem dX9_changes_20 : decode cX9_changes 20 = .ok (.istore_n 1, 1) := by decide +kernel
theorem dX9_changes_21 : decode cX9_changes 21 = .ok (.iconst 1, 1) := by decide +kernel
theorem dX9_changes_22 : decode cX9_changes 22 = .ok (.istore_n 2, 1) := by decide +kernel
theorem dX9_changes_23 : decode cX9_changes 23 = .ok (.iload_n 2, 1) := by decide +kernel
theorem dX9_changes_24 : decode cX9_changes 24 = .ok (.aload_n 0, 1) := by decide +kernel
theorem dX9_changes_25 : decode cX9_changes 25 = .ok (.invokevirtual 222, 3) := by decide +kernel
theorem dX9_changes_28 : decode cX9_changes 28 = .ok (.if_icmp .gt 32, 3) := by decide +kernel
theorem dX9_changes_31 : decode cX9_changes 31 = .ok (.iload_n 1, 1) := by decide +kernel
theorem dX9_changes_32 : decode cX9_changes 32 = .ok (.aload_n 0, 1) := by decide +kernel
theorem dX9_changes_33 : decode cX9_changes 33 = .ok (.iload_n 2, 1) := by decide +kernel
theorem dX9_changes_34 : decode cX9_changes 34 = .ok (.invokevirtual 271, 3) := by decide +kernel
theorem dX9_changes_37 : decode cX9_changes 37 = .ok (.aload_n 0, 1) := by decide +kernel
theorem dX9_changes_38 : decode cX9_changes 38 = .ok (.iload_n 2, 1) := by decide +kernel
theorem dX9_changes_39 : decode cX9_changes 39 = .ok (.iconst 1, 1) := by decide +kernel
theorem dX9_changes_40 : decode cX9_changes 40 = .ok (.isub, 1) := by decide +kernel
theorem dX9_changes_41 : decode cX9_changes 41 = .ok (.invokevirtual 271, 3) := by decide +kernel
theorem dX9_changes_44 : decode cX9_changes 44 = .ok (.if_icmp .ne 7, 3) := by decide +kernel
theorem dX9_changes_47 : decode cX9_changes 47 = .ok (.iconst 0, 1) := by decide +kernel
theorem dX9_changes_48 : decode cX9_changes 48 = .ok (.goto 4, 3) := by decide +kernel
theorem dX9_changes_51 : decode cX9_changes 51 = .ok (.iconst 1, 1) := by decide +kernel
theorem dX9_changes_52 : decode cX9_changes 52 = .ok (.iadd, 1) := by decide +kernel
theorem dX9_changes_53 : decode cX9_changes 53 = .ok (.istore_n 1, 1) := by decide +kernel
theorem dX9_changes_54 : decode cX9_changes 54 = .ok (.iinc 2 1, 3) := by decide +kernel
theorem dX9_changes_57 : decode cX9_changes 57 = .ok (.goto (-34), 3) := by decide +kernel
theorem dX9_changes_60 : decode cX9_changes 60 = .ok (.iload_n 1, 1) := by decide +kernel
theorem dX9_changes_61 : decode cX9_changes 61 = .ok (.ireturn, 1) := by decide +kernel
theorem dX9_clear_0 : decode cX9_clear 0 = .ok (.aload_n 0, 1) := by decide +kernel
theorem dX9_clear_1 : decode cX9_clear 1 = .ok (.iconst 0, 1) := by decide +kernel
theorem dX9_clear_2 : decode cX9_clear 2 = .ok (.putfield 68, 3) := by decide +kernel
theorem dX9_clear_5 : decode cX9_clear 5 = .ok (.aload_n 0, 1) := by decide +kernel
theorem dX9_clear_6 : decode cX9_clear 6 = .ok (.invokevirtual 219, 3) := by decide +kernel
theorem dX9_clear_9 : decode cX9_clear 9 = .ok (.ifCond .ne 6, 3) := by decide +kernel
theorem dX9_clear_12 : decode cX9_clear 12 = .ok (.bipush (-2), 2) := by decide +kernel
theorem dX9_clear_14 : decode cX9_clear 14 = .ok (.ireturn, 1) := by decide +kernel
theorem dX9_clear_15 : decode cX9_clear 15 = .ok (.aload_n 0, 1) := by decide +kernel
theorem dX9_clear_16 : decode cX9_clear 16 = .ok (.invokevirtual 286, 3) := by decide +kernel
theorem dX9_clear_19 : decode cX9_clear 19 = .ok (.iconst 0, 1) := by decide +kernel
theorem dX9_clear_20 : decode cX9_clear 20 = .ok (.istore_n 1, 1) := by decide +kernel
theorem dX9_clear_21 : decode cX9_clear 21 = .ok (.iconst 0, 1) := by decide +kernel
theorem dX9_clear_22 : decode cX9_clear 22 = .ok (.istore_n 2, 1) := by decide +kernel
theorem dX9_clear_23 : decode cX9_clear 23 = .ok (.iload_n 2, 1) := by decide +kernel
theorem dX9_clear_24 : decode cX9_clear 24 = .ok (.aload_n 0, 1) := by decide +kernel
theorem dX9_clear_25 : decode cX9_clear 25 = .ok (.invokevirtual 222, 3) := by decide +kernel
theorem dX9_clear_28 : decode cX9_clear 28 = .ok (.if_icmp .gt 31, 3) := by decide +kernel
theorem dX9_clear_31 : decode cX9_clear 31 = .ok (.iload_n 1, 1) := by decide +kernel
theorem dX9_clear_32 : decode cX9_clear 32 = .ok (.aload_n 0, 1) := by decide +kernel
theorem dX9_clear_33 : decode cX9_clear 33 = .ok (.iload_n 2, 1) := by decide +kernel
theorem dX9_clear_34 : decode cX9_clear 34 = .ok (.invokevirtual 271, 3) := by decide +kernel
theorem dX9_clear_37 : decode cX9_clear 37 = .ok (.aload_n 0, 1) := by decide +kernel
theorem dX9_clear_38 : decode cX9_clear 38 = .ok (.invokevirtual 283, 3) := by decide +kernel
theorem dX9_clear_41 : decode cX9_clear 41 = .ok (.if_icmp .ne 9, 3) := by decide +kernel
theorem dX9_clear_44 : decode cX9_clear 44 = .ok (.iconst 1, 1) := by decide +kernel
theorem dX9_clear_45 : decode cX9_clear 45 = .ok (.iload_n 2, 1) := by decide +kernel
theorem dX9_clear_46 : decode cX9_clear 46 = .ok (.ishl, 1) := by decide +kernel
theorem dX9_clear_47 : decode cX9_clear 47 = .ok (.goto 4, 3) := by decide +kernel
theorem dX9_clear_50 : decode cX9_clear 50 = .ok (.iconst 0, 1) := by decide +kernel
theorem dX9_clear_51 : decode cX9_clear 51 = .ok (.ior, 1) := by decide +kernel
theorem dX9_clear_52 : decode cX9_clear 52 = .ok (.istore_n 1, 1) := by decide +kernel
theorem dX9_clear_53 : decode cX9_clear 53 = .ok (.iinc 2 1, 3) := by decide +kernel
theorem dX9_clear_56 : decode cX9_clear 56 = .ok (.goto (-33), 3) := by decide +kernel
theorem dX9_clear_59 : decode cX9_clear 59 = .ok (.iload_n 1, 1) := by decide +kernel
theorem dX9_clear_60 : decode cX9_clear 60 = .ok (.ireturn, 1) := by decide +kernel
theorem dX9_clears_0 : decode cX9_clears 0 = .ok (.aload_n 0, 1) := by decide +kernel
theorem dX9_clears_1 : decode cX9_clears 1 = .ok (.getfield 31, 3) := by decide +kernel
theorem dX9_clears_4 : decode cX9_clears 4 = .ok (.iconst 4, 1) := by decide +kernel
theorem dX9_clears_5 : decode cX9_clears 5 = .ok (.iconst 0, 1) := by decide +kernel
theorem dX9_clears_6 : decode cX9_clears 6 = .ok (.iastore, 1) := by decide +kernel
theorem dX9_clears_7 : decode cX9_clears 7 = .ok (.iconst 0, 1) := by decide +kernel
theorem dX9_clears_8 : decode cX9_clears 8 = .ok (.istore_n 1, 1) := by decide +kernel
theorem dX9_clears_9 : decode cX9_clears 9 = .ok (.iload_n 1, 1) := by decide +kernel
theorem dX9_clears_10 : decode cX9_clears 10 = .ok (.bipush 7, 2) := by decide +kernel
theorem dX9_clears_12 : decode cX9_clears 12 = .ok (.if_icmp .ge 15, 3) := by decide +kernel
theorem dX9_clears_15 : decode cX9_clears 15 = .ok (.aload_n 0, 1) := by decide +kernel
theorem dX9_clears_16 : decode cX9_clears 16 = .ok (.iload_n 1, 1) := by decide +kernel
theorem dX9_clears_17 : decode cX9_clears 17 = .ok (.iconst 0, 1) := by decide +kernel
theorem dX9_clears_18 : decode cX9_clears 18 = .ok (.invokevirtual 161, 3) := by decide +kernel
theorem dX9_clears_21 : decode cX9_clears 21 = .ok (.iinc 1 1, 3) := by decide +kernel
theorem dX9_clears_24 : decode cX9_clears 24 = .ok (.goto (-15), 3) := by decide +kernel
theorem dX9_clears_27 : decode cX9_clears 27 = .ok (.return_, 1) := by decide +kernel
theorem dX9_closes_0 : decode cX9_closes 0 = .ok (.aload_n 0, 1) := by decide +kernel
theorem dX9_closes_1 : decode cX9_closes 1 = .ok (.getfield 109, 3) := by decide +kernel
theorem dX9_closes_4 : decode cX9_closes 4 = .ok (.iconst 3, 1) := by decide +kernel
theorem dX9_closes_5 : decode cX9_closes 5 = .ok (.if_icmp .eq 8, 3) := by decide +kernel
theorem dX9_closes_8 : decode cX9_closes 8 = .ok (.aload_n 0, 1) := by decide +kernel
theorem dX9_closes_9 : decode cX9_closes 9 = .ok (.iconst 1, 1) := by decide +kernel
theorem dX9_closes_10 : decode cX9_closes 10 = .ok (.invokevirtual 136, 3) := by decide +kernel
theorem dX9_closes_13 : decode cX9_closes 13 = .ok (.aload_n 0, 1) := by decide +kernel
theorem dX9_closes_14 : decode cX9_closes 14 = .ok (.getfield 120, 3) := by decide +kernel
theorem dX9_closes_17 : decode cX9_closes 17 = .ok (.ifCond .ne 7, 3) := by decide +kernel
theorem dX9_closes_20 : decode cX9_closes 20 = .ok (.aload_n 0, 1) := by decide +kernel
theorem dX9_closes_21 : decode cX9_closes 21 = .ok (.invokevirtual 130, 3) := by decide +kernel
theorem dX9_closes_24 : decode cX9_closes 24 = .ok (.return_, 1) := by decide +kernel
theorem dX9_common_0 : decode cX9_common 0 = .ok (.lload_n 2, 1) := by decide +kernel
theorem dX9_common_1 : decode cX9_common 1 = .ok (.lconst 0, 1) := by decide +kernel
theorem dX9_common_2 : decode cX9_common 2 = .ok (.lcmp, 1) := by decide +kernel
theorem dX9_common_3 : decode cX9_common 3 = .ok (.ifCond .ne 18, 3) := by decide +kernel
theorem dX9_common_6 : decode cX9_common 6 = .ok (.lload_n 0, 1) := by decide +kernel
theorem dX9_common_7 : decode cX9_common 7 = .ok (.lconst 0, 1) := by decide +kernel
theorem dX9_common_8 : decode cX9_common 8 = .ok (.lcmp, 1) := by decide +kernel
theorem dX9_common_9 : decode cX9_common 9 = .ok (.ifCond .ge 8, 3) := by decide +kernel
theorem dX9_common_12 : decode cX9_common 12 = .ok (.lload_n 0, 1) := by decide +kernel
theorem dX9_common_13 : decode cX9_common 13 = .ok (.lneg, 1) := by decide +kernel
theorem dX9_common_14 : decode cX9_common 14 = .ok (.goto 14, 3) := by decide +kernel
theorem dX9_common_17 : decode cX9_common 17 = .ok (.lload_n 0, 1) := by decide +kernel
theorem dX9_common_18 : decode cX9_common 18 = .ok (.goto 10, 3) := by decide +kernel
theorem dX9_common_21 : decode cX9_common 21 = .ok (.lload_n 2, 1) := by decide +kernel
theorem dX9_common_22 : decode cX9_common 22 = .ok (.lload_n 0, 1) := by decide +kernel
theorem dX9_common_23 : decode cX9_common 23 = .ok (.lload_n 2, 1) := by decide +kernel
theorem dX9_common_24 : decode cX9_common 24 = .ok (.lrem, 1) := by decide +kernel
theorem dX9_common_25 : decode cX9_common 25 = .ok (.invokestatic 277, 3) := by decide +kernel
theorem dX9_common_28 : decode cX9_common 28 = .ok (.lreturn, 1) := by decide +kernel
theorem dX9_copyRow_0 : decode cX9_copyRow 0 = .ok (.iconst 0, 1) := by decide +kernel
theorem dX9_copyRow_1 : decode cX9_copyRow 1 = .ok (.istore 4, 2) := by decide +kernel
theorem dX9_copyRow_3 : decode cX9_copyRow 3 = .ok (.iload 4, 2) := by decide +kernel
theorem dX9_copyRow_5 : decode cX9_copyRow 5 = .ok (.iload_n 1, 1) := by decide +kernel
theorem dX9_copyRow_6 : decode cX9_copyRow 6 = .ok (.if_icmp .ge 25, 3) := by decide +kernel
theorem dX9_copyRow_9 : decode cX9_copyRow 9 = .ok (.aload_n 0, 1) := by decide +kernel
theorem dX9_copyRow_10 : decode cX9_copyRow 10 = .ok (.iload_n 1, 1) := by decide +kernel
theorem dX9_copyRow_11 : decode cX9_copyRow 11 = .ok (.iload_n 3, 1) := by decide +kernel
theorem dX9_copyRow_12 : decode cX9_copyRow 12 = .ok (.imul, 1) := by decide +kernel
theorem dX9_copyRow_13 : decode cX9_copyRow 13 = .ok (.iload 4, 2) := by decide +kernel
theorem dX9_copyRow_15 : decode cX9_copyRow 15 = .ok (.iadd, 1) := by decide +kernel
theorem dX9_copyRow_16 : decode cX9_copyRow 16 = .ok (.aload_n 0, 1) := by decide +kernel
theorem dX9_copyRow_17 : decode cX9_copyRow 17 = .ok (.iload_n 1, 1) := by decide +kernel
theorem dX9_copyRow_18 : decode cX9_copyRow 18 = .ok (.iload_n 2, 1) := by decide +kernel
theorem dX9_copyRow_19 : decode cX9_copyRow 19 = .ok (.imul, 1) := by decide +kernel
theorem dX9_copyRow_20 : decode cX9_copyRow 20 = .ok (.iload 4, 2) := by decide +kernel
theorem dX9_copyRow_22 : decode cX9_copyRow 22 = .ok (.iadd, 1) := by decide +kernel
theorem dX9_copyRow_23 : decode cX9_copyRow 23 = .ok (.iaload, 1) := by decide +kernel
theorem dX9_copyRow_24 : decode cX9_copyRow 24 = .ok (.iastore, 1) := by decide +kernel
theorem dX9_copyRow_25 : decode cX9_copyRow 25 = .ok (.iinc 4 1, 3) := by decide +kernel
theorem dX9_copyRow_28 : decode cX9_copyRow 28 = .ok (.goto (-25), 3) := by decide +kernel
theorem dX9_copyRow_31 : decode cX9_copyRow 31 = .ok (.return_, 1) := by decide +kernel
theorem dX9_copyWire_0 : decode cX9_copyWire 0 = .ok (.aload_n 0, 1) := by decide +kernel
theorem dX9_copyWire_1 : decode cX9_copyWire 1 = .ok (.getfield 31, 3) := by decide +kernel
theorem dX9_copyWire_4 : decode cX9_copyWire 4 = .ok (.iconst 1, 1) := by decide +kernel
theorem dX9_copyWire_5 : decode cX9_copyWire 5 = .ok (.iload_n 1, 1) := by decide +kernel
theorem dX9_copyWire_6 : decode cX9_copyWire 6 = .ok (.iload_n 2, 1) := by decide +kernel
theorem dX9_copyWire_7 : decode cX9_copyWire 7 = .ok (.invokestatic 208, 3) := by decide +kernel
theorem dX9_copyWire_10 : decode cX9_copyWire 10 = .ok (.aload_n 0, 1) := by decide +kernel
theorem dX9_copyWire_11 : decode cX9_copyWire 11 = .ok (.getfield 34, 3) := by decide +kernel
theorem dX9_copyWire_14 : decode cX9_copyWire 14 = .ok (.bipush 7, 2) := by decide +kernel
theorem dX9_copyWire_16 : decode cX9_copyWire 16 = .ok (.iload_n 1, 1) := by decide +kernel
theorem dX9_copyWire_17 : decode cX9_copyWire 17 = .ok (.iload_n 2, 1) := by decide +kernel
theorem dX9_copyWire_18 : decode cX9_copyWire 18 = .ok (.invokestatic 208, 3) := by decide +kernel
theorem dX9_copyWire_21 : decode cX9_copyWire 21 = .ok (.aload_n 0, 1) := by decide +kernel
theorem dX9_copyWire_22 : decode cX9_copyWire 22 = .ok (.getfield 37, 3) := by decide +kernel
theorem dX9_copyWire_25 : decode cX9_copyWire 25 = .ok (.bipush 15, 2) := by decide +kernel
theorem dX9_copyWire_27 : decode cX9_copyWire 27 = .ok (.iload_n 1, 1) := by decide +kernel
theorem dX9_copyWire_28 : decode cX9_copyWire 28 = .ok (.iload_n 2, 1) := by decide +kernel
theorem dX9_copyWire_29 : decode cX9_copyWire 29 = .ok (.invokestatic 208, 3) := by decide +kernel
theorem dX9_copyWire_32 : decode cX9_copyWire 32 = .ok (.aload_n 0, 1) := by decide +kernel
theorem dX9_copyWire_33 : decode cX9_copyWire 33 = .ok (.getfield 40, 3) := by decide +kernel
theorem dX9_copyWire_36 : decode cX9_copyWire 36 = .ok (.bipush 8, 2) := by decide +kernel
theorem dX9_copyWire_38 : decode cX9_copyWire 38 = .ok (.iload_n 1, 1) := by decide +kernel
theorem dX9_copyWire_39 : decode cX9_copyWire 39 = .ok (.iload_n 2, 1) := by decide +kernel
theorem dX9_copyWire_40 : decode cX9_copyWire 40 = .ok (.invokestatic 208, 3) := by decide +kernel
theorem dX9_copyWire_43 : decode cX9_copyWire 43 = .ok (.aload_n 0, 1) := by decide +kernel
theorem dX9_copyWire_44 : decode cX9_copyWire 44 = .ok (.getfield 43, 3) := by decide +kernel
theorem dX9_copyWire_47 : decode cX9_copyWire 47 = .ok (.bipush 90, 2) := by decide +kernel
theorem dX9_copyWire_49 : decode cX9_copyWire 49 = .ok (.iload_n 1, 1) := by decide +kernel
theorem dX9_copyWire_50 : decode cX9_copyWire 50 = .ok (.iload_n 2, 1) := by decide +kernel
theorem dX9_copyWire_51 : decode cX9_copyWire 51 = .ok (.invokestatic 208, 3) := by decide +kernel
theorem dX9_copyWire_54 : decode cX9_copyWire 54 = .ok (.return_, 1) := by decide +kernel
theorem dX9_count_0 : decode cX9_count 0 = .ok (.aload_n 0, 1) := by decide +kernel
theorem dX9_count_1 : decode cX9_count 1 = .ok (.iconst 0, 1) := by decide +kernel
theorem dX9_count_2 : decode cX9_count 2 = .ok (.putfield 68, 3) := by decide +kernel
theorem dX9_count_5 : decode cX9_count 5 = .ok (.iload_n 1, 1) := by decide +kernel
theorem dX9_count_6 : decode cX9_count 6 = .ok (.i2l, 1) := by decide +kernel
theorem dX9_count_7 : decode cX9_count 7 = .ok (.lconst 0, 1) := by decide +kernel
theorem dX9_count_8 : decode cX9_count 8 = .ok (.ldc2_w 415, 3) := by decide +kernel
theorem dX9_count_11 : decode cX9_count 11 = .ok (.invokestatic 73, 3) := by decide +kernel
theorem dX9_count_14 : decode cX9_count 14 = .ok (.ifCond .eq 10, 3) := by decide +kernel
theorem dX9_count_17 : decode cX9_count 17 = .ok (.aload_n 0, 1) := by decide +kernel
theorem dX9_count_18 : decode cX9_count 18 = .ok (.getfield 34, 3) := by decide +kernel
theorem dX9_count_21 : decode cX9_count 21 = .ok (.iload_n 1, 1) := by decide +kernel
theorem dX9_count_22 : decode cX9_count 22 = .ok (.iaload, 1) := by decide +kernel
theorem dX9_count_23 : decode cX9_count 23 = .ok (.ireturn, 1) := by decide +kernel
theorem dX9_count_24 : decode cX9_count 24 = .ok (.iconst 0, 1) := by decide +kernel
theorem dX9_count_25 : decode cX9_count 25 = .ok (.istore_n 2, 1) := by decide +kernel
theorem dX9_count_26 : decode cX9_count 26 = .ok (.iload_n 1, 1) := by decide +kernel
theorem dX9_count_27 : decode cX9_count 27 = .ok (.tableswitch 70 7 9 #[25, 32, 37], 25) := by decide +kernel
theorem dX9_count_52 : decode cX9_count 52 = .ok (.aload_n 0, 1) := by decide +kernel
theorem dX9_count_53 : decode cX9_count 53 = .ok (.getfield 31, 3) := by decide +kernel
theorem dX9_count_56 : decode cX9_count 56 = .ok (.iconst 0, 1) := by decide +kernel
theorem dX9_count_57 : decode cX9_count 57 = .ok (.iaload, 1) := by decide +kernel
theorem dX9_count_58 : decode cX9_count 58 = .ok (.ireturn, 1) := by decide +kernel
theorem dX9_count_59 : decode cX9_count 59 = .ok (.aload_n 0, 1) := by decide +kernel
theorem dX9_count_60 : decode cX9_count 60 = .ok (.getfield 85, 3) := by decide +kernel
theorem dX9_count_63 : decode cX9_count 63 = .ok (.ireturn, 1) := by decide +kernel
theorem dX9_count_64 : decode cX9_count 64 = .ok (.iconst 0, 1) := by decide +kernel
theorem dX9_count_65 : decode cX9_count 65 = .ok (.istore_n 3, 1) := by decide +kernel
theorem dX9_count_66 : decode cX9_count 66 = .ok (.iload_n 3, 1) := by decide +kernel
theorem dX9_count_67 : decode cX9_count 67 = .ok (.iconst 4, 1) := by decide +kernel
theorem dX9_count_68 : decode cX9_count 68 = .ok (.if_icmp .ge 27, 3) := by decide +kernel
theorem dX9_count_71 : decode cX9_count 71 = .ok (.iload_n 2, 1) := by decide +kernel
theorem dX9_count_72 : decode cX9_count 72 = .ok (.aload_n 0, 1) := by decide +kernel
theorem dX9_count_73 : decode cX9_count 73 = .ok (.getfield 7, 3) := by decide +kernel
theorem dX9_count_76 : decode cX9_count 76 = .ok (.iload_n 3, 1) := by decide +kernel
theorem dX9_count_77 : decode cX9_count 77 = .ok (.iaload, 1) := by decide +kernel
theorem dX9_count_78 : decode cX9_count 78 = .ok (.iconst (-1), 1) := by decide +kernel
theorem dX9_count_79 : decode cX9_count 79 = .ok (.if_icmp .ne 7, 3) := by decide +kernel
theorem dX9_count_82 : decode cX9_count 82 = .ok (.iconst 0, 1) := by decide +kernel
theorem dX9_count_83 : decode cX9_count 83 = .ok (.goto 4, 3) := by decide +kernel
theorem dX9_count_86 : decode cX9_count 86 = .ok (.iconst 1, 1) := by decide +kernel
theorem dX9_count_87 : decode cX9_count 87 = .ok (.iadd, 1) := by decide +kernel
theorem dX9_count_88 : decode cX9_count 88 = .ok (.istore_n 2, 1) := by decide +kernel
theorem dX9_count_89 : decode cX9_count 89 = .ok (.iinc 3 1, 3) := by decide +kernel
theorem dX9_count_92 : decode cX9_count 92 = .ok (.goto (-26), 3) := by decide +kernel
theorem dX9_count_95 : decode cX9_count 95 = .ok (.iload_n 2, 1) := by decide +kernel
theorem dX9_count_96 : decode cX9_count 96 = .ok (.ireturn, 1) := by decide +kernel
theorem dX9_count_97 : decode cX9_count 97 = .ok (.iconst (-1), 1) := by decide +kernel
theorem dX9_count_98 : decode cX9_count 98 = .ok (.ireturn, 1) := by decide +kernel
theorem dX9_cupOf_0 : decode cX9_cupOf 0 = .ok (.aload_n 0, 1) := by decide +kernel
theorem dX9_cupOf_1 : decode cX9_cupOf 1 = .ok (.getfield 231, 3) := by decide +kernel
theorem dX9_cupOf_4 : decode cX9_cupOf 4 = .ok (.iload_n 1, 1) := by decide +kernel
theorem dX9_cupOf_5 : decode cX9_cupOf 5 = .ok (.invokestatic 240, 3) := by decide +kernel
theorem dX9_cupOf_8 : decode cX9_cupOf 8 = .ok (.ifCond .eq 7, 3) := by decide +kernel
theorem dX9_cupOf_11 : decode cX9_cupOf 11 = .ok (.iconst 0, 1) := by decide +kernel
theorem dX9_cupOf_12 : decode cX9_cupOf 12 = .ok (.goto 4, 3) := by decide +kernel
theorem dX9_cupOf_15 : decode cX9_cupOf 15 = .ok (.iconst (-1), 1) := by decide +kernel
theorem dX9_cupOf_16 : decode cX9_cupOf 16 = .ok (.istore_n 3, 1) := by decide +kernel
theorem dX9_cupOf_17 : decode cX9_cupOf 17 = .ok (.iconst 0, 1) := by decide +kernel
theorem dX9_cupOf_18 : decode cX9_cupOf 18 = .ok (.istore 4, 2) := by decide +kernel
theorem dX9_cupOf_20 : decode cX9_cupOf 20 = .ok (.iload 4, 2) := by decide +kernel
theorem dX9_cupOf_22 : decode cX9_cupOf 22 = .ok (.aload_n 0, 1) := by decide +kernel
theorem dX9_cupOf_23 : decode cX9_cupOf 23 = .ok (.getfield 34, 3) := by decide +kernel
theorem dX9_cupOf_26 : decode cX9_cupOf 26 = .ok (.bipush 6, 2) := by decide +kernel
theorem dX9_cupOf_28 : decode cX9_cupOf 28 = .ok (.iaload, 1) := by decide +kernel
theorem dX9_cupOf_29 : decode cX9_cupOf 29 = .ok (.if_icmp .ge 67, 3) := by decide +kernel
theorem dX9_cupOf_32 : decode cX9_cupOf 32 = .ok (.aload_n 0, 1) := by decide +kernel
theorem dX9_cupOf_33 : decode cX9_cupOf 33 = .ok (.getfield 43, 3) := by decide +kernel
theorem dX9_cupOf_36 : decode cX9_cupOf 36 = .ok (.iconst 3, 1) := by decide +kernel
theorem dX9_cupOf_37 : decode cX9_cupOf 37 = .ok (.iload 4, 2) := by decide +kernel
theorem dX9_cupOf_39 : decode cX9_cupOf 39 = .ok (.imul, 1) := by decide +kernel
theorem dX9_cupOf_40 : decode cX9_cupOf 40 = .ok (.iaload, 1) := by decide +kernel
theorem dX9_cupOf_41 : decode cX9_cupOf 41 = .ok (.ifCond .ne 49, 3) := by decide +kernel
theorem dX9_cupOf_44 : decode cX9_cupOf 44 = .ok (.aload_n 0, 1) := by decide +kernel
theorem dX9_cupOf_45 : decode cX9_cupOf 45 = .ok (.getfield 43, 3) := by decide +kernel
theorem dX9_cupOf_48 : decode cX9_cupOf 48 = .ok (.iconst 3, 1) := by decide +kernel
theorem dX9_cupOf_49 : decode cX9_cupOf 49 = .ok (.iload 4, 2) := by decide +kernel
theorem dX9_cupOf_51 : decode cX9_cupOf 51 = .ok (.imul, 1) := by decide +kernel
theorem dX9_cupOf_52 : decode cX9_cupOf 52 = .ok (.iconst 1, 1) := by decide +kernel
theorem dX9_cupOf_53 : decode cX9_cupOf 53 = .ok (.iadd, 1) := by decide +kernel
theorem dX9_cupOf_54 : decode cX9_cupOf 54 = .ok (.iaload, 1) := by decide +kernel
theorem dX9_cupOf_55 : decode cX9_cupOf 55 = .ok (.iload_n 1, 1) := by decide +kernel
theorem dX9_cupOf_56 : decode cX9_cupOf 56 = .ok (.if_icmp .ne 34, 3) := by decide +kernel
theorem dX9_cupOf_59 : decode cX9_cupOf 59 = .ok (.aload_n 0, 1) := by decide +kernel
theorem dX9_cupOf_60 : decode cX9_cupOf 60 = .ok (.getfield 43, 3) := by decide +kernel
theorem dX9_cupOf_63 : decode cX9_cupOf 63 = .ok (.iconst 3, 1) := by decide +kernel
theorem dX9_cupOf_64 : decode cX9_cupOf 64 = .ok (.iload 4, 2) := by decide +kernel
theorem dX9_cupOf_66 : decode cX9_cupOf 66 = .ok (.imul, 1) := by decide +kernel
theorem dX9_cupOf_67 : decode cX9_cupOf 67 = .ok (.iconst 2, 1) := by decide +kernel
theorem dX9_cupOf_68 : decode cX9_cupOf 68 = .ok (.iadd, 1) := by decide +kernel
theorem dX9_cupOf_69 : decode cX9_cupOf 69 = .ok (.iaload, 1) := by decide +kernel
theorem dX9_cupOf_70 : decode cX9_cupOf 70 = .ok (.iload_n 2, 1) := by decide +kernel
theorem dX9_cupOf_71 : decode cX9_cupOf 71 = .ok (.if_icmp .gt 19, 3) := by decide +kernel
theorem dX9_cupOf_74 : decode cX9_cupOf 74 = .ok (.iload_n 3, 1) := by decide +kernel
theorem dX9_cupOf_75 : decode cX9_cupOf 75 = .ok (.aload_n 0, 1) := by decide +kernel
theorem dX9_cupOf_76 : decode cX9_cupOf 76 = .ok (.getfield 43, 3) := by decide +kernel
theorem dX9_cupOf_79 : decode cX9_cupOf 79 = .ok (.iconst 3, 1) := by decide +kernel
theorem dX9_cupOf_80 : decode cX9_cupOf 80 = .ok (.iload 4, 2) := by decide +kernel
theorem dX9_cupOf_82 : decode cX9_cupOf 82 = .ok (.imul, 1) := by decide +kernel
theorem dX9_cupOf_83 : decode cX9_cupOf 83 = .ok (.iconst 2, 1) := by decide +kernel
theorem dX9_cupOf_84 : decode cX9_cupOf 84 = .ok (.iadd, 1) := by decide +kernel
theorem dX9_cupOf_85 : decode cX9_cupOf 85 = .ok (.iaload, 1) := by decide +kernel
theorem dX9_cupOf_86 : decode cX9_cupOf 86 = .ok (.invokestatic 244, 3) := by decide +kernel
theorem dX9_cupOf_89 : decode cX9_cupOf 89 = .ok (.istore_n 3, 1) := by decide +kernel
theorem dX9_cupOf_90 : decode cX9_cupOf 90 = .ok (.iinc 4 1, 3) := by decide +kernel
theorem dX9_cupOf_93 : decode cX9_cupOf 93 = .ok (.goto (-73), 3) := by decide +kernel
theorem dX9_cupOf_96 : decode cX9_cupOf 96 = .ok (.iload_n 3, 1) := by decide +kernel
theorem dX9_cupOf_97 : decode cX9_cupOf 97 = .ok (.ireturn, 1) := by decide +kernel
theorem dX9_cupped_0 : decode cX9_cupped 0 = .ok (.aload_n 0, 1) := by decide +kernel
theorem dX9_cupped_1 : decode cX9_cupped 1 = .ok (.iconst 0, 1) := by decide +kernel
theorem dX9_cupped_2 : decode cX9_cupped 2 = .ok (.putfield 68, 3) := by decide +kernel
theorem dX9_cupped_5 : decode cX9_cupped 5 = .ok (.aload_n 0, 1) := by decide +kernel
