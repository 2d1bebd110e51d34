theorem dX9_cupped_6 : decode cX9_cupped 6 = .ok (.iload_n 1, 1) := by decide +kernel
theorem dX9_cupped_7 : decode cX9_cupped 7 = .ok (.iload_n 2, 1) := by decide +kernel
theorem dX9_cupped_8 : decode cX9_cupped 8 = .ok (.iconst 0, 1) := by decide +kernel
theorem dX9_cupped_9 : decode cX9_cupped 9 = .ok (.invokevirtual 301, 3) := by decide +kernel
theorem dX9_cupped_12 : decode cX9_cupped 12 = .ok (.ifCond .ne 6, 3) := by decide +kernel
theorem dX9_cupped_15 : decode cX9_cupped 15 = .ok (.bipush (-2), 2) := by decide +kernel
theorem dX9_cupped_17 : decode cX9_cupped 17 = .ok (.ireturn, 1) := by decide +kernel
theorem dX9_cupped_18 : decode cX9_cupped 18 = .ok (.aload_n 0, 1) := by decide +kernel
theorem dX9_cupped_19 : decode cX9_cupped 19 = .ok (.invokevirtual 286, 3) := by decide +kernel
theorem dX9_cupped_22 : decode cX9_cupped 22 = .ok (.aload_n 0, 1) := by decide +kernel
theorem dX9_cupped_23 : decode cX9_cupped 23 = .ok (.iload_n 1, 1) := by decide +kernel
theorem dX9_cupped_24 : decode cX9_cupped 24 = .ok (.iload_n 2, 1) := by decide +kernel
theorem dX9_cupped_25 : decode cX9_cupped 25 = .ok (.invokevirtual 247, 3) := by decide +kernel
theorem dX9_cupped_28 : decode cX9_cupped 28 = .ok (.ireturn, 1) := by decide +kernel
theorem dX9_cups_0 : decode cX9_cups 0 = .ok (.aload_n 0, 1) := by decide +kernel
theorem dX9_cups_1 : decode cX9_cups 1 = .ok (.iconst 0, 1) := by decide +kernel
theorem dX9_cups_2 : decode cX9_cups 2 = .ok (.putfield 68, 3) := by decide +kernel
theorem dX9_cups_5 : decode cX9_cups 5 = .ok (.aload_n 0, 1) := by decide +kernel
theorem dX9_cups_6 : decode cX9_cups 6 = .ok (.iload_n 1, 1) := by decide +kernel
theorem dX9_cups_7 : decode cX9_cups 7 = .ok (.iload_n 2, 1) := by decide +kernel
theorem dX9_cups_8 : decode cX9_cups 8 = .ok (.iconst 0, 1) := by decide +kernel
theorem dX9_cups_9 : decode cX9_cups 9 = .ok (.invokevirtual 301, 3) := by decide +kernel
theorem dX9_cups_12 : decode cX9_cups 12 = .ok (.ifCond .ne 6, 3) := by decide +kernel
theorem dX9_cups_15 : decode cX9_cups 15 = .ok (.bipush (-2), 2) := by decide +kernel
theorem dX9_cups_17 : decode cX9_cups 17 = .ok (.ireturn, 1) := by decide +kernel
theorem dX9_cups_18 : decode cX9_cups 18 = .ok (.aload_n 0, 1) := by decide +kernel
theorem dX9_cups_19 : decode cX9_cups 19 = .ok (.getfield 34, 3) := by decide +kernel
theorem dX9_cups_22 : decode cX9_cups 22 = .ok (.bipush 6, 2) := by decide +kernel
theorem dX9_cups_24 : decode cX9_cups 24 = .ok (.iaload, 1) := by decide +kernel
theorem dX9_cups_25 : decode cX9_cups 25 = .ok (.bipush 30, 2) := by decide +kernel
theorem dX9_cups_27 : decode cX9_cups 27 = .ok (.if_icmp .ne 6, 3) := by decide +kernel
theorem dX9_cups_30 : decode cX9_cups 30 = .ok (.bipush (-5), 2) := by decide +kernel
theorem dX9_cups_32 : decode cX9_cups 32 = .ok (.ireturn, 1) := by decide +kernel
theorem dX9_cups_33 : decode cX9_cups 33 = .ok (.aload_n 0, 1) := by decide +kernel
theorem dX9_cups_34 : decode cX9_cups 34 = .ok (.iconst 0, 1) := by decide +kernel
theorem dX9_cups_35 : decode cX9_cups 35 = .ok (.iload_n 1, 1) := by decide +kernel
theorem dX9_cups_36 : decode cX9_cups 36 = .ok (.iload_n 2, 1) := by decide +kernel
theorem dX9_cups_37 : decode cX9_cups 37 = .ok (.invokevirtual 409, 3) := by decide +kernel
theorem dX9_cups_40 : decode cX9_cups 40 = .ok (.aload_n 0, 1) := by decide +kernel
theorem dX9_cups_41 : decode cX9_cups 41 = .ok (.invokevirtual 286, 3) := by decide +kernel
theorem dX9_cups_44 : decode cX9_cups 44 = .ok (.aload_n 0, 1) := by decide +kernel
theorem dX9_cups_45 : decode cX9_cups 45 = .ok (.iload_n 1, 1) := by decide +kernel
theorem dX9_cups_46 : decode cX9_cups 46 = .ok (.aload_n 0, 1) := by decide +kernel
theorem dX9_cups_47 : decode cX9_cups 47 = .ok (.invokevirtual 222, 3) := by decide +kernel
theorem dX9_cups_50 : decode cX9_cups 50 = .ok (.invokevirtual 256, 3) := by decide +kernel
theorem dX9_cups_53 : decode cX9_cups 53 = .ok (.ireturn, 1) := by decide +kernel
theorem dX9_cure_0 : decode cX9_cure 0 = .ok (.aload_n 0, 1) := by decide +kernel
theorem dX9_cure_1 : decode cX9_cure 1 = .ok (.iconst 0, 1) := by decide +kernel
theorem dX9_cure_2 : decode cX9_cure 2 = .ok (.putfield 68, 3) := by decide +kernel
theorem dX9_cure_5 : decode cX9_cure 5 = .ok (.aload_n 0, 1) := by decide +kernel
theorem dX9_cure_6 : decode cX9_cure 6 = .ok (.iload_n 1, 1) := by decide +kernel
theorem dX9_cure_7 : decode cX9_cure 7 = .ok (.i2l, 1) := by decide +kernel
theorem dX9_cure_8 : decode cX9_cure 8 = .ok (.invokevirtual 289, 3) := by decide +kernel
theorem dX9_cure_11 : decode cX9_cure 11 = .ok (.ifCond .ne 6, 3) := by decide +kernel
theorem dX9_cure_14 : decode cX9_cure 14 = .ok (.bipush (-2), 2) := by decide +kernel
theorem dX9_cure_16 : decode cX9_cure 16 = .ok (.ireturn, 1) := by decide +kernel
theorem dX9_cure_17 : decode cX9_cure 17 = .ok (.aload_n 0, 1) := by decide +kernel
theorem dX9_cure_18 : decode cX9_cure 18 = .ok (.iload_n 1, 1) := by decide +kernel
theorem dX9_cure_19 : decode cX9_cure 19 = .ok (.invokevirtual 337, 3) := by decide +kernel
theorem dX9_cure_22 : decode cX9_cure 22 = .ok (.istore_n 2, 1) := by decide +kernel
theorem dX9_cure_23 : decode cX9_cure 23 = .ok (.iload_n 2, 1) := by decide +kernel
theorem dX9_cure_24 : decode cX9_cure 24 = .ok (.iconst (-1), 1) := by decide +kernel
theorem dX9_cure_25 : decode cX9_cure 25 = .ok (.if_icmp .ne 7, 3) := by decide +kernel
theorem dX9_cure_28 : decode cX9_cure 28 = .ok (.iconst (-1), 1) := by decide +kernel
theorem dX9_cure_29 : decode cX9_cure 29 = .ok (.goto 7, 3) := by decide +kernel
theorem dX9_cure_32 : decode cX9_cure 32 = .ok (.iload_n 2, 1) := by decide +kernel
theorem dX9_cure_33 : decode cX9_cure 33 = .ok (.invokestatic 274, 3) := by decide +kernel
theorem dX9_cure_36 : decode cX9_cure 36 = .ok (.ireturn, 1) := by decide +kernel
theorem dX9_cureOf_0 : decode cX9_cureOf 0 = .ok (.iconst (-1), 1) := by decide +kernel
theorem dX9_cureOf_1 : decode cX9_cureOf 1 = .ok (.istore_n 2, 1) := by decide +kernel
theorem dX9_cureOf_2 : decode cX9_cureOf 2 = .ok (.iconst 0, 1) := by decide +kernel
theorem dX9_cureOf_3 : decode cX9_cureOf 3 = .ok (.istore_n 3, 1) := by decide +kernel
theorem dX9_cureOf_4 : decode cX9_cureOf 4 = .ok (.iload_n 3, 1) := by decide +kernel
theorem dX9_cureOf_5 : decode cX9_cureOf 5 = .ok (.iconst 1, 1) := by decide +kernel
theorem dX9_cureOf_6 : decode cX9_cureOf 6 = .ok (.aload_n 0, 1) := by decide +kernel
theorem dX9_cureOf_7 : decode cX9_cureOf 7 = .ok (.invokevirtual 212, 3) := by decide +kernel
theorem dX9_cureOf_10 : decode cX9_cureOf 10 = .ok (.ishl, 1) := by decide +kernel
theorem dX9_cureOf_11 : decode cX9_cureOf 11 = .ok (.if_icmp .ge 48, 3) := by decide +kernel
theorem dX9_cureOf_14 : decode cX9_cureOf 14 = .ok (.iload_n 2, 1) := by decide +kernel
theorem dX9_cureOf_15 : decode cX9_cureOf 15 = .ok (.iconst (-1), 1) := by decide +kernel
theorem dX9_cureOf_16 : decode cX9_cureOf 16 = .ok (.if_icmp .eq 17, 3) := by decide +kernel
theorem dX9_cureOf_19 : decode cX9_cureOf 19 = .ok (.iload_n 3, 1) := by decide +kernel
theorem dX9_cureOf_20 : decode cX9_cureOf 20 = .ok (.invokestatic 274, 3) := by decide +kernel
theorem dX9_cureOf_23 : decode cX9_cureOf 23 = .ok (.iload_n 2, 1) := by decide +kernel
theorem dX9_cureOf_24 : decode cX9_cureOf 24 = .ok (.invokestatic 274, 3) := by decide +kernel
theorem dX9_cureOf_27 : decode cX9_cureOf 27 = .ok (.if_icmp .lt 6, 3) := by decide +kernel
theorem dX9_cureOf_30 : decode cX9_cureOf 30 = .ok (.goto 23, 3) := by decide +kernel
theorem dX9_cureOf_33 : decode cX9_cureOf 33 = .ok (.aload_n 0, 1) := by decide +kernel
theorem dX9_cureOf_34 : decode cX9_cureOf 34 = .ok (.invokevirtual 286, 3) := by decide +kernel
theorem dX9_cureOf_37 : decode cX9_cureOf 37 = .ok (.aload_n 0, 1) := by decide +kernel
theorem dX9_cureOf_38 : decode cX9_cureOf 38 = .ok (.iload_n 3, 1) := by decide +kernel
theorem dX9_cureOf_39 : decode cX9_cureOf 39 = .ok (.putfield 231, 3) := by decide +kernel
theorem dX9_cureOf_42 : decode cX9_cureOf 42 = .ok (.aload_n 0, 1) := by decide +kernel
theorem dX9_cureOf_43 : decode cX9_cureOf 43 = .ok (.iload_n 1, 1) := by decide +kernel
theorem dX9_cureOf_44 : decode cX9_cureOf 44 = .ok (.iload_n 1, 1) := by decide +kernel
theorem dX9_cureOf_45 : decode cX9_cureOf 45 = .ok (.invokevirtual 331, 3) := by decide +kernel
theorem dX9_cureOf_48 : decode cX9_cureOf 48 = .ok (.ifCond .eq 5, 3) := by decide +kernel
theorem dX9_cureOf_51 : decode cX9_cureOf 51 = .ok (.iload_n 3, 1) := by decide +kernel
theorem dX9_cureOf_52 : decode cX9_cureOf 52 = .ok (.istore_n 2, 1) := by decide +kernel
theorem dX9_cureOf_53 : decode cX9_cureOf 53 = .ok (.iinc 3 1, 3) := by decide +kernel
theorem dX9_cureOf_56 : decode cX9_cureOf 56 = .ok (.goto (-52), 3) := by decide +kernel
theorem dX9_cureOf_59 : decode cX9_cureOf 59 = .ok (.iload_n 2, 1) := by decide +kernel
theorem dX9_cureOf_60 : decode cX9_cureOf 60 = .ok (.ireturn, 1) := by decide +kernel
theorem dX9_cures_0 : decode cX9_cures 0 = .ok (.aload_n 0, 1) := by decide +kernel
theorem dX9_cures_1 : decode cX9_cures 1 = .ok (.iconst 0, 1) := by decide +kernel
theorem dX9_cures_2 : decode cX9_cures 2 = .ok (.putfield 68, 3) := by decide +kernel
theorem dX9_cures_5 : decode cX9_cures 5 = .ok (.aload_n 0, 1) := by decide +kernel
theorem dX9_cures_6 : decode cX9_cures 6 = .ok (.iload_n 1, 1) := by decide +kernel
theorem dX9_cures_7 : decode cX9_cures 7 = .ok (.i2l, 1) := by decide +kernel
theorem dX9_cures_8 : decode cX9_cures 8 = .ok (.invokevirtual 289, 3) := by decide +kernel
theorem dX9_cures_11 : decode cX9_cures 11 = .ok (.ifCond .eq 11, 3) := by decide +kernel
theorem dX9_cures_14 : decode cX9_cures 14 = .ok (.aload_n 0, 1) := by decide +kernel
theorem dX9_cures_15 : decode cX9_cures 15 = .ok (.iload_n 1, 1) := by decide +kernel
theorem dX9_cures_16 : decode cX9_cures 16 = .ok (.invokevirtual 337, 3) := by decide +kernel
theorem dX9_cures_19 : decode cX9_cures 19 = .ok (.goto 5, 3) := by decide +kernel
theorem dX9_cures_22 : decode cX9_cures 22 = .ok (.bipush (-2), 2) := by decide +kernel
theorem dX9_cures_24 : decode cX9_cures 24 = .ok (.ireturn, 1) := by decide +kernel
theorem dX9_cut_0 : decode cX9_cut 0 = .ok (.iload_n 2, 1) := by decide +kernel
theorem dX9_cut_1 : decode cX9_cut 1 = .ok (.ifCond .ne 10, 3) := by decide +kernel
theorem dX9_cut_4 : decode cX9_cut 4 = .ok (.lload_n 0, 1) := by decide +kernel
theorem dX9_cut_5 : decode cX9_cut 5 = .ok (.l2i, 1) := by decide +kernel
theorem dX9_cut_6 : decode cX9_cut 6 = .ok (.i2b, 1) := by decide +kernel
theorem dX9_cut_7 : decode cX9_cut 7 = .ok (.i2l, 1) := by decide +kernel
theorem dX9_cut_8 : decode cX9_cut 8 = .ok (.goto 27, 3) := by decide +kernel
theorem dX9_cut_11 : decode cX9_cut 11 = .ok (.iload_n 2, 1) := by decide +kernel
theorem dX9_cut_12 : decode cX9_cut 12 = .ok (.iconst 1, 1) := by decide +kernel
theorem dX9_cut_13 : decode cX9_cut 13 = .ok (.if_icmp .ne 10, 3) := by decide +kernel
theorem dX9_cut_16 : decode cX9_cut 16 = .ok (.lload_n 0, 1) := by decide +kernel
theorem dX9_cut_17 : decode cX9_cut 17 = .ok (.l2i, 1) := by decide +kernel
theorem dX9_cut_18 : decode cX9_cut 18 = .ok (.i2s, 1) := by decide +kernel
theorem dX9_cut_19 : decode cX9_cut 19 = .ok (.i2l, 1) := by decide +kernel
theorem dX9_cut_20 : decode cX9_cut 20 = .ok (.goto 15, 3) := by decide +kernel
theorem dX9_cut_23 : decode cX9_cut 23 = .ok (.iload_n 2, 1) := by decide +kernel
theorem dX9_cut_24 : decode cX9_cut 24 = .ok (.iconst 2, 1) := by decide +kernel
theorem dX9_cut_25 : decode cX9_cut 25 = .ok (.if_icmp .ne 9, 3) := by decide +kernel
theorem dX9_cut_28 : decode cX9_cut 28 = .ok (.lload_n 0, 1) := by decide +kernel
theorem dX9_cut_29 : decode cX9_cut 29 = .ok (.l2i, 1) := by decide +kernel
theorem dX9_cut_30 : decode cX9_cut 30 = .ok (.i2l, 1) := by decide +kernel
theorem dX9_cut_31 : decode cX9_cut 31 = .ok (.goto 4, 3) := by decide +kernel
theorem dX9_cut_34 : decode cX9_cut 34 = .ok (.lload_n 0, 1) := by decide +kernel
theorem dX9_cut_35 : decode cX9_cut 35 = .ok (.lreturn, 1) := by decide +kernel
theorem dX9_damp_0 : decode cX9_damp 0 = .ok (.aload_n 0, 1) := by decide +kernel
theorem dX9_damp_1 : decode cX9_damp 1 = .ok (.iconst 0, 1) := by decide +kernel
theorem dX9_damp_2 : decode cX9_damp 2 = .ok (.putfield 68, 3) := by decide +kernel
theorem dX9_damp_5 : decode cX9_damp 5 = .ok (.aload_n 0, 1) := by decide +kernel
theorem dX9_damp_6 : decode cX9_damp 6 = .ok (.iload_n 1, 1) := by decide +kernel
theorem dX9_damp_7 : decode cX9_damp 7 = .ok (.iload_n 2, 1) := by decide +kernel
theorem dX9_damp_8 : decode cX9_damp 8 = .ok (.iconst 0, 1) := by decide +kernel
theorem dX9_damp_9 : decode cX9_damp 9 = .ok (.invokevirtual 301, 3) := by decide +kernel
theorem dX9_damp_12 : decode cX9_damp 12 = .ok (.ifCond .ne 6, 3) := by decide +kernel
theorem dX9_damp_15 : decode cX9_damp 15 = .ok (.bipush (-2), 2) := by decide +kernel
theorem dX9_damp_17 : decode cX9_damp 17 = .ok (.ireturn, 1) := by decide +kernel
theorem dX9_damp_18 : decode cX9_damp 18 = .ok (.aload_n 0, 1) := by decide +kernel
theorem dX9_damp_19 : decode cX9_damp 19 = .ok (.invokevirtual 286, 3) := by decide +kernel
theorem dX9_damp_22 : decode cX9_damp 22 = .ok (.aload_n 0, 1) := by decide +kernel
theorem dX9_damp_23 : decode cX9_damp 23 = .ok (.iload_n 1, 1) := by decide +kernel
theorem dX9_damp_24 : decode cX9_damp 24 = .ok (.iload_n 2, 1) := by decide +kernel
theorem dX9_damp_25 : decode cX9_damp 25 = .ok (.invokevirtual 256, 3) := by decide +kernel
theorem dX9_damp_28 : decode cX9_damp 28 = .ok (.istore_n 3, 1) := by decide +kernel
theorem dX9_damp_29 : decode cX9_damp 29 = .ok (.aload_n 0, 1) := by decide +kernel
theorem dX9_damp_30 : decode cX9_damp 30 = .ok (.iconst 0, 1) := by decide +kernel
theorem dX9_damp_31 : decode cX9_damp 31 = .ok (.putfield 228, 3) := by decide +kernel
theorem dX9_damp_34 : decode cX9_damp 34 = .ok (.aload_n 0, 1) := by decide +kernel
theorem dX9_damp_35 : decode cX9_damp 35 = .ok (.iload_n 1, 1) := by decide +kernel
theorem dX9_damp_36 : decode cX9_damp 36 = .ok (.iload_n 2, 1) := by decide +kernel
theorem dX9_damp_37 : decode cX9_damp 37 = .ok (.invokevirtual 256, 3) := by decide +kernel
theorem dX9_damp_40 : decode cX9_damp 40 = .ok (.iload_n 3, 1) := by decide +kernel
theorem dX9_damp_41 : decode cX9_damp 41 = .ok (.isub, 1) := by decide +kernel
theorem dX9_damp_42 : decode cX9_damp 42 = .ok (.ireturn, 1) := by decide +kernel
theorem dX9_dayBy_0 : decode cX9_dayBy 0 = .ok (.aload_n 0, 1) := by decide +kernel
theorem dX9_dayBy_1 : decode cX9_dayBy 1 = .ok (.invokevirtual 286, 3) := by decide +kernel
theorem dX9_dayBy_4 : decode cX9_dayBy 4 = .ok (.iconst 0, 1) := by decide +kernel
theorem dX9_dayBy_5 : decode cX9_dayBy 5 = .ok (.istore_n 2, 1) := by decide +kernel
theorem dX9_dayBy_6 : decode cX9_dayBy 6 = .ok (.iload_n 1, 1) := by decide +kernel
theorem dX9_dayBy_7 : decode cX9_dayBy 7 = .ok (.aload_n 0, 1) := by decide +kernel
theorem dX9_dayBy_8 : decode cX9_dayBy 8 = .ok (.iconst 0, 1) := by decide +kernel
theorem dX9_dayBy_9 : decode cX9_dayBy 9 = .ok (.invokevirtual 271, 3) := by decide +kernel
theorem dX9_dayBy_12 : decode cX9_dayBy 12 = .ok (.invokestatic 274, 3) := by decide +kernel
theorem dX9_dayBy_15 : decode cX9_dayBy 15 = .ok (.imul, 1) := by decide +kernel
theorem dX9_dayBy_16 : decode cX9_dayBy 16 = .ok (.istore_n 3, 1) := by decide +kernel
theorem dX9_dayBy_17 : decode cX9_dayBy 17 = .ok (.iconst 1, 1) := by decide +kernel
theorem dX9_dayBy_18 : decode cX9_dayBy 18 = .ok (.istore 4, 2) := by decide +kernel
theorem dX9_dayBy_20 : decode cX9_dayBy 20 = .ok (.iload 4, 2) := by decide +kernel
theorem dX9_dayBy_22 : decode cX9_dayBy 22 = .ok (.aload_n 0, 1) := by decide +kernel
theorem dX9_dayBy_23 : decode cX9_dayBy 23 = .ok (.invokevirtual 222, 3) := by decide +kernel
theorem dX9_dayBy_26 : decode cX9_dayBy 26 = .ok (.if_icmp .gt 37, 3) := by decide +kernel
theorem dX9_dayBy_29 : decode cX9_dayBy 29 = .ok (.iload_n 1, 1) := by decide +kernel
theorem dX9_dayBy_30 : decode cX9_dayBy 30 = .ok (.aload_n 0, 1) := by decide +kernel
theorem dX9_dayBy_31 : decode cX9_dayBy 31 = .ok (.iload 4, 2) := by decide +kernel
theorem dX9_dayBy_33 : decode cX9_dayBy 33 = .ok (.invokevirtual 271, 3) := by decide +kernel
theorem dX9_dayBy_36 : decode cX9_dayBy 36 = .ok (.invokestatic 274, 3) := by decide +kernel
theorem dX9_dayBy_39 : decode cX9_dayBy 39 = .ok (.imul, 1) := by decide +kernel
theorem dX9_dayBy_40 : decode cX9_dayBy 40 = .ok (.istore 5, 2) := by decide +kernel
theorem dX9_dayBy_42 : decode cX9_dayBy 42 = .ok (.iload 5, 2) := by decide +kernel
theorem dX9_dayBy_44 : decode cX9_dayBy 44 = .ok (.iload_n 3, 1) := by decide +kernel
theorem dX9_dayBy_45 : decode cX9_dayBy 45 = .ok (.if_icmp .gt 6, 3) := by decide +kernel
theorem dX9_dayBy_48 : decode cX9_dayBy 48 = .ok (.goto 9, 3) := by decide +kernel
theorem dX9_dayBy_51 : decode cX9_dayBy 51 = .ok (.iload 4, 2) := by decide +kernel
theorem dX9_dayBy_53 : decode cX9_dayBy 53 = .ok (.istore_n 2, 1) := by decide +kernel
theorem dX9_dayBy_54 : decode cX9_dayBy 54 = .ok (.iload 5, 2) := by decide +kernel
theorem dX9_dayBy_56 : decode cX9_dayBy 56 = .ok (.istore_n 3, 1) := by decide +kernel
theorem dX9_dayBy_57 : decode cX9_dayBy 57 = .ok (.iinc 4 1, 3) := by decide +kernel
theorem dX9_dayBy_60 : decode cX9_dayBy 60 = .ok (.goto (-40), 3) := by decide +kernel
theorem dX9_dayBy_63 : decode cX9_dayBy 63 = .ok (.iload_n 2, 1) := by decide +kernel
theorem dX9_dayBy_64 : decode cX9_dayBy 64 = .ok (.ireturn, 1) := by decide +kernel
theorem dX9_days_0 : decode cX9_days 0 = .ok (.aload_n 0, 1) := by decide +kernel
theorem dX9_days_1 : decode cX9_days 1 = .ok (.getfield 34, 3) := by decide +kernel
theorem dX9_days_4 : decode cX9_days 4 = .ok (.iconst 0, 1) := by decide +kernel
theorem dX9_days_5 : decode cX9_days 5 = .ok (.iaload, 1) := by decide +kernel
theorem dX9_days_6 : decode cX9_days 6 = .ok (.ireturn, 1) := by decide +kernel
theorem dX9_daysOf_0 : decode cX9_daysOf 0 = .ok (.aload_n 0, 1) := by decide +kernel
theorem dX9_daysOf_1 : decode cX9_daysOf 1 = .ok (.invokevirtual 286, 3) := by decide +kernel
theorem dX9_daysOf_4 : decode cX9_daysOf 4 = .ok (.iconst 0, 1) := by decide +kernel
theorem dX9_daysOf_5 : decode cX9_daysOf 5 = .ok (.istore 4, 2) := by decide +kernel
theorem dX9_daysOf_7 : decode cX9_daysOf 7 = .ok (.iconst 0, 1) := by decide +kernel
theorem dX9_daysOf_8 : decode cX9_daysOf 8 = .ok (.istore 5, 2) := by decide +kernel
theorem dX9_daysOf_10 : decode cX9_daysOf 10 = .ok (.iload 5, 2) := by decide +kernel
theorem dX9_daysOf_12 : decode cX9_daysOf 12 = .ok (.aload_n 0, 1) := by decide +kernel
theorem dX9_daysOf_13 : decode cX9_daysOf 13 = .ok (.invokevirtual 222, 3) := by decide +kernel
theorem dX9_daysOf_16 : decode cX9_daysOf 16 = .ok (.if_icmp .gt 72, 3) := by decide +kernel
theorem dX9_daysOf_19 : decode cX9_daysOf 19 = .ok (.aload_n 0, 1) := by decide +kernel
theorem dX9_daysOf_20 : decode cX9_daysOf 20 = .ok (.iload 5, 2) := by decide +kernel
theorem dX9_daysOf_22 : decode cX9_daysOf 22 = .ok (.invokevirtual 271, 3) := by decide +kernel
theorem dX9_daysOf_25 : decode cX9_daysOf 25 = .ok (.istore 6, 2) := by decide +kernel
theorem dX9_daysOf_27 : decode cX9_daysOf 27 = .ok (.iload 4, 2) := by decide +kernel
theorem dX9_daysOf_29 : decode cX9_daysOf 29 = .ok (.iload_n 3, 1) := by decide +kernel
theorem dX9_daysOf_30 : decode cX9_daysOf 30 = .ok (.ifCond .eq 29, 3) := by decide +kernel
theorem dX9_daysOf_33 : decode cX9_daysOf 33 = .ok (.iload 6, 2) := by decide +kernel
theorem dX9_daysOf_35 : decode cX9_daysOf 35 = .ok (.iload_n 1, 1) := by decide +kernel
theorem dX9_daysOf_36 : decode cX9_daysOf 36 = .ok (.invokestatic 240, 3) := by decide +kernel
theorem dX9_daysOf_39 : decode cX9_daysOf 39 = .ok (.ifCond .eq 16, 3) := by decide +kernel
theorem dX9_daysOf_42 : decode cX9_daysOf 42 = .ok (.iload 6, 2) := by decide +kernel
theorem dX9_daysOf_44 : decode cX9_daysOf 44 = .ok (.iload_n 2, 1) := by decide +kernel
theorem dX9_daysOf_45 : decode cX9_daysOf 45 = .ok (.invokestatic 240, 3) := by decide +kernel
theorem dX9_daysOf_48 : decode cX9_daysOf 48 = .ok (.ifCond .eq 7, 3) := by decide +kernel
theorem dX9_daysOf_51 : decode cX9_daysOf 51 = .ok (.iconst 1, 1) := by decide +kernel
theorem dX9_daysOf_52 : decode cX9_daysOf 52 = .ok (.goto 27, 3) := by decide +kernel
theorem dX9_daysOf_55 : decode cX9_daysOf 55 = .ok (.iconst 0, 1) := by decide +kernel
theorem dX9_daysOf_56 : decode cX9_daysOf 56 = .ok (.goto 23, 3) := by decide +kernel
theorem dX9_daysOf_59 : decode cX9_daysOf 59 = .ok (.iload 6, 2) := by decide +kernel
theorem dX9_daysOf_61 : decode cX9_daysOf 61 = .ok (.iload_n 1, 1) := by decide +kernel
theorem dX9_daysOf_62 : decode cX9_daysOf 62 = .ok (.invokestatic 240, 3) := by decide +kernel
theorem dX9_daysOf_65 : decode cX9_daysOf 65 = .ok (.iload 6, 2) := by decide +kernel
theorem dX9_daysOf_67 : decode cX9_daysOf 67 = .ok (.iload_n 2, 1) := by decide +kernel
theorem dX9_daysOf_68 : decode cX9_daysOf 68 = .ok (.invokestatic 240, 3) := by decide +kernel
theorem dX9_daysOf_71 : decode cX9_daysOf 71 = .ok (.if_icmp .eq 7, 3) := by decide +kernel
theorem dX9_daysOf_74 : decode cX9_daysOf 74 = .ok (.iconst 1, 1) := by decide +kernel
theorem dX9_daysOf_75 : decode cX9_daysOf 75 = .ok (.goto 4, 3) := by decide +kernel
theorem dX9_daysOf_78 : decode cX9_daysOf 78 = .ok (.iconst 0, 1) := by decide +kernel
theorem dX9_daysOf_79 : decode cX9_daysOf 79 = .ok (.iadd, 1) := by decide +kernel
theorem dX9_daysOf_80 : decode cX9_daysOf 80 = .ok (.istore 4, 2) := by decide +kernel
theorem dX9_daysOf_82 : decode cX9_daysOf 82 = .ok (.iinc 5 1, 3) := by decide +kernel
theorem dX9_daysOf_85 : decode cX9_daysOf 85 = .ok (.goto (-75), 3) := by decide +kernel
theorem dX9_daysOf_88 : decode cX9_daysOf 88 = .ok (.iload 4, 2) := by decide +kernel
theorem dX9_daysOf_90 : decode cX9_daysOf 90 = .ok (.ireturn, 1) := by decide +kernel
theorem dX9_deaf_0 : decode cX9_deaf 0 = .ok (.aload_n 0, 1) := by decide +kernel
theorem dX9_deaf_1 : decode cX9_deaf 1 = .ok (.iconst 0, 1) := by decide +kernel
theorem dX9_deaf_2 : decode cX9_deaf 2 = .ok (.putfield 68, 3) := by decide +kernel
theorem dX9_deaf_5 : decode cX9_deaf 5 = .ok (.aload_n 0, 1) := by decide +kernel
theorem dX9_deaf_6 : decode cX9_deaf 6 = .ok (.iload_n 1, 1) := by decide +kernel
theorem dX9_deaf_7 : decode cX9_deaf 7 = .ok (.invokevirtual 268, 3) := by decide +kernel
theorem dX9_deaf_10 : decode cX9_deaf 10 = .ok (.ifCond .ne 6, 3) := by decide +kernel
theorem dX9_deaf_13 : decode cX9_deaf 13 = .ok (.bipush (-2), 2) := by decide +kernel
theorem dX9_deaf_15 : decode cX9_deaf 15 = .ok (.ireturn, 1) := by decide +kernel
theorem dX9_deaf_16 : decode cX9_deaf 16 = .ok (.aload_n 0, 1) := by decide +kernel
theorem dX9_deaf_17 : decode cX9_deaf 17 = .ok (.invokevirtual 286, 3) := by decide +kernel
theorem dX9_deaf_20 : decode cX9_deaf 20 = .ok (.iconst 0, 1) := by decide +kernel
theorem dX9_deaf_21 : decode cX9_deaf 21 = .ok (.istore_n 2, 1) := by decide +kernel
theorem dX9_deaf_22 : decode cX9_deaf 22 = .ok (.iconst 0, 1) := by decide +kernel
theorem dX9_deaf_23 : decode cX9_deaf 23 = .ok (.istore_n 3, 1) := by decide +kernel
theorem dX9_deaf_24 : decode cX9_deaf 24 = .ok (.iload_n 3, 1) := by decide +kernel
theorem dX9_deaf_25 : decode cX9_deaf 25 = .ok (.aload_n 0, 1) := by decide +kernel
theorem dX9_deaf_26 : decode cX9_deaf 26 = .ok (.invokevirtual 222, 3) := by decide +kernel
theorem dX9_deaf_29 : decode cX9_deaf 29 = .ok (.if_icmp .gt 26, 3) := by decide +kernel
theorem dX9_deaf_32 : decode cX9_deaf 32 = .ok (.iload_n 2, 1) := by decide +kernel
theorem dX9_deaf_33 : decode cX9_deaf 33 = .ok (.aload_n 0, 1) := by decide +kernel
theorem dX9_deaf_34 : decode cX9_deaf 34 = .ok (.iload_n 1, 1) := by decide +kernel
theorem dX9_deaf_35 : decode cX9_deaf 35 = .ok (.iload_n 3, 1) := by decide +kernel
theorem dX9_deaf_36 : decode cX9_deaf 36 = .ok (.invokevirtual 308, 3) := by decide +kernel
theorem dX9_deaf_39 : decode cX9_deaf 39 = .ok (.ifCond .eq 7, 3) := by decide +kernel
theorem dX9_deaf_42 : decode cX9_deaf 42 = .ok (.iconst 0, 1) := by decide +kernel
theorem dX9_deaf_43 : decode cX9_deaf 43 = .ok (.goto 4, 3) := by decide +kernel
theorem dX9_deaf_46 : decode cX9_deaf 46 = .ok (.iconst 1, 1) := by decide +kernel
theorem dX9_deaf_47 : decode cX9_deaf 47 = .ok (.iadd, 1) := by decide +kernel
theorem dX9_deaf_48 : decode cX9_deaf 48 = .ok (.istore_n 2, 1) := by decide +kernel
theorem dX9_deaf_49 : decode cX9_deaf 49 = .ok (.iinc 3 1, 3) := by decide +kernel
theorem dX9_deaf_52 : decode cX9_deaf 52 = .ok (.goto (-28), 3) := by decide +kernel
theorem dX9_deaf_55 : decode cX9_deaf 55 = .ok (.iload_n 2, 1) := by decide +kernel
theorem dX9_deaf_56 : decode cX9_deaf 56 = .ok (.ireturn, 1) := by decide +kernel
theorem dX9_dim_0 : decode cX9_dim 0 = .ok (.aload_n 0, 1) := by decide +kernel
theorem dX9_dim_1 : decode cX9_dim 1 = .ok (.iconst 0, 1) := by decide +kernel
theorem dX9_dim_2 : decode cX9_dim 2 = .ok (.putfield 68, 3) := by decide +kernel
theorem dX9_dim_5 : decode cX9_dim 5 = .ok (.aload_n 0, 1) := by decide +kernel
theorem dX9_dim_6 : decode cX9_dim 6 = .ok (.invokevirtual 219, 3) := by decide +kernel
theorem dX9_dim_9 : decode cX9_dim 9 = .ok (.ifCond .eq 11, 3) := by decide +kernel
theorem dX9_dim_12 : decode cX9_dim 12 = .ok (.aload_n 0, 1) := by decide +kernel
theorem dX9_dim_13 : decode cX9_dim 13 = .ok (.iconst (-1), 1) := by decide +kernel
theorem dX9_dim_14 : decode cX9_dim 14 = .ok (.invokevirtual 311, 3) := by decide +kernel
theorem dX9_dim_17 : decode cX9_dim 17 = .ok (.goto 5, 3) := by decide +kernel
theorem dX9_dim_20 : decode cX9_dim 20 = .ok (.bipush (-2), 2) := by decide +kernel
theorem dX9_dim_22 : decode cX9_dim 22 = .ok (.ireturn, 1) := by decide +kernel
theorem dX9_does_0 : decode cX9_does 0 = .ok (.iconst 3, 1) := by decide +kernel
theorem dX9_does_1 : decode cX9_does 1 = .ok (.aload_n 0, 1) := by decide +kernel
theorem dX9_does_2 : decode cX9_does 2 = .ok (.getfield 34, 3) := by decide +kernel
theorem dX9_does_5 : decode cX9_does 5 = .ok (.bipush 6, 2) := by decide +kernel
theorem dX9_does_7 : decode cX9_does 7 = .ok (.iaload, 1) := by decide +kernel
theorem dX9_does_8 : decode cX9_does 8 = .ok (.imul, 1) := by decide +kernel
theorem dX9_does_9 : decode cX9_does 9 = .ok (.istore 4, 2) := by decide +kernel
theorem dX9_does_11 : decode cX9_does 11 = .ok (.aload_n 0, 1) := by decide +kernel
theorem dX9_does_12 : decode cX9_does 12 = .ok (.getfield 43, 3) := by decide +kernel
theorem dX9_does_15 : decode cX9_does 15 = .ok (.iload 4, 2) := by decide +kernel
theorem dX9_does_17 : decode cX9_does 17 = .ok (.iload_n 1, 1) := by decide +kernel
theorem dX9_does_18 : decode cX9_does 18 = .ok (.iastore, 1) := by decide +kernel
theorem dX9_does_19 : decode cX9_does 19 = .ok (.aload_n 0, 1) := by decide +kernel
theorem dX9_does_20 : decode cX9_does 20 = .ok (.getfield 43, 3) := by decide +kernel
theorem dX9_does_23 : decode cX9_does 23 = .ok (.iload 4, 2) := by decide +kernel
theorem dX9_does_25 : decode cX9_does 25 = .ok (.iconst 1, 1) := by decide +kernel
theorem dX9_does_26 : decode cX9_does 26 = .ok (.iadd, 1) := by decide +kernel
theorem dX9_does_27 : decode cX9_does 27 = .ok (.iload_n 2, 1) := by decide +kernel
theorem dX9_does_28 : decode cX9_does 28 = .ok (.iastore, 1) := by decide +kernel
theorem dX9_does_29 : decode cX9_does 29 = .ok (.aload_n 0, 1) := by decide +kernel
theorem dX9_does_30 : decode cX9_does 30 = .ok (.getfield 43, 3) := by decide +kernel
theorem dX9_does_33 : decode cX9_does 33 = .ok (.iload 4, 2) := by decide +kernel
theorem dX9_does_35 : decode cX9_does 35 = .ok (.iconst 2, 1) := by decide +kernel
theorem dX9_does_36 : decode cX9_does 36 = .ok (.iadd, 1) := by decide +kernel
theorem dX9_does_37 : decode cX9_does 37 = .ok (.iload_n 3, 1) := by decide +kernel
theorem dX9_does_38 : decode cX9_does 38 = .ok (.iastore, 1) := by decide +kernel
theorem dX9_does_39 : decode cX9_does 39 = .ok (.aload_n 0, 1) := by decide +kernel
theorem dX9_does_40 : decode cX9_does 40 = .ok (.getfield 34, 3) := by decide +kernel
theorem dX9_does_43 : decode cX9_does 43 = .ok (.bipush 6, 2) := by decide +kernel
theorem dX9_does_45 : decode cX9_does 45 = .ok (.dup2, 1) := by decide +kernel
theorem dX9_does_46 : decode cX9_does 46 = .ok (.iaload, 1) := by decide +kernel
theorem dX9_does_47 : decode cX9_does 47 = .ok (.iconst 1, 1) := by decide +kernel
theorem dX9_does_48 : decode cX9_does 48 = .ok (.iadd, 1) := by decide +kernel
theorem dX9_does_49 : decode cX9_does 49 = .ok (.iastore, 1) := by decide +kernel
theorem dX9_does_50 : decode cX9_does 50 = .ok (.return_, 1) := by decide +kernel
theorem dX9_drawn_0 : decode cX9_drawn 0 = .ok (.aload_n 0, 1) := by decide +kernel
theorem dX9_drawn_1 : decode cX9_drawn 1 = .ok (.iconst 0, 1) := by decide +kernel
theorem dX9_drawn_2 : decode cX9_drawn 2 = .ok (.putfield 68, 3) := by decide +kernel
theorem dX9_drawn_5 : decode cX9_drawn 5 = .ok (.aload_n 0, 1) := by decide +kernel
theorem dX9_drawn_6 : decode cX9_drawn 6 = .ok (.invokevirtual 219, 3) := by decide +kernel
theorem dX9_drawn_9 : decode cX9_drawn 9 = .ok (.ifCond .eq 17, 3) := by decide +kernel
theorem dX9_drawn_12 : decode cX9_drawn 12 = .ok (.iload_n 1, 1) := by decide +kernel
theorem dX9_drawn_13 : decode cX9_drawn 13 = .ok (.invokestatic 401, 3) := by decide +kernel
theorem dX9_drawn_16 : decode cX9_drawn 16 = .ok (.ifCond .eq 10, 3) := by decide +kernel
theorem dX9_drawn_19 : decode cX9_drawn 19 = .ok (.iload_n 2, 1) := by decide +kernel
theorem dX9_drawn_20 : decode cX9_drawn 20 = .ok (.invokestatic 292, 3) := by decide +kernel
theorem dX9_drawn_23 : decode cX9_drawn 23 = .ok (.ifCond .ne 6, 3) := by decide +kernel
theorem dX9_drawn_26 : decode cX9_drawn 26 = .ok (.bipush (-2), 2) := by decide +kernel
theorem dX9_drawn_28 : decode cX9_drawn 28 = .ok (.ireturn, 1) := by decide +kernel
theorem dX9_drawn_29 : decode cX9_drawn 29 = .ok (.aload_n 0, 1) := by decide +kernel
theorem dX9_drawn_30 : decode cX9_drawn 30 = .ok (.iload_n 1, 1) := by decide +kernel
theorem dX9_drawn_31 : decode cX9_drawn 31 = .ok (.i2l, 1) := by decide +kernel
theorem dX9_drawn_32 : decode cX9_drawn 32 = .ok (.invokevirtual 404, 3) := by decide +kernel
theorem dX9_drawn_35 : decode cX9_drawn 35 = .ok (.iload_n 2, 1) := by decide +kernel
theorem dX9_drawn_36 : decode cX9_drawn 36 = .ok (.ifCond .ne 10, 3) := by decide +kernel
theorem dX9_drawn_39 : decode cX9_drawn 39 = .ok (.aload_n 0, 1) := by decide +kernel
theorem dX9_drawn_40 : decode cX9_drawn 40 = .ok (.getfield 228, 3) := by decide +kernel
theorem dX9_drawn_43 : decode cX9_drawn 43 = .ok (.goto 11, 3) := by decide +kernel
theorem dX9_drawn_46 : decode cX9_drawn 46 = .ok (.aload_n 0, 1) := by decide +kernel
theorem dX9_drawn_47 : decode cX9_drawn 47 = .ok (.aload_n 0, 1) := by decide +kernel
theorem dX9_drawn_48 : decode cX9_drawn 48 = .ok (.invokevirtual 222, 3) := by decide +kernel
theorem dX9_drawn_51 : decode cX9_drawn 51 = .ok (.invokevirtual 271, 3) := by decide +kernel
theorem dX9_drawn_54 : decode cX9_drawn 54 = .ok (.ireturn, 1) := by decide +kernel
theorem dX9_draws_0 : decode cX9_draws 0 = .ok (.aload_n 0, 1) := by decide +kernel
theorem dX9_draws_1 : decode cX9_draws 1 = .ok (.invokevirtual 286, 3) := by decide +kernel
theorem dX9_draws_4 : decode cX9_draws 4 = .ok (.aload_n 0, 1) := by decide +kernel
theorem dX9_draws_5 : decode cX9_draws 5 = .ok (.iconst 0, 1) := by decide +kernel
theorem dX9_draws_6 : decode cX9_draws 6 = .ok (.putfield 228, 3) := by decide +kernel
theorem dX9_draws_9 : decode cX9_draws 9 = .ok (.lload_n 1, 1) := by decide +kernel
theorem dX9_draws_10 : decode cX9_draws 10 = .ok (.lstore_n 3, 1) := by decide +kernel
theorem dX9_draws_11 : decode cX9_draws 11 = .ok (.iconst 0, 1) := by decide +kernel
theorem dX9_draws_12 : decode cX9_draws 12 = .ok (.istore 5, 2) := by decide +kernel
theorem dX9_draws_14 : decode cX9_draws 14 = .ok (.iload 5, 2) := by decide +kernel
theorem dX9_draws_16 : decode cX9_draws 16 = .ok (.aload_n 0, 1) := by decide +kernel
theorem dX9_draws_17 : decode cX9_draws 17 = .ok (.invokevirtual 222, 3) := by decide +kernel
theorem dX9_draws_20 : decode cX9_draws 20 = .ok (.if_icmp .gt 60, 3) := by decide +kernel
theorem dX9_draws_23 : decode cX9_draws 23 = .ok (.ldc2_w 391, 3) := by decide +kernel
theorem dX9_draws_26 : decode cX9_draws 26 = .ok (.lload_n 3, 1) := by decide +kernel
theorem dX9_draws_27 : decode cX9_draws 27 = .ok (.lmul, 1) := by decide +kernel
theorem dX9_draws_28 : decode cX9_draws 28 = .ok (.ldc2_w 393, 3) := by decide +kernel
theorem dX9_draws_31 : decode cX9_draws 31 = .ok (.ladd, 1) := by decide +kernel
theorem dX9_draws_32 : decode cX9_draws 32 = .ok (.ldc2_w 395, 3) := by decide +kernel
theorem dX9_draws_35 : decode cX9_draws 35 = .ok (.lrem, 1) := by decide +kernel
theorem dX9_draws_36 : decode cX9_draws 36 = .ok (.lstore_n 3, 1) := by decide +kernel
theorem dX9_draws_37 : decode cX9_draws 37 = .ok (.aload_n 0, 1) := by decide +kernel
theorem dX9_draws_38 : decode cX9_draws 38 = .ok (.dup, 1) := by decide +kernel
theorem dX9_draws_39 : decode cX9_draws 39 = .ok (.getfield 228, 3) := by decide +kernel
theorem dX9_draws_42 : decode cX9_draws 42 = .ok (.lload_n 3, 1) := by decide +kernel
theorem dX9_draws_43 : decode cX9_draws 43 = .ok (.ldc2_w 397, 3) := by decide +kernel
theorem dX9_draws_46 : decode cX9_draws 46 = .ok (.ldiv, 1) := by decide +kernel
theorem dX9_draws_47 : decode cX9_draws 47 = .ok (.ldc2_w 382, 3) := by decide +kernel
theorem dX9_draws_50 : decode cX9_draws 50 = .ok (.lrem, 1) := by decide +kernel
theorem dX9_draws_51 : decode cX9_draws 51 = .ok (.aload_n 0, 1) := by decide +kernel
theorem dX9_draws_52 : decode cX9_draws 52 = .ok (.getfield 34, 3) := by decide +kernel
theorem dX9_draws_55 : decode cX9_draws 55 = .ok (.iconst 2, 1) := by decide +kernel
theorem dX9_draws_56 : decode cX9_draws 56 = .ok (.iaload, 1) := by decide +kernel
theorem dX9_draws_57 : decode cX9_draws 57 = .ok (.i2l, 1) := by decide +kernel
theorem dX9_draws_58 : decode cX9_draws 58 = .ok (.lcmp, 1) := by decide +kernel
theorem dX9_draws_59 : decode cX9_draws 59 = .ok (.ifCond .ge 10, 3) := by decide +kernel
