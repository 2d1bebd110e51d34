theorem dX9_tells_10 : decode cX9_tells 10 = .ok (.return_, 1) := by decide +kernel
theorem dX9_thick_0 : decode cX9_thick 0 = .ok (.aload_n 0, 1) := by decide +kernel
theorem dX9_thick_1 : decode cX9_thick 1 = .ok (.iconst 0, 1) := by decide +kernel
theorem dX9_thick_2 : decode cX9_thick 2 = .ok (.putfield 68, 3) := by decide +kernel
theorem dX9_thick_5 : decode cX9_thick 5 = .ok (.aload_n 0, 1) := by decide +kernel
theorem dX9_thick_6 : decode cX9_thick 6 = .ok (.invokevirtual 219, 3) := by decide +kernel
theorem dX9_thick_9 : decode cX9_thick 9 = .ok (.ifCond .ne 6, 3) := by decide +kernel
theorem dX9_thick_12 : decode cX9_thick 12 = .ok (.bipush (-2), 2) := by decide +kernel
theorem dX9_thick_14 : decode cX9_thick 14 = .ok (.ireturn, 1) := by decide +kernel
theorem dX9_thick_15 : decode cX9_thick 15 = .ok (.aload_n 0, 1) := by decide +kernel
theorem dX9_thick_16 : decode cX9_thick 16 = .ok (.iconst 0, 1) := by decide +kernel
theorem dX9_thick_17 : decode cX9_thick 17 = .ok (.invokevirtual 325, 3) := by decide +kernel
theorem dX9_thick_20 : decode cX9_thick 20 = .ok (.istore_n 1, 1) := by decide +kernel
theorem dX9_thick_21 : decode cX9_thick 21 = .ok (.iconst (-1), 1) := by decide +kernel
theorem dX9_thick_22 : decode cX9_thick 22 = .ok (.istore_n 2, 1) := by decide +kernel
theorem dX9_thick_23 : decode cX9_thick 23 = .ok (.iconst 0, 1) := by decide +kernel
theorem dX9_thick_24 : decode cX9_thick 24 = .ok (.istore_n 3, 1) := by decide +kernel
theorem dX9_thick_25 : decode cX9_thick 25 = .ok (.iload_n 3, 1) := by decide +kernel
theorem dX9_thick_26 : decode cX9_thick 26 = .ok (.aload_n 0, 1) := by decide +kernel
theorem dX9_thick_27 : decode cX9_thick 27 = .ok (.invokevirtual 212, 3) := by decide +kernel
theorem dX9_thick_30 : decode cX9_thick 30 = .ok (.if_icmp .ge 40, 3) := by decide +kernel
theorem dX9_thick_33 : decode cX9_thick 33 = .ok (.aload_n 0, 1) := by decide +kernel
theorem dX9_thick_34 : decode cX9_thick 34 = .ok (.invokevirtual 286, 3) := by decide +kernel
theorem dX9_thick_37 : decode cX9_thick 37 = .ok (.aload_n 0, 1) := by decide +kernel
theorem dX9_thick_38 : decode cX9_thick 38 = .ok (.getfield 50, 3) := by decide +kernel
theorem dX9_thick_41 : decode cX9_thick 41 = .ok (.iload_n 3, 1) := by decide +kernel
theorem dX9_thick_42 : decode cX9_thick 42 = .ok (.iconst 1, 1) := by decide +kernel
theorem dX9_thick_43 : decode cX9_thick 43 = .ok (.iastore, 1) := by decide +kernel
theorem dX9_thick_44 : decode cX9_thick 44 = .ok (.aload_n 0, 1) := by decide +kernel
theorem dX9_thick_45 : decode cX9_thick 45 = .ok (.invokevirtual 314, 3) := by decide +kernel
theorem dX9_thick_48 : decode cX9_thick 48 = .ok (.istore 4, 2) := by decide +kernel
theorem dX9_thick_50 : decode cX9_thick 50 = .ok (.iload 4, 2) := by decide +kernel
theorem dX9_thick_52 : decode cX9_thick 52 = .ok (.iload_n 1, 1) := by decide +kernel
theorem dX9_thick_53 : decode cX9_thick 53 = .ok (.if_icmp .gt 6, 3) := by decide +kernel
theorem dX9_thick_56 : decode cX9_thick 56 = .ok (.goto 8, 3) := by decide +kernel
theorem dX9_thick_59 : decode cX9_thick 59 = .ok (.iload_n 3, 1) := by decide +kernel
theorem dX9_thick_60 : decode cX9_thick 60 = .ok (.istore_n 2, 1) := by decide +kernel
theorem dX9_thick_61 : decode cX9_thick 61 = .ok (.iload 4, 2) := by decide +kernel
theorem dX9_thick_63 : decode cX9_thick 63 = .ok (.istore_n 1, 1) := by decide +kernel
theorem dX9_thick_64 : decode cX9_thick 64 = .ok (.iinc 3 1, 3) := by decide +kernel
theorem dX9_thick_67 : decode cX9_thick 67 = .ok (.goto (-42), 3) := by decide +kernel
theorem dX9_thick_70 : decode cX9_thick 70 = .ok (.iload_n 2, 1) := by decide +kernel
theorem dX9_thick_71 : decode cX9_thick 71 = .ok (.ireturn, 1) := by decide +kernel
theorem dX9_times_0 : decode cX9_times 0 = .ok (.iload_n 0, 1) := by decide +kernel
theorem dX9_times_1 : decode cX9_times 1 = .ok (.iconst 2, 1) := by decide +kernel
theorem dX9_times_2 : decode cX9_times 2 = .ok (.if_icmp .ge 7, 3) := by decide +kernel
theorem dX9_times_5 : decode cX9_times 5 = .ok (.iconst 1, 1) := by decide +kernel
theorem dX9_times_6 : decode cX9_times 6 = .ok (.goto 11, 3) := by decide +kernel
theorem dX9_times_9 : decode cX9_times 9 = .ok (.iload_n 0, 1) := by decide +kernel
theorem dX9_times_10 : decode cX9_times 10 = .ok (.iload_n 0, 1) := by decide +kernel
theorem dX9_times_11 : decode cX9_times 11 = .ok (.iconst 1, 1) := by decide +kernel
theorem dX9_times_12 : decode cX9_times 12 = .ok (.isub, 1) := by decide +kernel
theorem dX9_times_13 : decode cX9_times 13 = .ok (.invokestatic 368, 3) := by decide +kernel
theorem dX9_times_16 : decode cX9_times 16 = .ok (.imul, 1) := by decide +kernel
theorem dX9_times_17 : decode cX9_times 17 = .ok (.ireturn, 1) := by decide +kernel
theorem dX9_undo_0 : decode cX9_undo 0 = .ok (.aload_n 0, 1) := by decide +kernel
theorem dX9_undo_1 : decode cX9_undo 1 = .ok (.iconst 0, 1) := by decide +kernel
theorem dX9_undo_2 : decode cX9_undo 2 = .ok (.putfield 68, 3) := by decide +kernel
theorem dX9_undo_5 : decode cX9_undo 5 = .ok (.aload_n 0, 1) := by decide +kernel
theorem dX9_undo_6 : decode cX9_undo 6 = .ok (.invokevirtual 219, 3) := by decide +kernel
theorem dX9_undo_9 : decode cX9_undo 9 = .ok (.ifCond .ne 6, 3) := by decide +kernel
theorem dX9_undo_12 : decode cX9_undo 12 = .ok (.bipush (-2), 2) := by decide +kernel
theorem dX9_undo_14 : decode cX9_undo 14 = .ok (.ireturn, 1) := by decide +kernel
theorem dX9_undo_15 : decode cX9_undo 15 = .ok (.aload_n 0, 1) := by decide +kernel
theorem dX9_undo_16 : decode cX9_undo 16 = .ok (.getfield 34, 3) := by decide +kernel
theorem dX9_undo_19 : decode cX9_undo 19 = .ok (.bipush 6, 2) := by decide +kernel
theorem dX9_undo_21 : decode cX9_undo 21 = .ok (.iaload, 1) := by decide +kernel
theorem dX9_undo_22 : decode cX9_undo 22 = .ok (.ifCond .ne 6, 3) := by decide +kernel
theorem dX9_undo_25 : decode cX9_undo 25 = .ok (.bipush (-5), 2) := by decide +kernel
theorem dX9_undo_27 : decode cX9_undo 27 = .ok (.ireturn, 1) := by decide +kernel
theorem dX9_undo_28 : decode cX9_undo 28 = .ok (.aload_n 0, 1) := by decide +kernel
theorem dX9_undo_29 : decode cX9_undo 29 = .ok (.getfield 34, 3) := by decide +kernel
theorem dX9_undo_32 : decode cX9_undo 32 = .ok (.bipush 6, 2) := by decide +kernel
theorem dX9_undo_34 : decode cX9_undo 34 = .ok (.dup2, 1) := by decide +kernel
theorem dX9_undo_35 : decode cX9_undo 35 = .ok (.iaload, 1) := by decide +kernel
theorem dX9_undo_36 : decode cX9_undo 36 = .ok (.iconst 1, 1) := by decide +kernel
theorem dX9_undo_37 : decode cX9_undo 37 = .ok (.isub, 1) := by decide +kernel
theorem dX9_undo_38 : decode cX9_undo 38 = .ok (.iastore, 1) := by decide +kernel
theorem dX9_undo_39 : decode cX9_undo 39 = .ok (.aload_n 0, 1) := by decide +kernel
theorem dX9_undo_40 : decode cX9_undo 40 = .ok (.getfield 34, 3) := by decide +kernel
theorem dX9_undo_43 : decode cX9_undo 43 = .ok (.bipush 6, 2) := by decide +kernel
theorem dX9_undo_45 : decode cX9_undo 45 = .ok (.iaload, 1) := by decide +kernel
theorem dX9_undo_46 : decode cX9_undo 46 = .ok (.ireturn, 1) := by decide +kernel
theorem dX9_volts_0 : decode cX9_volts 0 = .ok (.aload_n 0, 1) := by decide +kernel
theorem dX9_volts_1 : decode cX9_volts 1 = .ok (.iconst 0, 1) := by decide +kernel
theorem dX9_volts_2 : decode cX9_volts 2 = .ok (.putfield 68, 3) := by decide +kernel
theorem dX9_volts_5 : decode cX9_volts 5 = .ok (.aload_n 0, 1) := by decide +kernel
theorem dX9_volts_6 : decode cX9_volts 6 = .ok (.iload_n 1, 1) := by decide +kernel
theorem dX9_volts_7 : decode cX9_volts 7 = .ok (.iload_n 2, 1) := by decide +kernel
theorem dX9_volts_8 : decode cX9_volts 8 = .ok (.iload_n 3, 1) := by decide +kernel
theorem dX9_volts_9 : decode cX9_volts 9 = .ok (.invokevirtual 301, 3) := by decide +kernel
theorem dX9_volts_12 : decode cX9_volts 12 = .ok (.ifCond .ne 7, 3) := by decide +kernel
theorem dX9_volts_15 : decode cX9_volts 15 = .ok (.ldc2_w 295, 3) := by decide +kernel
theorem dX9_volts_18 : decode cX9_volts 18 = .ok (.lreturn, 1) := by decide +kernel
theorem dX9_volts_19 : decode cX9_volts 19 = .ok (.aload_n 0, 1) := by decide +kernel
theorem dX9_volts_20 : decode cX9_volts 20 = .ok (.invokevirtual 286, 3) := by decide +kernel
theorem dX9_volts_23 : decode cX9_volts 23 = .ok (.aload_n 0, 1) := by decide +kernel
theorem dX9_volts_24 : decode cX9_volts 24 = .ok (.iload_n 2, 1) := by decide +kernel
theorem dX9_volts_25 : decode cX9_volts 25 = .ok (.invokevirtual 262, 3) := by decide +kernel
theorem dX9_volts_28 : decode cX9_volts 28 = .ok (.iload_n 1, 1) := by decide +kernel
theorem dX9_volts_29 : decode cX9_volts 29 = .ok (.aload_n 0, 1) := by decide +kernel
theorem dX9_volts_30 : decode cX9_volts 30 = .ok (.getfield 250, 3) := by decide +kernel
theorem dX9_volts_33 : decode cX9_volts 33 = .ok (.if_icmp .lt 8, 3) := by decide +kernel
theorem dX9_volts_36 : decode cX9_volts 36 = .ok (.iload_n 3, 1) := by decide +kernel
theorem dX9_volts_37 : decode cX9_volts 37 = .ok (.i2l, 1) := by decide +kernel
theorem dX9_volts_38 : decode cX9_volts 38 = .ok (.goto 23, 3) := by decide +kernel
theorem dX9_volts_41 : decode cX9_volts 41 = .ok (.aload_n 0, 1) := by decide +kernel
theorem dX9_volts_42 : decode cX9_volts 42 = .ok (.getfield 237, 3) := by decide +kernel
theorem dX9_volts_45 : decode cX9_volts 45 = .ok (.i2l, 1) := by decide +kernel
theorem dX9_volts_46 : decode cX9_volts 46 = .ok (.aload_n 0, 1) := by decide +kernel
theorem dX9_volts_47 : decode cX9_volts 47 = .ok (.getfield 56, 3) := by decide +kernel
theorem dX9_volts_50 : decode cX9_volts 50 = .ok (.iload_n 1, 1) := by decide +kernel
theorem dX9_volts_51 : decode cX9_volts 51 = .ok (.laload, 1) := by decide +kernel
theorem dX9_volts_52 : decode cX9_volts 52 = .ok (.lmul, 1) := by decide +kernel
theorem dX9_volts_53 : decode cX9_volts 53 = .ok (.aload_n 0, 1) := by decide +kernel
theorem dX9_volts_54 : decode cX9_volts 54 = .ok (.getfield 259, 3) := by decide +kernel
theorem dX9_volts_57 : decode cX9_volts 57 = .ok (.iload_n 3, 1) := by decide +kernel
theorem dX9_volts_58 : decode cX9_volts 58 = .ok (.invokestatic 297, 3) := by decide +kernel
theorem dX9_volts_61 : decode cX9_volts 61 = .ok (.lreturn, 1) := by decide +kernel
theorem dX9_weakest_0 : decode cX9_weakest 0 = .ok (.aload_n 0, 1) := by decide +kernel
theorem dX9_weakest_1 : decode cX9_weakest 1 = .ok (.iconst 0, 1) := by decide +kernel
theorem dX9_weakest_2 : decode cX9_weakest 2 = .ok (.putfield 68, 3) := by decide +kernel
theorem dX9_weakest_5 : decode cX9_weakest 5 = .ok (.aload_n 0, 1) := by decide +kernel
theorem dX9_weakest_6 : decode cX9_weakest 6 = .ok (.invokevirtual 219, 3) := by decide +kernel
theorem dX9_weakest_9 : decode cX9_weakest 9 = .ok (.ifCond .eq 11, 3) := by decide +kernel
theorem dX9_weakest_12 : decode cX9_weakest 12 = .ok (.aload_n 0, 1) := by decide +kernel
theorem dX9_weakest_13 : decode cX9_weakest 13 = .ok (.iconst (-1), 1) := by decide +kernel
theorem dX9_weakest_14 : decode cX9_weakest 14 = .ok (.invokevirtual 328, 3) := by decide +kernel
theorem dX9_weakest_17 : decode cX9_weakest 17 = .ok (.goto 5, 3) := by decide +kernel
theorem dX9_weakest_20 : decode cX9_weakest 20 = .ok (.bipush (-2), 2) := by decide +kernel
theorem dX9_weakest_22 : decode cX9_weakest 22 = .ok (.ireturn, 1) := by decide +kernel
theorem dX9_weightOf_0 : decode cX9_weightOf 0 = .ok (.aload_n 0, 1) := by decide +kernel
theorem dX9_weightOf_1 : decode cX9_weightOf 1 = .ok (.invokevirtual 286, 3) := by decide +kernel
theorem dX9_weightOf_4 : decode cX9_weightOf 4 = .ok (.lconst 0, 1) := by decide +kernel
theorem dX9_weightOf_5 : decode cX9_weightOf 5 = .ok (.lstore_n 3, 1) := by decide +kernel
theorem dX9_weightOf_6 : decode cX9_weightOf 6 = .ok (.iconst 0, 1) := by decide +kernel
theorem dX9_weightOf_7 : decode cX9_weightOf 7 = .ok (.istore 5, 2) := by decide +kernel
theorem dX9_weightOf_9 : decode cX9_weightOf 9 = .ok (.iload 5, 2) := by decide +kernel
theorem dX9_weightOf_11 : decode cX9_weightOf 11 = .ok (.iconst 2, 1) := by decide +kernel
theorem dX9_weightOf_12 : decode cX9_weightOf 12 = .ok (.iload_n 2, 1) := by decide +kernel
theorem dX9_weightOf_13 : decode cX9_weightOf 13 = .ok (.ishl, 1) := by decide +kernel
theorem dX9_weightOf_14 : decode cX9_weightOf 14 = .ok (.if_icmp .ge 89, 3) := by decide +kernel
theorem dX9_weightOf_17 : decode cX9_weightOf 17 = .ok (.aload_n 0, 1) := by decide +kernel
theorem dX9_weightOf_18 : decode cX9_weightOf 18 = .ok (.iload 5, 2) := by decide +kernel
theorem dX9_weightOf_20 : decode cX9_weightOf 20 = .ok (.putfield 228, 3) := by decide +kernel
theorem dX9_weightOf_23 : decode cX9_weightOf 23 = .ok (.aload_n 0, 1) := by decide +kernel
theorem dX9_weightOf_24 : decode cX9_weightOf 24 = .ok (.iload_n 2, 1) := by decide +kernel
theorem dX9_weightOf_25 : decode cX9_weightOf 25 = .ok (.invokevirtual 271, 3) := by decide +kernel
theorem dX9_weightOf_28 : decode cX9_weightOf 28 = .ok (.istore 6, 2) := by decide +kernel
theorem dX9_weightOf_30 : decode cX9_weightOf 30 = .ok (.aload_n 0, 1) := by decide +kernel
theorem dX9_weightOf_31 : decode cX9_weightOf 31 = .ok (.getfield 34, 3) := by decide +kernel
theorem dX9_weightOf_34 : decode cX9_weightOf 34 = .ok (.iconst 2, 1) := by decide +kernel
theorem dX9_weightOf_35 : decode cX9_weightOf 35 = .ok (.iaload, 1) := by decide +kernel
theorem dX9_weightOf_36 : decode cX9_weightOf 36 = .ok (.i2l, 1) := by decide +kernel
theorem dX9_weightOf_37 : decode cX9_weightOf 37 = .ok (.iload 5, 2) := by decide +kernel
theorem dX9_weightOf_39 : decode cX9_weightOf 39 = .ok (.invokestatic 274, 3) := by decide +kernel
theorem dX9_weightOf_42 : decode cX9_weightOf 42 = .ok (.invokestatic 379, 3) := by decide +kernel
theorem dX9_weightOf_45 : decode cX9_weightOf 45 = .ok (.ldc2_w 382, 3) := by decide +kernel
theorem dX9_weightOf_48 : decode cX9_weightOf 48 = .ok (.aload_n 0, 1) := by decide +kernel
theorem dX9_weightOf_49 : decode cX9_weightOf 49 = .ok (.getfield 34, 3) := by decide +kernel
theorem dX9_weightOf_52 : decode cX9_weightOf 52 = .ok (.iconst 2, 1) := by decide +kernel
theorem dX9_weightOf_53 : decode cX9_weightOf 53 = .ok (.iaload, 1) := by decide +kernel
theorem dX9_weightOf_54 : decode cX9_weightOf 54 = .ok (.i2l, 1) := by decide +kernel
theorem dX9_weightOf_55 : decode cX9_weightOf 55 = .ok (.lsub, 1) := by decide +kernel
theorem dX9_weightOf_56 : decode cX9_weightOf 56 = .ok (.iload_n 2, 1) := by decide +kernel
theorem dX9_weightOf_57 : decode cX9_weightOf 57 = .ok (.iconst 1, 1) := by decide +kernel
theorem dX9_weightOf_58 : decode cX9_weightOf 58 = .ok (.iadd, 1) := by decide +kernel
theorem dX9_weightOf_59 : decode cX9_weightOf 59 = .ok (.iload 5, 2) := by decide +kernel
theorem dX9_weightOf_61 : decode cX9_weightOf 61 = .ok (.invokestatic 274, 3) := by decide +kernel
theorem dX9_weightOf_64 : decode cX9_weightOf 64 = .ok (.isub, 1) := by decide +kernel
theorem dX9_weightOf_65 : decode cX9_weightOf 65 = .ok (.invokestatic 379, 3) := by decide +kernel
theorem dX9_weightOf_68 : decode cX9_weightOf 68 = .ok (.lmul, 1) := by decide +kernel
theorem dX9_weightOf_69 : decode cX9_weightOf 69 = .ok (.lstore 7, 2) := by decide +kernel
theorem dX9_weightOf_71 : decode cX9_weightOf 71 = .ok (.lload_n 3, 1) := by decide +kernel
theorem dX9_weightOf_72 : decode cX9_weightOf 72 = .ok (.lload 7, 2) := by decide +kernel
theorem dX9_weightOf_74 : decode cX9_weightOf 74 = .ok (.iload_n 1, 1) := by decide +kernel
theorem dX9_weightOf_75 : decode cX9_weightOf 75 = .ok (.iconst (-1), 1) := by decide +kernel
theorem dX9_weightOf_76 : decode cX9_weightOf 76 = .ok (.if_icmp .ne 11, 3) := by decide +kernel
theorem dX9_weightOf_79 : decode cX9_weightOf 79 = .ok (.iload 6, 2) := by decide +kernel
theorem dX9_weightOf_81 : decode cX9_weightOf 81 = .ok (.invokestatic 274, 3) := by decide +kernel
theorem dX9_weightOf_84 : decode cX9_weightOf 84 = .ok (.goto 9, 3) := by decide +kernel
theorem dX9_weightOf_87 : decode cX9_weightOf 87 = .ok (.iload 6, 2) := by decide +kernel
theorem dX9_weightOf_89 : decode cX9_weightOf 89 = .ok (.iload_n 1, 1) := by decide +kernel
theorem dX9_weightOf_90 : decode cX9_weightOf 90 = .ok (.ishr, 1) := by decide +kernel
theorem dX9_weightOf_91 : decode cX9_weightOf 91 = .ok (.iconst 1, 1) := by decide +kernel
theorem dX9_weightOf_92 : decode cX9_weightOf 92 = .ok (.iand, 1) := by decide +kernel
theorem dX9_weightOf_93 : decode cX9_weightOf 93 = .ok (.i2l, 1) := by decide +kernel
theorem dX9_weightOf_94 : decode cX9_weightOf 94 = .ok (.lmul, 1) := by decide +kernel
theorem dX9_weightOf_95 : decode cX9_weightOf 95 = .ok (.ladd, 1) := by decide +kernel
theorem dX9_weightOf_96 : decode cX9_weightOf 96 = .ok (.lstore_n 3, 1) := by decide +kernel
theorem dX9_weightOf_97 : decode cX9_weightOf 97 = .ok (.iinc 5 1, 3) := by decide +kernel
theorem dX9_weightOf_100 : decode cX9_weightOf 100 = .ok (.goto (-91), 3) := by decide +kernel
theorem dX9_weightOf_103 : decode cX9_weightOf 103 = .ok (.lload_n 3, 1) := by decide +kernel
theorem dX9_weightOf_104 : decode cX9_weightOf 104 = .ok (.lreturn, 1) := by decide +kernel
theorem dX9_wets_0 : decode cX9_wets 0 = .ok (.aload_n 0, 1) := by decide +kernel
theorem dX9_wets_1 : decode cX9_wets 1 = .ok (.iconst 0, 1) := by decide +kernel
theorem dX9_wets_2 : decode cX9_wets 2 = .ok (.putfield 68, 3) := by decide +kernel
theorem dX9_wets_5 : decode cX9_wets 5 = .ok (.aload_n 0, 1) := by decide +kernel
theorem dX9_wets_6 : decode cX9_wets 6 = .ok (.invokevirtual 219, 3) := by decide +kernel
theorem dX9_wets_9 : decode cX9_wets 9 = .ok (.ifCond .ne 6, 3) := by decide +kernel
theorem dX9_wets_12 : decode cX9_wets 12 = .ok (.bipush (-2), 2) := by decide +kernel
theorem dX9_wets_14 : decode cX9_wets 14 = .ok (.ireturn, 1) := by decide +kernel
theorem dX9_wets_15 : decode cX9_wets 15 = .ok (.aload_n 0, 1) := by decide +kernel
theorem dX9_wets_16 : decode cX9_wets 16 = .ok (.invokevirtual 286, 3) := by decide +kernel
theorem dX9_wets_19 : decode cX9_wets 19 = .ok (.aload_n 0, 1) := by decide +kernel
theorem dX9_wets_20 : decode cX9_wets 20 = .ok (.getfield 228, 3) := by decide +kernel
theorem dX9_wets_23 : decode cX9_wets 23 = .ok (.ireturn, 1) := by decide +kernel
theorem dX9_when_0 : decode cX9_when 0 = .ok (.aload_n 0, 1) := by decide +kernel
theorem dX9_when_1 : decode cX9_when 1 = .ok (.iconst 0, 1) := by decide +kernel
theorem dX9_when_2 : decode cX9_when 2 = .ok (.putfield 68, 3) := by decide +kernel
theorem dX9_when_5 : decode cX9_when 5 = .ok (.aload_n 0, 1) := by decide +kernel
theorem dX9_when_6 : decode cX9_when 6 = .ok (.iload_n 1, 1) := by decide +kernel
theorem dX9_when_7 : decode cX9_when 7 = .ok (.invokevirtual 268, 3) := by decide +kernel
theorem dX9_when_10 : decode cX9_when 10 = .ok (.ifCond .ne 6, 3) := by decide +kernel
theorem dX9_when_13 : decode cX9_when 13 = .ok (.bipush (-2), 2) := by decide +kernel
theorem dX9_when_15 : decode cX9_when 15 = .ok (.ireturn, 1) := by decide +kernel
theorem dX9_when_16 : decode cX9_when 16 = .ok (.aload_n 0, 1) := by decide +kernel
theorem dX9_when_17 : decode cX9_when 17 = .ok (.invokevirtual 286, 3) := by decide +kernel
theorem dX9_when_20 : decode cX9_when 20 = .ok (.iconst 0, 1) := by decide +kernel
theorem dX9_when_21 : decode cX9_when 21 = .ok (.istore_n 2, 1) := by decide +kernel
theorem dX9_when_22 : decode cX9_when 22 = .ok (.iload_n 2, 1) := by decide +kernel
theorem dX9_when_23 : decode cX9_when 23 = .ok (.aload_n 0, 1) := by decide +kernel
theorem dX9_when_24 : decode cX9_when 24 = .ok (.invokevirtual 222, 3) := by decide +kernel
theorem dX9_when_27 : decode cX9_when 27 = .ok (.if_icmp .gt 20, 3) := by decide +kernel
theorem dX9_when_30 : decode cX9_when 30 = .ok (.aload_n 0, 1) := by decide +kernel
theorem dX9_when_31 : decode cX9_when 31 = .ok (.iload_n 1, 1) := by decide +kernel
theorem dX9_when_32 : decode cX9_when 32 = .ok (.iload_n 2, 1) := by decide +kernel
theorem dX9_when_33 : decode cX9_when 33 = .ok (.invokevirtual 308, 3) := by decide +kernel
theorem dX9_when_36 : decode cX9_when 36 = .ok (.ifCond .ne 5, 3) := by decide +kernel
theorem dX9_when_39 : decode cX9_when 39 = .ok (.iload_n 2, 1) := by decide +kernel
theorem dX9_when_40 : decode cX9_when 40 = .ok (.ireturn, 1) := by decide +kernel
theorem dX9_when_41 : decode cX9_when 41 = .ok (.iinc 2 1, 3) := by decide +kernel
theorem dX9_when_44 : decode cX9_when 44 = .ok (.goto (-22), 3) := by decide +kernel
theorem dX9_when_47 : decode cX9_when 47 = .ok (.iconst (-1), 1) := by decide +kernel
theorem dX9_when_48 : decode cX9_when 48 = .ok (.ireturn, 1) := by decide +kernel
theorem dX9_whole_0 : decode cX9_whole 0 = .ok (.aload_n 0, 1) := by decide +kernel
theorem dX9_whole_1 : decode cX9_whole 1 = .ok (.iconst 0, 1) := by decide +kernel
theorem dX9_whole_2 : decode cX9_whole 2 = .ok (.putfield 68, 3) := by decide +kernel
theorem dX9_whole_5 : decode cX9_whole 5 = .ok (.aload_n 0, 1) := by decide +kernel
theorem dX9_whole_6 : decode cX9_whole 6 = .ok (.iload_n 1, 1) := by decide +kernel
theorem dX9_whole_7 : decode cX9_whole 7 = .ok (.iload_n 2, 1) := by decide +kernel
theorem dX9_whole_8 : decode cX9_whole 8 = .ok (.iconst 0, 1) := by decide +kernel
theorem dX9_whole_9 : decode cX9_whole 9 = .ok (.invokevirtual 301, 3) := by decide +kernel
theorem dX9_whole_12 : decode cX9_whole 12 = .ok (.ifCond .ne 6, 3) := by decide +kernel
theorem dX9_whole_15 : decode cX9_whole 15 = .ok (.bipush (-2), 2) := by decide +kernel
theorem dX9_whole_17 : decode cX9_whole 17 = .ok (.ireturn, 1) := by decide +kernel
theorem dX9_whole_18 : decode cX9_whole 18 = .ok (.aload_n 0, 1) := by decide +kernel
theorem dX9_whole_19 : decode cX9_whole 19 = .ok (.invokevirtual 286, 3) := by decide +kernel
theorem dX9_whole_22 : decode cX9_whole 22 = .ok (.aload_n 0, 1) := by decide +kernel
theorem dX9_whole_23 : decode cX9_whole 23 = .ok (.iload_n 2, 1) := by decide +kernel
theorem dX9_whole_24 : decode cX9_whole 24 = .ok (.invokevirtual 262, 3) := by decide +kernel
theorem dX9_whole_27 : decode cX9_whole 27 = .ok (.iload_n 1, 1) := by decide +kernel
theorem dX9_whole_28 : decode cX9_whole 28 = .ok (.aload_n 0, 1) := by decide +kernel
theorem dX9_whole_29 : decode cX9_whole 29 = .ok (.getfield 250, 3) := by decide +kernel
theorem dX9_whole_32 : decode cX9_whole 32 = .ok (.if_icmp .lt 7, 3) := by decide +kernel
theorem dX9_whole_35 : decode cX9_whole 35 = .ok (.iconst 0, 1) := by decide +kernel
theorem dX9_whole_36 : decode cX9_whole 36 = .ok (.goto 21, 3) := by decide +kernel
theorem dX9_whole_39 : decode cX9_whole 39 = .ok (.aload_n 0, 1) := by decide +kernel
theorem dX9_whole_40 : decode cX9_whole 40 = .ok (.getfield 237, 3) := by decide +kernel
theorem dX9_whole_43 : decode cX9_whole 43 = .ok (.i2l, 1) := by decide +kernel
theorem dX9_whole_44 : decode cX9_whole 44 = .ok (.aload_n 0, 1) := by decide +kernel
theorem dX9_whole_45 : decode cX9_whole 45 = .ok (.getfield 56, 3) := by decide +kernel
theorem dX9_whole_48 : decode cX9_whole 48 = .ok (.iload_n 1, 1) := by decide +kernel
theorem dX9_whole_49 : decode cX9_whole 49 = .ok (.laload, 1) := by decide +kernel
theorem dX9_whole_50 : decode cX9_whole 50 = .ok (.lmul, 1) := by decide +kernel
theorem dX9_whole_51 : decode cX9_whole 51 = .ok (.aload_n 0, 1) := by decide +kernel
theorem dX9_whole_52 : decode cX9_whole 52 = .ok (.getfield 259, 3) := by decide +kernel
theorem dX9_whole_55 : decode cX9_whole 55 = .ok (.ldiv, 1) := by decide +kernel
theorem dX9_whole_56 : decode cX9_whole 56 = .ok (.l2i, 1) := by decide +kernel
theorem dX9_whole_57 : decode cX9_whole 57 = .ok (.ireturn, 1) := by decide +kernel
theorem dX9_whyNot_0 : decode cX9_whyNot 0 = .ok (.iload_n 1, 1) := by decide +kernel
theorem dX9_whyNot_1 : decode cX9_whyNot 1 = .ok (.invokestatic 77, 3) := by decide +kernel
theorem dX9_whyNot_4 : decode cX9_whyNot 4 = .ok (.ifCond .eq 14, 3) := by decide +kernel
theorem dX9_whyNot_7 : decode cX9_whyNot 7 = .ok (.aload_n 0, 1) := by decide +kernel
theorem dX9_whyNot_8 : decode cX9_whyNot 8 = .ok (.invokevirtual 219, 3) := by decide +kernel
theorem dX9_whyNot_11 : decode cX9_whyNot 11 = .ok (.ifCond .eq 7, 3) := by decide +kernel
theorem dX9_whyNot_14 : decode cX9_whyNot 14 = .ok (.iload_n 2, 1) := by decide +kernel
theorem dX9_whyNot_15 : decode cX9_whyNot 15 = .ok (.ifCond .ne 6, 3) := by decide +kernel
theorem dX9_whyNot_18 : decode cX9_whyNot 18 = .ok (.bipush (-2), 2) := by decide +kernel
theorem dX9_whyNot_20 : decode cX9_whyNot 20 = .ok (.ireturn, 1) := by decide +kernel
theorem dX9_whyNot_21 : decode cX9_whyNot 21 = .ok (.aload_n 0, 1) := by decide +kernel
theorem dX9_whyNot_22 : decode cX9_whyNot 22 = .ok (.getfield 7, 3) := by decide +kernel
theorem dX9_whyNot_25 : decode cX9_whyNot 25 = .ok (.iload_n 1, 1) := by decide +kernel
theorem dX9_whyNot_26 : decode cX9_whyNot 26 = .ok (.iaload, 1) := by decide +kernel
theorem dX9_whyNot_27 : decode cX9_whyNot 27 = .ok (.iconst (-1), 1) := by decide +kernel
theorem dX9_whyNot_28 : decode cX9_whyNot 28 = .ok (.if_icmp .ne 6, 3) := by decide +kernel
theorem dX9_whyNot_31 : decode cX9_whyNot 31 = .ok (.bipush (-6), 2) := by decide +kernel
theorem dX9_whyNot_33 : decode cX9_whyNot 33 = .ok (.ireturn, 1) := by decide +kernel
theorem dX9_whyNot_34 : decode cX9_whyNot 34 = .ok (.aload_n 0, 1) := by decide +kernel
theorem dX9_whyNot_35 : decode cX9_whyNot 35 = .ok (.getfield 13, 3) := by decide +kernel
theorem dX9_whyNot_38 : decode cX9_whyNot 38 = .ok (.iload_n 1, 1) := by decide +kernel
theorem dX9_whyNot_39 : decode cX9_whyNot 39 = .ok (.iaload, 1) := by decide +kernel
theorem dX9_whyNot_40 : decode cX9_whyNot 40 = .ok (.iconst 3, 1) := by decide +kernel
theorem dX9_whyNot_41 : decode cX9_whyNot 41 = .ok (.irem, 1) := by decide +kernel
theorem dX9_whyNot_42 : decode cX9_whyNot 42 = .ok (.ifCond .eq 6, 3) := by decide +kernel
theorem dX9_whyNot_45 : decode cX9_whyNot 45 = .ok (.bipush (-2), 2) := by decide +kernel
theorem dX9_whyNot_47 : decode cX9_whyNot 47 = .ok (.ireturn, 1) := by decide +kernel
theorem dX9_whyNot_48 : decode cX9_whyNot 48 = .ok (.iconst 0, 1) := by decide +kernel
theorem dX9_whyNot_49 : decode cX9_whyNot 49 = .ok (.istore_n 3, 1) := by decide +kernel
theorem dX9_whyNot_50 : decode cX9_whyNot 50 = .ok (.iload_n 3, 1) := by decide +kernel
theorem dX9_whyNot_51 : decode cX9_whyNot 51 = .ok (.aload_n 0, 1) := by decide +kernel
theorem dX9_whyNot_52 : decode cX9_whyNot 52 = .ok (.getfield 13, 3) := by decide +kernel
theorem dX9_whyNot_55 : decode cX9_whyNot 55 = .ok (.iload_n 1, 1) := by decide +kernel
theorem dX9_whyNot_56 : decode cX9_whyNot 56 = .ok (.iaload, 1) := by decide +kernel
theorem dX9_whyNot_57 : decode cX9_whyNot 57 = .ok (.if_icmp .ge 62, 3) := by decide +kernel
theorem dX9_whyNot_60 : decode cX9_whyNot 60 = .ok (.bipush 60, 2) := by decide +kernel
theorem dX9_whyNot_62 : decode cX9_whyNot 62 = .ok (.iload_n 1, 1) := by decide +kernel
theorem dX9_whyNot_63 : decode cX9_whyNot 63 = .ok (.imul, 1) := by decide +kernel
theorem dX9_whyNot_64 : decode cX9_whyNot 64 = .ok (.iload_n 3, 1) := by decide +kernel
theorem dX9_whyNot_65 : decode cX9_whyNot 65 = .ok (.iadd, 1) := by decide +kernel
theorem dX9_whyNot_66 : decode cX9_whyNot 66 = .ok (.istore 4, 2) := by decide +kernel
theorem dX9_whyNot_68 : decode cX9_whyNot 68 = .ok (.aload_n 0, 1) := by decide +kernel
theorem dX9_whyNot_69 : decode cX9_whyNot 69 = .ok (.aload_n 0, 1) := by decide +kernel
theorem dX9_whyNot_70 : decode cX9_whyNot 70 = .ok (.getfield 16, 3) := by decide +kernel
theorem dX9_whyNot_73 : decode cX9_whyNot 73 = .ok (.iload 4, 2) := by decide +kernel
theorem dX9_whyNot_75 : decode cX9_whyNot 75 = .ok (.laload, 1) := by decide +kernel
theorem dX9_whyNot_76 : decode cX9_whyNot 76 = .ok (.invokevirtual 289, 3) := by decide +kernel
theorem dX9_whyNot_79 : decode cX9_whyNot 79 = .ok (.ifCond .eq 31, 3) := by decide +kernel
theorem dX9_whyNot_82 : decode cX9_whyNot 82 = .ok (.aload_n 0, 1) := by decide +kernel
theorem dX9_whyNot_83 : decode cX9_whyNot 83 = .ok (.getfield 16, 3) := by decide +kernel
theorem dX9_whyNot_86 : decode cX9_whyNot 86 = .ok (.iload 4, 2) := by decide +kernel
theorem dX9_whyNot_88 : decode cX9_whyNot 88 = .ok (.iconst 1, 1) := by decide +kernel
theorem dX9_whyNot_89 : decode cX9_whyNot 89 = .ok (.iadd, 1) := by decide +kernel
theorem dX9_whyNot_90 : decode cX9_whyNot 90 = .ok (.laload, 1) := by decide +kernel
theorem dX9_whyNot_91 : decode cX9_whyNot 91 = .ok (.lconst 0, 1) := by decide +kernel
theorem dX9_whyNot_92 : decode cX9_whyNot 92 = .ok (.lcmp, 1) := by decide +kernel
theorem dX9_whyNot_93 : decode cX9_whyNot 93 = .ok (.ifCond .lt 17, 3) := by decide +kernel
theorem dX9_whyNot_96 : decode cX9_whyNot 96 = .ok (.aload_n 0, 1) := by decide +kernel
theorem dX9_whyNot_97 : decode cX9_whyNot 97 = .ok (.getfield 16, 3) := by decide +kernel
theorem dX9_whyNot_100 : decode cX9_whyNot 100 = .ok (.iload 4, 2) := by decide +kernel
theorem dX9_whyNot_102 : decode cX9_whyNot 102 = .ok (.iconst 2, 1) := by decide +kernel
theorem dX9_whyNot_103 : decode cX9_whyNot 103 = .ok (.iadd, 1) := by decide +kernel
theorem dX9_whyNot_104 : decode cX9_whyNot 104 = .ok (.laload, 1) := by decide +kernel
theorem dX9_whyNot_105 : decode cX9_whyNot 105 = .ok (.lconst 0, 1) := by decide +kernel
theorem dX9_whyNot_106 : decode cX9_whyNot 106 = .ok (.lcmp, 1) := by decide +kernel
theorem dX9_whyNot_107 : decode cX9_whyNot 107 = .ok (.ifCond .ge 6, 3) := by decide +kernel
theorem dX9_whyNot_110 : decode cX9_whyNot 110 = .ok (.bipush (-2), 2) := by decide +kernel
theorem dX9_whyNot_112 : decode cX9_whyNot 112 = .ok (.ireturn, 1) := by decide +kernel
theorem dX9_whyNot_113 : decode cX9_whyNot 113 = .ok (.iinc 3 3, 3) := by decide +kernel
theorem dX9_whyNot_116 : decode cX9_whyNot 116 = .ok (.goto (-66), 3) := by decide +kernel
theorem dX9_whyNot_119 : decode cX9_whyNot 119 = .ok (.iconst 0, 1) := by decide +kernel
theorem dX9_whyNot_120 : decode cX9_whyNot 120 = .ok (.ireturn, 1) := by decide +kernel
theorem dX9_wire_0 : decode cX9_wire 0 = .ok (.aload_n 0, 1) := by decide +kernel
theorem dX9_wire_1 : decode cX9_wire 1 = .ok (.iconst 0, 1) := by decide +kernel
theorem dX9_wire_2 : decode cX9_wire 2 = .ok (.putfield 68, 3) := by decide +kernel
theorem dX9_wire_5 : decode cX9_wire 5 = .ok (.aload_n 0, 1) := by decide +kernel
theorem dX9_wire_6 : decode cX9_wire 6 = .ok (.invokevirtual 176, 3) := by decide +kernel
theorem dX9_wire_9 : decode cX9_wire 9 = .ok (.aload_n 0, 1) := by decide +kernel
theorem dX9_wire_10 : decode cX9_wire 10 = .ok (.invokevirtual 179, 3) := by decide +kernel
theorem dX9_wire_13 : decode cX9_wire 13 = .ok (.aload_n 0, 1) := by decide +kernel
theorem dX9_wire_14 : decode cX9_wire 14 = .ok (.invokevirtual 182, 3) := by decide +kernel
theorem dX9_wire_17 : decode cX9_wire 17 = .ok (.ifCond .eq 116, 3) := by decide +kernel
theorem dX9_wire_20 : decode cX9_wire 20 = .ok (.aload_n 0, 1) := by decide +kernel
theorem dX9_wire_21 : decode cX9_wire 21 = .ok (.getfield 109, 3) := by decide +kernel
theorem dX9_wire_24 : decode cX9_wire 24 = .ok (.ifCond .eq 109, 3) := by decide +kernel
theorem dX9_wire_27 : decode cX9_wire 27 = .ok (.aload_n 0, 1) := by decide +kernel
theorem dX9_wire_28 : decode cX9_wire 28 = .ok (.getfield 31, 3) := by decide +kernel
theorem dX9_wire_31 : decode cX9_wire 31 = .ok (.iconst 4, 1) := by decide +kernel
theorem dX9_wire_32 : decode cX9_wire 32 = .ok (.iaload, 1) := by decide +kernel
theorem dX9_wire_33 : decode cX9_wire 33 = .ok (.ifCond .ne 72, 3) := by decide +kernel
theorem dX9_wire_36 : decode cX9_wire 36 = .ok (.aload_n 0, 1) := by decide +kernel
theorem dX9_wire_37 : decode cX9_wire 37 = .ok (.ldc2_w 186, 3) := by decide +kernel
theorem dX9_wire_40 : decode cX9_wire 40 = .ok (.invokevirtual 139, 3) := by decide +kernel
theorem dX9_wire_43 : decode cX9_wire 43 = .ok (.aload_n 0, 1) := by decide +kernel
theorem dX9_wire_44 : decode cX9_wire 44 = .ok (.iconst 0, 1) := by decide +kernel
theorem dX9_wire_45 : decode cX9_wire 45 = .ok (.aload_n 0, 1) := by decide +kernel
theorem dX9_wire_46 : decode cX9_wire 46 = .ok (.ldc2_w 188, 3) := by decide +kernel
theorem dX9_wire_49 : decode cX9_wire 49 = .ok (.iconst 1, 1) := by decide +kernel
theorem dX9_wire_50 : decode cX9_wire 50 = .ok (.bipush 13, 2) := by decide +kernel
theorem dX9_wire_52 : decode cX9_wire 52 = .ok (.invokevirtual 156, 3) := by decide +kernel
theorem dX9_wire_55 : decode cX9_wire 55 = .ok (.invokevirtual 161, 3) := by decide +kernel
theorem dX9_wire_58 : decode cX9_wire 58 = .ok (.aload_n 0, 1) := by decide +kernel
theorem dX9_wire_59 : decode cX9_wire 59 = .ok (.iconst 1, 1) := by decide +kernel
theorem dX9_wire_60 : decode cX9_wire 60 = .ok (.aload_n 0, 1) := by decide +kernel
theorem dX9_wire_61 : decode cX9_wire 61 = .ok (.ldc2_w 190, 3) := by decide +kernel
theorem dX9_wire_64 : decode cX9_wire 64 = .ok (.iconst 0, 1) := by decide +kernel
theorem dX9_wire_65 : decode cX9_wire 65 = .ok (.iconst 3, 1) := by decide +kernel
theorem dX9_wire_66 : decode cX9_wire 66 = .ok (.invokevirtual 156, 3) := by decide +kernel
theorem dX9_wire_69 : decode cX9_wire 69 = .ok (.invokevirtual 161, 3) := by decide +kernel
theorem dX9_wire_72 : decode cX9_wire 72 = .ok (.aload_n 0, 1) := by decide +kernel
theorem dX9_wire_73 : decode cX9_wire 73 = .ok (.iconst 2, 1) := by decide +kernel
theorem dX9_wire_74 : decode cX9_wire 74 = .ok (.aload_n 0, 1) := by decide +kernel
theorem dX9_wire_75 : decode cX9_wire 75 = .ok (.ldc2_w 192, 3) := by decide +kernel
theorem dX9_wire_78 : decode cX9_wire 78 = .ok (.iconst 0, 1) := by decide +kernel
theorem dX9_wire_79 : decode cX9_wire 79 = .ok (.bipush 10, 2) := by decide +kernel
theorem dX9_wire_81 : decode cX9_wire 81 = .ok (.invokevirtual 156, 3) := by decide +kernel
theorem dX9_wire_84 : decode cX9_wire 84 = .ok (.invokevirtual 161, 3) := by decide +kernel
theorem dX9_wire_87 : decode cX9_wire 87 = .ok (.aload_n 0, 1) := by decide +kernel
theorem dX9_wire_88 : decode cX9_wire 88 = .ok (.iconst 3, 1) := by decide +kernel
theorem dX9_wire_89 : decode cX9_wire 89 = .ok (.aload_n 0, 1) := by decide +kernel
theorem dX9_wire_90 : decode cX9_wire 90 = .ok (.ldc2_w 194, 3) := by decide +kernel
theorem dX9_wire_93 : decode cX9_wire 93 = .ok (.iconst 1, 1) := by decide +kernel
theorem dX9_wire_94 : decode cX9_wire 94 = .ok (.bipush 60, 2) := by decide +kernel
theorem dX9_wire_96 : decode cX9_wire 96 = .ok (.invokevirtual 156, 3) := by decide +kernel
theorem dX9_wire_99 : decode cX9_wire 99 = .ok (.invokevirtual 161, 3) := by decide +kernel
theorem dX9_wire_102 : decode cX9_wire 102 = .ok (.goto 7, 3) := by decide +kernel
theorem dX9_wire_105 : decode cX9_wire 105 = .ok (.aload_n 0, 1) := by decide +kernel
theorem dX9_wire_106 : decode cX9_wire 106 = .ok (.invokevirtual 196, 3) := by decide +kernel
theorem dX9_wire_109 : decode cX9_wire 109 = .ok (.aload_n 0, 1) := by decide +kernel
theorem dX9_wire_110 : decode cX9_wire 110 = .ok (.invokevirtual 182, 3) := by decide +kernel
