theorem dX8_span_5 : decode cX8_span 5 = .ok (.ifCond .ne 6, 3) := by decide +kernel
theorem dX8_span_8 : decode cX8_span 8 = .ok (.bipush (-2), 2) := by decide +kernel
theorem dX8_span_10 : decode cX8_span 10 = .ok (.ireturn, 1) := by decide +kernel
theorem dX8_span_11 : decode cX8_span 11 = .ok (.iload_n 2, 1) := by decide +kernel
theorem dX8_span_12 : decode cX8_span 12 = .ok (.tableswitch 58 0 2 #[28, 38, 48], 28) := by decide +kernel
theorem dX8_span_40 : decode cX8_span 40 = .ok (.aload_n 0, 1) := by decide +kernel
theorem dX8_span_41 : decode cX8_span 41 = .ok (.getfield 33, 3) := by decide +kernel
theorem dX8_span_44 : decode cX8_span 44 = .ok (.getfield 125, 3) := by decide +kernel
theorem dX8_span_47 : decode cX8_span 47 = .ok (.iload_n 1, 1) := by decide +kernel
theorem dX8_span_48 : decode cX8_span 48 = .ok (.iaload, 1) := by decide +kernel
theorem dX8_span_49 : decode cX8_span 49 = .ok (.ireturn, 1) := by decide +kernel
theorem dX8_span_50 : decode cX8_span 50 = .ok (.aload_n 0, 1) := by decide +kernel
theorem dX8_span_51 : decode cX8_span 51 = .ok (.getfield 33, 3) := by decide +kernel
theorem dX8_span_54 : decode cX8_span 54 = .ok (.getfield 128, 3) := by decide +kernel
theorem dX8_span_57 : decode cX8_span 57 = .ok (.iload_n 1, 1) := by decide +kernel
theorem dX8_span_58 : decode cX8_span 58 = .ok (.iaload, 1) := by decide +kernel
theorem dX8_span_59 : decode cX8_span 59 = .ok (.ireturn, 1) := by decide +kernel
theorem dX8_span_60 : decode cX8_span 60 = .ok (.aload_n 0, 1) := by decide +kernel
theorem dX8_span_61 : decode cX8_span 61 = .ok (.getfield 33, 3) := by decide +kernel
theorem dX8_span_64 : decode cX8_span 64 = .ok (.getfield 131, 3) := by decide +kernel
theorem dX8_span_67 : decode cX8_span 67 = .ok (.iload_n 1, 1) := by decide +kernel
theorem dX8_span_68 : decode cX8_span 68 = .ok (.iaload, 1) := by decide +kernel
theorem dX8_span_69 : decode cX8_span 69 = .ok (.ireturn, 1) := by decide +kernel
theorem dX8_span_70 : decode cX8_span 70 = .ok (.bipush (-2), 2) := by decide +kernel
theorem dX8_span_72 : decode cX8_span 72 = .ok (.ireturn, 1) := by decide +kernel
theorem dX8_spell_0 : decode cX8_spell 0 = .ok (.aload_n 0, 1) := by decide +kernel
theorem dX8_spell_1 : decode cX8_spell 1 = .ok (.invokevirtual 134, 3) := by decide +kernel
theorem dX8_spell_4 : decode cX8_spell 4 = .ok (.ifCond .eq 16, 3) := by decide +kernel
theorem dX8_spell_7 : decode cX8_spell 7 = .ok (.aload_n 0, 1) := by decide +kernel
theorem dX8_spell_8 : decode cX8_spell 8 = .ok (.getfield 33, 3) := by decide +kernel
theorem dX8_spell_11 : decode cX8_spell 11 = .ok (.getfield 142, 3) := by decide +kernel
theorem dX8_spell_14 : decode cX8_spell 14 = .ok (.invokestatic 230, 3) := by decide +kernel
theorem dX8_spell_17 : decode cX8_spell 17 = .ok (.goto 5, 3) := by decide +kernel
theorem dX8_spell_20 : decode cX8_spell 20 = .ok (.bipush (-2), 2) := by decide +kernel
theorem dX8_spell_22 : decode cX8_spell 22 = .ok (.ireturn, 1) := by decide +kernel
theorem dX8_spots_0 : decode cX8_spots 0 = .ok (.aload_n 0, 1) := by decide +kernel
theorem dX8_spots_1 : decode cX8_spots 1 = .ok (.iload_n 1, 1) := by decide +kernel
theorem dX8_spots_2 : decode cX8_spots 2 = .ok (.invokevirtual 302, 3) := by decide +kernel
theorem dX8_spots_5 : decode cX8_spots 5 = .ok (.istore_n 2, 1) := by decide +kernel
theorem dX8_spots_6 : decode cX8_spots 6 = .ok (.iload_n 2, 1) := by decide +kernel
theorem dX8_spots_7 : decode cX8_spots 7 = .ok (.ifCond .eq 5, 3) := by decide +kernel
theorem dX8_spots_10 : decode cX8_spots 10 = .ok (.iload_n 2, 1) := by decide +kernel
theorem dX8_spots_11 : decode cX8_spots 11 = .ok (.ireturn, 1) := by decide +kernel
theorem dX8_spots_12 : decode cX8_spots 12 = .ok (.iconst 0, 1) := by decide +kernel
theorem dX8_spots_13 : decode cX8_spots 13 = .ok (.istore_n 3, 1) := by decide +kernel
theorem dX8_spots_14 : decode cX8_spots 14 = .ok (.iconst 0, 1) := by decide +kernel
theorem dX8_spots_15 : decode cX8_spots 15 = .ok (.istore 4, 2) := by decide +kernel
theorem dX8_spots_17 : decode cX8_spots 17 = .ok (.iload 4, 2) := by decide +kernel
theorem dX8_spots_19 : decode cX8_spots 19 = .ok (.aload_n 0, 1) := by decide +kernel
theorem dX8_spots_20 : decode cX8_spots 20 = .ok (.getfield 33, 3) := by decide +kernel
theorem dX8_spots_23 : decode cX8_spots 23 = .ok (.getfield 210, 3) := by decide +kernel
theorem dX8_spots_26 : decode cX8_spots 26 = .ok (.if_icmp .ge 45, 3) := by decide +kernel
theorem dX8_spots_29 : decode cX8_spots 29 = .ok (.aload_n 0, 1) := by decide +kernel
theorem dX8_spots_30 : decode cX8_spots 30 = .ok (.iload_n 1, 1) := by decide +kernel
theorem dX8_spots_31 : decode cX8_spots 31 = .ok (.iload 4, 2) := by decide +kernel
theorem dX8_spots_33 : decode cX8_spots 33 = .ok (.invokevirtual 292, 3) := by decide +kernel
theorem dX8_spots_36 : decode cX8_spots 36 = .ok (.iconst 1, 1) := by decide +kernel
theorem dX8_spots_37 : decode cX8_spots 37 = .ok (.aload_n 0, 1) := by decide +kernel
theorem dX8_spots_38 : decode cX8_spots 38 = .ok (.getfield 33, 3) := by decide +kernel
theorem dX8_spots_41 : decode cX8_spots 41 = .ok (.getfield 128, 3) := by decide +kernel
theorem dX8_spots_44 : decode cX8_spots 44 = .ok (.iload 4, 2) := by decide +kernel
theorem dX8_spots_46 : decode cX8_spots 46 = .ok (.iaload, 1) := by decide +kernel
theorem dX8_spots_47 : decode cX8_spots 47 = .ok (.ishl, 1) := by decide +kernel
theorem dX8_spots_48 : decode cX8_spots 48 = .ok (.iconst (-1), 1) := by decide +kernel
theorem dX8_spots_49 : decode cX8_spots 49 = .ok (.ixor, 1) := by decide +kernel
theorem dX8_spots_50 : decode cX8_spots 50 = .ok (.iand, 1) := by decide +kernel
theorem dX8_spots_51 : decode cX8_spots 51 = .ok (.istore 5, 2) := by decide +kernel
theorem dX8_spots_53 : decode cX8_spots 53 = .ok (.iload 5, 2) := by decide +kernel
theorem dX8_spots_55 : decode cX8_spots 55 = .ok (.ifCond .eq 10, 3) := by decide +kernel
theorem dX8_spots_58 : decode cX8_spots 58 = .ok (.iload_n 3, 1) := by decide +kernel
theorem dX8_spots_59 : decode cX8_spots 59 = .ok (.iconst 1, 1) := by decide +kernel
theorem dX8_spots_60 : decode cX8_spots 60 = .ok (.iload 4, 2) := by decide +kernel
theorem dX8_spots_62 : decode cX8_spots 62 = .ok (.ishl, 1) := by decide +kernel
theorem dX8_spots_63 : decode cX8_spots 63 = .ok (.ior, 1) := by decide +kernel
theorem dX8_spots_64 : decode cX8_spots 64 = .ok (.istore_n 3, 1) := by decide +kernel
theorem dX8_spots_65 : decode cX8_spots 65 = .ok (.iinc 4 1, 3) := by decide +kernel
theorem dX8_spots_68 : decode cX8_spots 68 = .ok (.goto (-51), 3) := by decide +kernel
theorem dX8_spots_71 : decode cX8_spots 71 = .ok (.iload_n 3, 1) := by decide +kernel
theorem dX8_spots_72 : decode cX8_spots 72 = .ok (.ireturn, 1) := by decide +kernel
theorem dX8_stations_0 : decode cX8_stations 0 = .ok (.aload_n 0, 1) := by decide +kernel
theorem dX8_stations_1 : decode cX8_stations 1 = .ok (.invokevirtual 134, 3) := by decide +kernel
theorem dX8_stations_4 : decode cX8_stations 4 = .ok (.ifCond .eq 13, 3) := by decide +kernel
theorem dX8_stations_7 : decode cX8_stations 7 = .ok (.aload_n 0, 1) := by decide +kernel
theorem dX8_stations_8 : decode cX8_stations 8 = .ok (.getfield 33, 3) := by decide +kernel
theorem dX8_stations_11 : decode cX8_stations 11 = .ok (.invokevirtual 138, 3) := by decide +kernel
theorem dX8_stations_14 : decode cX8_stations 14 = .ok (.goto 5, 3) := by decide +kernel
theorem dX8_stations_17 : decode cX8_stations 17 = .ok (.bipush (-2), 2) := by decide +kernel
theorem dX8_stations_19 : decode cX8_stations 19 = .ok (.ireturn, 1) := by decide +kernel
theorem dX8_steep_0 : decode cX8_steep 0 = .ok (.aload_n 0, 1) := by decide +kernel
theorem dX8_steep_1 : decode cX8_steep 1 = .ok (.iload_n 1, 1) := by decide +kernel
theorem dX8_steep_2 : decode cX8_steep 2 = .ok (.invokevirtual 145, 3) := by decide +kernel
theorem dX8_steep_5 : decode cX8_steep 5 = .ok (.ifCond .ne 6, 3) := by decide +kernel
theorem dX8_steep_8 : decode cX8_steep 8 = .ok (.bipush (-2), 2) := by decide +kernel
theorem dX8_steep_10 : decode cX8_steep 10 = .ok (.ireturn, 1) := by decide +kernel
theorem dX8_steep_11 : decode cX8_steep 11 = .ok (.aload_n 0, 1) := by decide +kernel
theorem dX8_steep_12 : decode cX8_steep 12 = .ok (.iload_n 1, 1) := by decide +kernel
theorem dX8_steep_13 : decode cX8_steep 13 = .ok (.invokevirtual 164, 3) := by decide +kernel
theorem dX8_steep_16 : decode cX8_steep 16 = .ok (.iconst (-1), 1) := by decide +kernel
theorem dX8_steep_17 : decode cX8_steep 17 = .ok (.istore_n 2, 1) := by decide +kernel
theorem dX8_steep_18 : decode cX8_steep 18 = .ok (.iconst 0, 1) := by decide +kernel
theorem dX8_steep_19 : decode cX8_steep 19 = .ok (.istore_n 3, 1) := by decide +kernel
theorem dX8_steep_20 : decode cX8_steep 20 = .ok (.iload_n 3, 1) := by decide +kernel
theorem dX8_steep_21 : decode cX8_steep 21 = .ok (.aload_n 0, 1) := by decide +kernel
theorem dX8_steep_22 : decode cX8_steep 22 = .ok (.getfield 61, 3) := by decide +kernel
theorem dX8_steep_25 : decode cX8_steep 25 = .ok (.getfield 200, 3) := by decide +kernel
theorem dX8_steep_28 : decode cX8_steep 28 = .ok (.if_icmp .ge 36, 3) := by decide +kernel
theorem dX8_steep_31 : decode cX8_steep 31 = .ok (.iload_n 2, 1) := by decide +kernel
theorem dX8_steep_32 : decode cX8_steep 32 = .ok (.iconst (-1), 1) := by decide +kernel
theorem dX8_steep_33 : decode cX8_steep 33 = .ok (.if_icmp .eq 23, 3) := by decide +kernel
theorem dX8_steep_36 : decode cX8_steep 36 = .ok (.aload_n 0, 1) := by decide +kernel
theorem dX8_steep_37 : decode cX8_steep 37 = .ok (.getfield 61, 3) := by decide +kernel
theorem dX8_steep_40 : decode cX8_steep 40 = .ok (.iload_n 3, 1) := by decide +kernel
theorem dX8_steep_41 : decode cX8_steep 41 = .ok (.invokevirtual 196, 3) := by decide +kernel
theorem dX8_steep_44 : decode cX8_steep 44 = .ok (.aload_n 0, 1) := by decide +kernel
theorem dX8_steep_45 : decode cX8_steep 45 = .ok (.getfield 61, 3) := by decide +kernel
theorem dX8_steep_48 : decode cX8_steep 48 = .ok (.iload_n 2, 1) := by decide +kernel
theorem dX8_steep_49 : decode cX8_steep 49 = .ok (.invokevirtual 196, 3) := by decide +kernel
theorem dX8_steep_52 : decode cX8_steep 52 = .ok (.lcmp, 1) := by decide +kernel
theorem dX8_steep_53 : decode cX8_steep 53 = .ok (.ifCond .le 5, 3) := by decide +kernel
theorem dX8_steep_56 : decode cX8_steep 56 = .ok (.iload_n 3, 1) := by decide +kernel
theorem dX8_steep_57 : decode cX8_steep 57 = .ok (.istore_n 2, 1) := by decide +kernel
theorem dX8_steep_58 : decode cX8_steep 58 = .ok (.iinc 3 1, 3) := by decide +kernel
theorem dX8_steep_61 : decode cX8_steep 61 = .ok (.goto (-41), 3) := by decide +kernel
theorem dX8_steep_64 : decode cX8_steep 64 = .ok (.iload_n 2, 1) := by decide +kernel
theorem dX8_steep_65 : decode cX8_steep 65 = .ok (.ireturn, 1) := by decide +kernel
theorem dX8_strong_0 : decode cX8_strong 0 = .ok (.aload_n 0, 1) := by decide +kernel
theorem dX8_strong_1 : decode cX8_strong 1 = .ok (.invokevirtual 134, 3) := by decide +kernel
theorem dX8_strong_4 : decode cX8_strong 4 = .ok (.ifCond .eq 11, 3) := by decide +kernel
theorem dX8_strong_7 : decode cX8_strong 7 = .ok (.aload_n 0, 1) := by decide +kernel
theorem dX8_strong_8 : decode cX8_strong 8 = .ok (.iconst 1, 1) := by decide +kernel
theorem dX8_strong_9 : decode cX8_strong 9 = .ok (.invokevirtual 275, 3) := by decide +kernel
theorem dX8_strong_12 : decode cX8_strong 12 = .ok (.goto 5, 3) := by decide +kernel
theorem dX8_strong_15 : decode cX8_strong 15 = .ok (.bipush (-2), 2) := by decide +kernel
theorem dX8_strong_17 : decode cX8_strong 17 = .ok (.ireturn, 1) := by decide +kernel
theorem dX8_sum_0 : decode cX8_sum 0 = .ok (.aload_n 0, 1) := by decide +kernel
theorem dX8_sum_1 : decode cX8_sum 1 = .ok (.invokevirtual 134, 3) := by decide +kernel
theorem dX8_sum_4 : decode cX8_sum 4 = .ok (.ifCond .ne 6, 3) := by decide +kernel
theorem dX8_sum_7 : decode cX8_sum 7 = .ok (.bipush (-2), 2) := by decide +kernel
theorem dX8_sum_9 : decode cX8_sum 9 = .ok (.ireturn, 1) := by decide +kernel
theorem dX8_sum_10 : decode cX8_sum 10 = .ok (.aload_n 0, 1) := by decide +kernel
theorem dX8_sum_11 : decode cX8_sum 11 = .ok (.getfield 54, 3) := by decide +kernel
theorem dX8_sum_14 : decode cX8_sum 14 = .ok (.aload_n 0, 1) := by decide +kernel
theorem dX8_sum_15 : decode cX8_sum 15 = .ok (.getfield 33, 3) := by decide +kernel
theorem dX8_sum_18 : decode cX8_sum 18 = .ok (.invokevirtual 148, 3) := by decide +kernel
theorem dX8_sum_21 : decode cX8_sum 21 = .ok (.aload_n 0, 1) := by decide +kernel
theorem dX8_sum_22 : decode cX8_sum 22 = .ok (.invokevirtual 245, 3) := by decide +kernel
theorem dX8_sum_25 : decode cX8_sum 25 = .ok (.ireturn, 1) := by decide +kernel
theorem dX8_thick_0 : decode cX8_thick 0 = .ok (.aload_n 0, 1) := by decide +kernel
theorem dX8_thick_1 : decode cX8_thick 1 = .ok (.invokevirtual 134, 3) := by decide +kernel
theorem dX8_thick_4 : decode cX8_thick 4 = .ok (.ifCond .ne 6, 3) := by decide +kernel
theorem dX8_thick_7 : decode cX8_thick 7 = .ok (.bipush (-2), 2) := by decide +kernel
theorem dX8_thick_9 : decode cX8_thick 9 = .ok (.ireturn, 1) := by decide +kernel
theorem dX8_thick_10 : decode cX8_thick 10 = .ok (.aload_n 0, 1) := by decide +kernel
theorem dX8_thick_11 : decode cX8_thick 11 = .ok (.iconst 0, 1) := by decide +kernel
theorem dX8_thick_12 : decode cX8_thick 12 = .ok (.invokevirtual 260, 3) := by decide +kernel
theorem dX8_thick_15 : decode cX8_thick 15 = .ok (.istore_n 1, 1) := by decide +kernel
theorem dX8_thick_16 : decode cX8_thick 16 = .ok (.iconst (-1), 1) := by decide +kernel
theorem dX8_thick_17 : decode cX8_thick 17 = .ok (.istore_n 2, 1) := by decide +kernel
theorem dX8_thick_18 : decode cX8_thick 18 = .ok (.iconst 0, 1) := by decide +kernel
theorem dX8_thick_19 : decode cX8_thick 19 = .ok (.istore_n 3, 1) := by decide +kernel
theorem dX8_thick_20 : decode cX8_thick 20 = .ok (.iload_n 3, 1) := by decide +kernel
theorem dX8_thick_21 : decode cX8_thick 21 = .ok (.aload_n 0, 1) := by decide +kernel
theorem dX8_thick_22 : decode cX8_thick 22 = .ok (.getfield 33, 3) := by decide +kernel
theorem dX8_thick_25 : decode cX8_thick 25 = .ok (.getfield 210, 3) := by decide +kernel
theorem dX8_thick_28 : decode cX8_thick 28 = .ok (.if_icmp .ge 47, 3) := by decide +kernel
theorem dX8_thick_31 : decode cX8_thick 31 = .ok (.aload_n 0, 1) := by decide +kernel
theorem dX8_thick_32 : decode cX8_thick 32 = .ok (.getfield 54, 3) := by decide +kernel
theorem dX8_thick_35 : decode cX8_thick 35 = .ok (.aload_n 0, 1) := by decide +kernel
theorem dX8_thick_36 : decode cX8_thick 36 = .ok (.getfield 33, 3) := by decide +kernel
theorem dX8_thick_39 : decode cX8_thick 39 = .ok (.invokevirtual 148, 3) := by decide +kernel
theorem dX8_thick_42 : decode cX8_thick 42 = .ok (.aload_n 0, 1) := by decide +kernel
theorem dX8_thick_43 : decode cX8_thick 43 = .ok (.getfield 54, 3) := by decide +kernel
theorem dX8_thick_46 : decode cX8_thick 46 = .ok (.getfield 288, 3) := by decide +kernel
theorem dX8_thick_49 : decode cX8_thick 49 = .ok (.iload_n 3, 1) := by decide +kernel
theorem dX8_thick_50 : decode cX8_thick 50 = .ok (.iconst 1, 1) := by decide +kernel
theorem dX8_thick_51 : decode cX8_thick 51 = .ok (.iastore, 1) := by decide +kernel
theorem dX8_thick_52 : decode cX8_thick 52 = .ok (.aload_n 0, 1) := by decide +kernel
theorem dX8_thick_53 : decode cX8_thick 53 = .ok (.invokevirtual 245, 3) := by decide +kernel
theorem dX8_thick_56 : decode cX8_thick 56 = .ok (.istore 4, 2) := by decide +kernel
theorem dX8_thick_58 : decode cX8_thick 58 = .ok (.iload 4, 2) := by decide +kernel
theorem dX8_thick_60 : decode cX8_thick 60 = .ok (.iload_n 1, 1) := by decide +kernel
theorem dX8_thick_61 : decode cX8_thick 61 = .ok (.if_icmp .le 8, 3) := by decide +kernel
theorem dX8_thick_64 : decode cX8_thick 64 = .ok (.iload 4, 2) := by decide +kernel
theorem dX8_thick_66 : decode cX8_thick 66 = .ok (.istore_n 1, 1) := by decide +kernel
theorem dX8_thick_67 : decode cX8_thick 67 = .ok (.iload_n 3, 1) := by decide +kernel
theorem dX8_thick_68 : decode cX8_thick 68 = .ok (.istore_n 2, 1) := by decide +kernel
theorem dX8_thick_69 : decode cX8_thick 69 = .ok (.iinc 3 1, 3) := by decide +kernel
theorem dX8_thick_72 : decode cX8_thick 72 = .ok (.goto (-52), 3) := by decide +kernel
theorem dX8_thick_75 : decode cX8_thick 75 = .ok (.iload_n 2, 1) := by decide +kernel
theorem dX8_thick_76 : decode cX8_thick 76 = .ok (.ireturn, 1) := by decide +kernel
theorem dX8_undo_0 : decode cX8_undo 0 = .ok (.aload_n 0, 1) := by decide +kernel
theorem dX8_undo_1 : decode cX8_undo 1 = .ok (.invokevirtual 134, 3) := by decide +kernel
theorem dX8_undo_4 : decode cX8_undo 4 = .ok (.ifCond .ne 6, 3) := by decide +kernel
theorem dX8_undo_7 : decode cX8_undo 7 = .ok (.bipush (-2), 2) := by decide +kernel
theorem dX8_undo_9 : decode cX8_undo 9 = .ok (.ireturn, 1) := by decide +kernel
theorem dX8_undo_10 : decode cX8_undo 10 = .ok (.aload_n 0, 1) := by decide +kernel
theorem dX8_undo_11 : decode cX8_undo 11 = .ok (.getfield 33, 3) := by decide +kernel
theorem dX8_undo_14 : decode cX8_undo 14 = .ok (.getfield 335, 3) := by decide +kernel
theorem dX8_undo_17 : decode cX8_undo 17 = .ok (.ifCond .ne 6, 3) := by decide +kernel
theorem dX8_undo_20 : decode cX8_undo 20 = .ok (.bipush (-5), 2) := by decide +kernel
theorem dX8_undo_22 : decode cX8_undo 22 = .ok (.ireturn, 1) := by decide +kernel
theorem dX8_undo_23 : decode cX8_undo 23 = .ok (.aload_n 0, 1) := by decide +kernel
theorem dX8_undo_24 : decode cX8_undo 24 = .ok (.getfield 33, 3) := by decide +kernel
theorem dX8_undo_27 : decode cX8_undo 27 = .ok (.aload_n 0, 1) := by decide +kernel
theorem dX8_undo_28 : decode cX8_undo 28 = .ok (.getfield 33, 3) := by decide +kernel
theorem dX8_undo_31 : decode cX8_undo 31 = .ok (.getfield 335, 3) := by decide +kernel
theorem dX8_undo_34 : decode cX8_undo 34 = .ok (.iconst 1, 1) := by decide +kernel
theorem dX8_undo_35 : decode cX8_undo 35 = .ok (.isub, 1) := by decide +kernel
theorem dX8_undo_36 : decode cX8_undo 36 = .ok (.invokevirtual 342, 3) := by decide +kernel
theorem dX8_undo_39 : decode cX8_undo 39 = .ok (.aload_n 0, 1) := by decide +kernel
theorem dX8_undo_40 : decode cX8_undo 40 = .ok (.getfield 33, 3) := by decide +kernel
theorem dX8_undo_43 : decode cX8_undo 43 = .ok (.getfield 335, 3) := by decide +kernel
theorem dX8_undo_46 : decode cX8_undo 46 = .ok (.ireturn, 1) := by decide +kernel
theorem dX8_volts_0 : decode cX8_volts 0 = .ok (.aload_n 0, 1) := by decide +kernel
theorem dX8_volts_1 : decode cX8_volts 1 = .ok (.iload_n 1, 1) := by decide +kernel
theorem dX8_volts_2 : decode cX8_volts 2 = .ok (.invokevirtual 121, 3) := by decide +kernel
theorem dX8_volts_5 : decode cX8_volts 5 = .ok (.ifCond .eq 18, 3) := by decide +kernel
theorem dX8_volts_8 : decode cX8_volts 8 = .ok (.aload_n 0, 1) := by decide +kernel
theorem dX8_volts_9 : decode cX8_volts 9 = .ok (.iload_n 2, 1) := by decide +kernel
theorem dX8_volts_10 : decode cX8_volts 10 = .ok (.invokevirtual 145, 3) := by decide +kernel
theorem dX8_volts_13 : decode cX8_volts 13 = .ok (.ifCond .eq 10, 3) := by decide +kernel
theorem dX8_volts_16 : decode cX8_volts 16 = .ok (.iload_n 3, 1) := by decide +kernel
theorem dX8_volts_17 : decode cX8_volts 17 = .ok (.invokestatic 159, 3) := by decide +kernel
theorem dX8_volts_20 : decode cX8_volts 20 = .ok (.ifCond .ne 7, 3) := by decide +kernel
theorem dX8_volts_23 : decode cX8_volts 23 = .ok (.ldc2_w 162, 3) := by decide +kernel
theorem dX8_volts_26 : decode cX8_volts 26 = .ok (.lreturn, 1) := by decide +kernel
theorem dX8_volts_27 : decode cX8_volts 27 = .ok (.aload_n 0, 1) := by decide +kernel
theorem dX8_volts_28 : decode cX8_volts 28 = .ok (.iload_n 2, 1) := by decide +kernel
theorem dX8_volts_29 : decode cX8_volts 29 = .ok (.invokevirtual 164, 3) := by decide +kernel
theorem dX8_volts_32 : decode cX8_volts 32 = .ok (.aload_n 0, 1) := by decide +kernel
theorem dX8_volts_33 : decode cX8_volts 33 = .ok (.aload_n 0, 1) := by decide +kernel
theorem dX8_volts_34 : decode cX8_volts 34 = .ok (.getfield 33, 3) := by decide +kernel
theorem dX8_volts_37 : decode cX8_volts 37 = .ok (.getfield 175, 3) := by decide +kernel
theorem dX8_volts_40 : decode cX8_volts 40 = .ok (.i2l, 1) := by decide +kernel
theorem dX8_volts_41 : decode cX8_volts 41 = .ok (.aload_n 0, 1) := by decide +kernel
theorem dX8_volts_42 : decode cX8_volts 42 = .ok (.getfield 61, 3) := by decide +kernel
theorem dX8_volts_45 : decode cX8_volts 45 = .ok (.getfield 190, 3) := by decide +kernel
theorem dX8_volts_48 : decode cX8_volts 48 = .ok (.iload_n 1, 1) := by decide +kernel
theorem dX8_volts_49 : decode cX8_volts 49 = .ok (.laload, 1) := by decide +kernel
theorem dX8_volts_50 : decode cX8_volts 50 = .ok (.lmul, 1) := by decide +kernel
theorem dX8_volts_51 : decode cX8_volts 51 = .ok (.aload_n 0, 1) := by decide +kernel
theorem dX8_volts_52 : decode cX8_volts 52 = .ok (.getfield 61, 3) := by decide +kernel
theorem dX8_volts_55 : decode cX8_volts 55 = .ok (.getfield 182, 3) := by decide +kernel
theorem dX8_volts_58 : decode cX8_volts 58 = .ok (.iload_n 3, 1) := by decide +kernel
theorem dX8_volts_59 : decode cX8_volts 59 = .ok (.invokevirtual 186, 3) := by decide +kernel
theorem dX8_volts_62 : decode cX8_volts 62 = .ok (.lreturn, 1) := by decide +kernel
theorem dX8_weakest_0 : decode cX8_weakest 0 = .ok (.aload_n 0, 1) := by decide +kernel
theorem dX8_weakest_1 : decode cX8_weakest 1 = .ok (.invokevirtual 134, 3) := by decide +kernel
theorem dX8_weakest_4 : decode cX8_weakest 4 = .ok (.ifCond .eq 11, 3) := by decide +kernel
theorem dX8_weakest_7 : decode cX8_weakest 7 = .ok (.aload_n 0, 1) := by decide +kernel
theorem dX8_weakest_8 : decode cX8_weakest 8 = .ok (.iconst (-1), 1) := by decide +kernel
theorem dX8_weakest_9 : decode cX8_weakest 9 = .ok (.invokevirtual 275, 3) := by decide +kernel
theorem dX8_weakest_12 : decode cX8_weakest 12 = .ok (.goto 5, 3) := by decide +kernel
theorem dX8_weakest_15 : decode cX8_weakest 15 = .ok (.bipush (-2), 2) := by decide +kernel
theorem dX8_weakest_17 : decode cX8_weakest 17 = .ok (.ireturn, 1) := by decide +kernel
theorem dX8_wetByDraws_0 : decode cX8_wetByDraws 0 = .ok (.iload_n 1, 1) := by decide +kernel
theorem dX8_wetByDraws_1 : decode cX8_wetByDraws 1 = .ok (.i2l, 1) := by decide +kernel
theorem dX8_wetByDraws_2 : decode cX8_wetByDraws 2 = .ok (.lstore_n 2, 1) := by decide +kernel
theorem dX8_wetByDraws_3 : decode cX8_wetByDraws 3 = .ok (.iconst 0, 1) := by decide +kernel
theorem dX8_wetByDraws_4 : decode cX8_wetByDraws 4 = .ok (.istore 4, 2) := by decide +kernel
theorem dX8_wetByDraws_6 : decode cX8_wetByDraws 6 = .ok (.iconst 0, 1) := by decide +kernel
theorem dX8_wetByDraws_7 : decode cX8_wetByDraws 7 = .ok (.istore 5, 2) := by decide +kernel
theorem dX8_wetByDraws_9 : decode cX8_wetByDraws 9 = .ok (.iload 5, 2) := by decide +kernel
theorem dX8_wetByDraws_11 : decode cX8_wetByDraws 11 = .ok (.aload_n 0, 1) := by decide +kernel
theorem dX8_wetByDraws_12 : decode cX8_wetByDraws 12 = .ok (.getfield 33, 3) := by decide +kernel
theorem dX8_wetByDraws_15 : decode cX8_wetByDraws 15 = .ok (.getfield 242, 3) := by decide +kernel
theorem dX8_wetByDraws_18 : decode cX8_wetByDraws 18 = .ok (.if_icmp .gt 53, 3) := by decide +kernel
theorem dX8_wetByDraws_21 : decode cX8_wetByDraws 21 = .ok (.ldc2_w 433, 3) := by decide +kernel
theorem dX8_wetByDraws_24 : decode cX8_wetByDraws 24 = .ok (.lload_n 2, 1) := by decide +kernel
theorem dX8_wetByDraws_25 : decode cX8_wetByDraws 25 = .ok (.lmul, 1) := by decide +kernel
theorem dX8_wetByDraws_26 : decode cX8_wetByDraws 26 = .ok (.ldc2_w 435, 3) := by decide +kernel
theorem dX8_wetByDraws_29 : decode cX8_wetByDraws 29 = .ok (.ladd, 1) := by decide +kernel
theorem dX8_wetByDraws_30 : decode cX8_wetByDraws 30 = .ok (.ldc2_w 437, 3) := by decide +kernel
theorem dX8_wetByDraws_33 : decode cX8_wetByDraws 33 = .ok (.lrem, 1) := by decide +kernel
theorem dX8_wetByDraws_34 : decode cX8_wetByDraws 34 = .ok (.lstore_n 2, 1) := by decide +kernel
theorem dX8_wetByDraws_35 : decode cX8_wetByDraws 35 = .ok (.lload_n 2, 1) := by decide +kernel
theorem dX8_wetByDraws_36 : decode cX8_wetByDraws 36 = .ok (.ldc2_w 439, 3) := by decide +kernel
theorem dX8_wetByDraws_39 : decode cX8_wetByDraws 39 = .ok (.ldiv, 1) := by decide +kernel
theorem dX8_wetByDraws_40 : decode cX8_wetByDraws 40 = .ok (.ldc2_w 441, 3) := by decide +kernel
theorem dX8_wetByDraws_43 : decode cX8_wetByDraws 43 = .ok (.lrem, 1) := by decide +kernel
theorem dX8_wetByDraws_44 : decode cX8_wetByDraws 44 = .ok (.aload_n 0, 1) := by decide +kernel
theorem dX8_wetByDraws_45 : decode cX8_wetByDraws 45 = .ok (.getfield 33, 3) := by decide +kernel
theorem dX8_wetByDraws_48 : decode cX8_wetByDraws 48 = .ok (.getfield 355, 3) := by decide +kernel
theorem dX8_wetByDraws_51 : decode cX8_wetByDraws 51 = .ok (.i2l, 1) := by decide +kernel
theorem dX8_wetByDraws_52 : decode cX8_wetByDraws 52 = .ok (.lcmp, 1) := by decide +kernel
theorem dX8_wetByDraws_53 : decode cX8_wetByDraws 53 = .ok (.ifCond .ge 12, 3) := by decide +kernel
theorem dX8_wetByDraws_56 : decode cX8_wetByDraws 56 = .ok (.iload 4, 2) := by decide +kernel
theorem dX8_wetByDraws_58 : decode cX8_wetByDraws 58 = .ok (.iconst 1, 1) := by decide +kernel
theorem dX8_wetByDraws_59 : decode cX8_wetByDraws 59 = .ok (.iload 5, 2) := by decide +kernel
theorem dX8_wetByDraws_61 : decode cX8_wetByDraws 61 = .ok (.ishl, 1) := by decide +kernel
theorem dX8_wetByDraws_62 : decode cX8_wetByDraws 62 = .ok (.ior, 1) := by decide +kernel
theorem dX8_wetByDraws_63 : decode cX8_wetByDraws 63 = .ok (.istore 4, 2) := by decide +kernel
theorem dX8_wetByDraws_65 : decode cX8_wetByDraws 65 = .ok (.iinc 5 1, 3) := by decide +kernel
theorem dX8_wetByDraws_68 : decode cX8_wetByDraws 68 = .ok (.goto (-59), 3) := by decide +kernel
theorem dX8_wetByDraws_71 : decode cX8_wetByDraws 71 = .ok (.iload 4, 2) := by decide +kernel
theorem dX8_wetByDraws_73 : decode cX8_wetByDraws 73 = .ok (.ireturn, 1) := by decide +kernel
theorem dX8_wets_0 : decode cX8_wets 0 = .ok (.aload_n 0, 1) := by decide +kernel
theorem dX8_wets_1 : decode cX8_wets 1 = .ok (.invokevirtual 134, 3) := by decide +kernel
theorem dX8_wets_4 : decode cX8_wets 4 = .ok (.ifCond .eq 13, 3) := by decide +kernel
theorem dX8_wets_7 : decode cX8_wets 7 = .ok (.aload_n 0, 1) := by decide +kernel
theorem dX8_wets_8 : decode cX8_wets 8 = .ok (.getfield 33, 3) := by decide +kernel
theorem dX8_wets_11 : decode cX8_wets 11 = .ok (.getfield 142, 3) := by decide +kernel
theorem dX8_wets_14 : decode cX8_wets 14 = .ok (.goto 5, 3) := by decide +kernel
theorem dX8_wets_17 : decode cX8_wets 17 = .ok (.bipush (-2), 2) := by decide +kernel
theorem dX8_wets_19 : decode cX8_wets 19 = .ok (.ireturn, 1) := by decide +kernel
theorem dX8_when_0 : decode cX8_when 0 = .ok (.aload_n 0, 1) := by decide +kernel
theorem dX8_when_1 : decode cX8_when 1 = .ok (.iload_n 1, 1) := by decide +kernel
theorem dX8_when_2 : decode cX8_when 2 = .ok (.invokevirtual 213, 3) := by decide +kernel
theorem dX8_when_5 : decode cX8_when 5 = .ok (.ifCond .ne 6, 3) := by decide +kernel
theorem dX8_when_8 : decode cX8_when 8 = .ok (.bipush (-2), 2) := by decide +kernel
theorem dX8_when_10 : decode cX8_when 10 = .ok (.ireturn, 1) := by decide +kernel
theorem dX8_when_11 : decode cX8_when 11 = .ok (.aload_n 0, 1) := by decide +kernel
theorem dX8_when_12 : decode cX8_when 12 = .ok (.invokevirtual 216, 3) := by decide +kernel
theorem dX8_when_15 : decode cX8_when 15 = .ok (.aload_n 0, 1) := by decide +kernel
theorem dX8_when_16 : decode cX8_when 16 = .ok (.iload_n 1, 1) := by decide +kernel
theorem dX8_when_17 : decode cX8_when 17 = .ok (.invokevirtual 219, 3) := by decide +kernel
theorem dX8_when_20 : decode cX8_when 20 = .ok (.iconst (-1), 1) := by decide +kernel
theorem dX8_when_21 : decode cX8_when 21 = .ok (.ixor, 1) := by decide +kernel
theorem dX8_when_22 : decode cX8_when 22 = .ok (.iand, 1) := by decide +kernel
theorem dX8_when_23 : decode cX8_when 23 = .ok (.istore_n 2, 1) := by decide +kernel
theorem dX8_when_24 : decode cX8_when 24 = .ok (.iload_n 2, 1) := by decide +kernel
theorem dX8_when_25 : decode cX8_when 25 = .ok (.ifCond .ne 7, 3) := by decide +kernel
theorem dX8_when_28 : decode cX8_when 28 = .ok (.iconst (-1), 1) := by decide +kernel
theorem dX8_when_29 : decode cX8_when 29 = .ok (.goto 7, 3) := by decide +kernel
theorem dX8_when_32 : decode cX8_when 32 = .ok (.iload_n 2, 1) := by decide +kernel
theorem dX8_when_33 : decode cX8_when 33 = .ok (.invokestatic 222, 3) := by decide +kernel
theorem dX8_when_36 : decode cX8_when 36 = .ok (.ireturn, 1) := by decide +kernel
theorem dX8_whole_0 : decode cX8_whole 0 = .ok (.aload_n 0, 1) := by decide +kernel
theorem dX8_whole_1 : decode cX8_whole 1 = .ok (.iload_n 1, 1) := by decide +kernel
theorem dX8_whole_2 : decode cX8_whole 2 = .ok (.invokevirtual 121, 3) := by decide +kernel
theorem dX8_whole_5 : decode cX8_whole 5 = .ok (.ifCond .eq 11, 3) := by decide +kernel
theorem dX8_whole_8 : decode cX8_whole 8 = .ok (.aload_n 0, 1) := by decide +kernel
theorem dX8_whole_9 : decode cX8_whole 9 = .ok (.iload_n 2, 1) := by decide +kernel
theorem dX8_whole_10 : decode cX8_whole 10 = .ok (.invokevirtual 145, 3) := by decide +kernel
theorem dX8_whole_13 : decode cX8_whole 13 = .ok (.ifCond .ne 6, 3) := by decide +kernel
theorem dX8_whole_16 : decode cX8_whole 16 = .ok (.bipush (-2), 2) := by decide +kernel
theorem dX8_whole_18 : decode cX8_whole 18 = .ok (.ireturn, 1) := by decide +kernel
theorem dX8_whole_19 : decode cX8_whole 19 = .ok (.aload_n 0, 1) := by decide +kernel
theorem dX8_whole_20 : decode cX8_whole 20 = .ok (.iload_n 2, 1) := by decide +kernel
theorem dX8_whole_21 : decode cX8_whole 21 = .ok (.invokevirtual 164, 3) := by decide +kernel
theorem dX8_whole_24 : decode cX8_whole 24 = .ok (.aload_n 0, 1) := by decide +kernel
theorem dX8_whole_25 : decode cX8_whole 25 = .ok (.iload_n 1, 1) := by decide +kernel
theorem dX8_whole_26 : decode cX8_whole 26 = .ok (.invokevirtual 192, 3) := by decide +kernel
theorem dX8_whole_29 : decode cX8_whole 29 = .ok (.ireturn, 1) := by decide +kernel
theorem dX8_wholeVolts_0 : decode cX8_wholeVolts 0 = .ok (.aload_n 0, 1) := by decide +kernel
theorem dX8_wholeVolts_1 : decode cX8_wholeVolts 1 = .ok (.getfield 33, 3) := by decide +kernel
theorem dX8_wholeVolts_4 : decode cX8_wholeVolts 4 = .ok (.getfield 175, 3) := by decide +kernel
theorem dX8_wholeVolts_7 : decode cX8_wholeVolts 7 = .ok (.i2l, 1) := by decide +kernel
theorem dX8_wholeVolts_8 : decode cX8_wholeVolts 8 = .ok (.aload_n 0, 1) := by decide +kernel
theorem dX8_wholeVolts_9 : decode cX8_wholeVolts 9 = .ok (.getfield 61, 3) := by decide +kernel
theorem dX8_wholeVolts_12 : decode cX8_wholeVolts 12 = .ok (.getfield 190, 3) := by decide +kernel
theorem dX8_wholeVolts_15 : decode cX8_wholeVolts 15 = .ok (.iload_n 1, 1) := by decide +kernel
theorem dX8_wholeVolts_16 : decode cX8_wholeVolts 16 = .ok (.laload, 1) := by decide +kernel
theorem dX8_wholeVolts_17 : decode cX8_wholeVolts 17 = .ok (.lmul, 1) := by decide +kernel
theorem dX8_wholeVolts_18 : decode cX8_wholeVolts 18 = .ok (.lstore_n 2, 1) := by decide +kernel
theorem dX8_wholeVolts_19 : decode cX8_wholeVolts 19 = .ok (.aload_n 0, 1) := by decide +kernel
theorem dX8_wholeVolts_20 : decode cX8_wholeVolts 20 = .ok (.getfield 61, 3) := by decide +kernel
theorem dX8_wholeVolts_23 : decode cX8_wholeVolts 23 = .ok (.getfield 182, 3) := by decide +kernel
theorem dX8_wholeVolts_26 : decode cX8_wholeVolts 26 = .ok (.lconst 0, 1) := by decide +kernel
theorem dX8_wholeVolts_27 : decode cX8_wholeVolts 27 = .ok (.lcmp, 1) := by decide +kernel
theorem dX8_wholeVolts_28 : decode cX8_wholeVolts 28 = .ok (.ifCond .le 16, 3) := by decide +kernel
theorem dX8_wholeVolts_31 : decode cX8_wholeVolts 31 = .ok (.lload_n 2, 1) := by decide +kernel
theorem dX8_wholeVolts_32 : decode cX8_wholeVolts 32 = .ok (.aload_n 0, 1) := by decide +kernel
theorem dX8_wholeVolts_33 : decode cX8_wholeVolts 33 = .ok (.getfield 61, 3) := by decide +kernel
theorem dX8_wholeVolts_36 : decode cX8_wholeVolts 36 = .ok (.getfield 182, 3) := by decide +kernel
theorem dX8_wholeVolts_39 : decode cX8_wholeVolts 39 = .ok (.ldiv, 1) := by decide +kernel
theorem dX8_wholeVolts_40 : decode cX8_wholeVolts 40 = .ok (.l2i, 1) := by decide +kernel
theorem dX8_wholeVolts_41 : decode cX8_wholeVolts 41 = .ok (.goto 4, 3) := by decide +kernel
theorem dX8_wholeVolts_44 : decode cX8_wholeVolts 44 = .ok (.iconst 0, 1) := by decide +kernel
theorem dX8_wholeVolts_45 : decode cX8_wholeVolts 45 = .ok (.ireturn, 1) := by decide +kernel
theorem dX8_wire_0 : decode cX8_wire 0 = .ok (.aload_n 0, 1) := by decide +kernel
theorem dX8_wire_1 : decode cX8_wire 1 = .ok (.getfield 19, 3) := by decide +kernel
theorem dX8_wire_4 : decode cX8_wire 4 = .ok (.aload_n 0, 1) := by decide +kernel
theorem dX8_wire_5 : decode cX8_wire 5 = .ok (.getfield 10, 3) := by decide +kernel
theorem dX8_wire_8 : decode cX8_wire 8 = .ok (.invokevirtual 100, 3) := by decide +kernel
theorem dX8_wire_11 : decode cX8_wire 11 = .ok (.aload_n 0, 1) := by decide +kernel
theorem dX8_wire_12 : decode cX8_wire 12 = .ok (.getfield 26, 3) := by decide +kernel
theorem dX8_wire_15 : decode cX8_wire 15 = .ok (.aload_n 0, 1) := by decide +kernel
theorem dX8_wire_16 : decode cX8_wire 16 = .ok (.getfield 19, 3) := by decide +kernel
theorem dX8_wire_19 : decode cX8_wire 19 = .ok (.aload_n 0, 1) := by decide +kernel
theorem dX8_wire_20 : decode cX8_wire 20 = .ok (.getfield 37, 3) := by decide +kernel
theorem dX8_wire_23 : decode cX8_wire 23 = .ok (.invokevirtual 104, 3) := by decide +kernel
theorem dX8_wire_26 : decode cX8_wire 26 = .ok (.aload_n 0, 1) := by decide +kernel
theorem dX8_wire_27 : decode cX8_wire 27 = .ok (.aload_n 0, 1) := by decide +kernel
theorem dX8_wire_28 : decode cX8_wire 28 = .ok (.getfield 26, 3) := by decide +kernel
theorem dX8_wire_31 : decode cX8_wire 31 = .ok (.getfield 108, 3) := by decide +kernel
theorem dX8_wire_34 : decode cX8_wire 34 = .ok (.putfield 86, 3) := by decide +kernel
theorem dX8_wire_37 : decode cX8_wire 37 = .ok (.aload_n 0, 1) := by decide +kernel
theorem dX8_wire_38 : decode cX8_wire 38 = .ok (.aload_n 0, 1) := by decide +kernel
theorem dX8_wire_39 : decode cX8_wire 39 = .ok (.getfield 86, 3) := by decide +kernel
theorem dX8_wire_42 : decode cX8_wire 42 = .ok (.ifCond .ne 7, 3) := by decide +kernel
theorem dX8_wire_45 : decode cX8_wire 45 = .ok (.iconst (-1), 1) := by decide +kernel
theorem dX8_wire_46 : decode cX8_wire 46 = .ok (.goto 10, 3) := by decide +kernel
theorem dX8_wire_49 : decode cX8_wire 49 = .ok (.aload_n 0, 1) := by decide +kernel
theorem dX8_wire_50 : decode cX8_wire 50 = .ok (.getfield 26, 3) := by decide +kernel
theorem dX8_wire_53 : decode cX8_wire 53 = .ok (.getfield 111, 3) := by decide +kernel
theorem dX8_wire_56 : decode cX8_wire 56 = .ok (.putfield 90, 3) := by decide +kernel
theorem dX8_wire_59 : decode cX8_wire 59 = .ok (.aload_n 0, 1) := by decide +kernel
theorem dX8_wire_60 : decode cX8_wire 60 = .ok (.getfield 86, 3) := by decide +kernel
theorem dX8_wire_63 : decode cX8_wire 63 = .ok (.ifCond .eq 6, 3) := by decide +kernel
