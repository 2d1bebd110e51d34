theorem dX9_rises_1 : decode cX9_rises 1 = .ok (.iconst 0, 1) := by decide +kernel
theorem dX9_rises_2 : decode cX9_rises 2 = .ok (.putfield 68, 3) := by decide +kernel
theorem dX9_rises_5 : decode cX9_rises 5 = .ok (.aload_n 0, 1) := by decide +kernel
theorem dX9_rises_6 : decode cX9_rises 6 = .ok (.iload_n 1, 1) := by decide +kernel
theorem dX9_rises_7 : decode cX9_rises 7 = .ok (.invokevirtual 216, 3) := by decide +kernel
theorem dX9_rises_10 : decode cX9_rises 10 = .ok (.ifCond .ne 6, 3) := by decide +kernel
theorem dX9_rises_13 : decode cX9_rises 13 = .ok (.bipush (-2), 2) := by decide +kernel
theorem dX9_rises_15 : decode cX9_rises 15 = .ok (.ireturn, 1) := by decide +kernel
theorem dX9_row_0 : decode cX9_row 0 = .ok (.aload_n 0, 1) := by decide +kernel
theorem dX9_row_1 : decode cX9_row 1 = .ok (.iconst 0, 1) := by decide +kernel
theorem dX9_row_2 : decode cX9_row 2 = .ok (.putfield 68, 3) := by decide +kernel
theorem dX9_row_5 : decode cX9_row 5 = .ok (.iload_n 1, 1) := by decide +kernel
theorem dX9_row_6 : decode cX9_row 6 = .ok (.invokestatic 77, 3) := by decide +kernel
theorem dX9_row_9 : decode cX9_row 9 = .ok (.ifCond .eq 21, 3) := by decide +kernel
theorem dX9_row_12 : decode cX9_row 12 = .ok (.iload_n 2, 1) := by decide +kernel
theorem dX9_row_13 : decode cX9_row 13 = .ok (.i2l, 1) := by decide +kernel
theorem dX9_row_14 : decode cX9_row 14 = .ok (.lconst 0, 1) := by decide +kernel
theorem dX9_row_15 : decode cX9_row 15 = .ok (.ldc2_w 71, 3) := by decide +kernel
theorem dX9_row_18 : decode cX9_row 18 = .ok (.invokestatic 73, 3) := by decide +kernel
theorem dX9_row_21 : decode cX9_row 21 = .ok (.ifCond .eq 9, 3) := by decide +kernel
theorem dX9_row_24 : decode cX9_row 24 = .ok (.iload_n 3, 1) := by decide +kernel
theorem dX9_row_25 : decode cX9_row 25 = .ok (.bipush 60, 2) := by decide +kernel
theorem dX9_row_27 : decode cX9_row 27 = .ok (.if_icmp .le 6, 3) := by decide +kernel
theorem dX9_row_30 : decode cX9_row 30 = .ok (.bipush (-2), 2) := by decide +kernel
theorem dX9_row_32 : decode cX9_row 32 = .ok (.ireturn, 1) := by decide +kernel
theorem dX9_row_33 : decode cX9_row 33 = .ok (.iload_n 3, 1) := by decide +kernel
theorem dX9_row_34 : decode cX9_row 34 = .ok (.ifCond .ge 6, 3) := by decide +kernel
theorem dX9_row_37 : decode cX9_row 37 = .ok (.bipush (-3), 2) := by decide +kernel
theorem dX9_row_39 : decode cX9_row 39 = .ok (.ireturn, 1) := by decide +kernel
theorem dX9_row_40 : decode cX9_row 40 = .ok (.aload_n 0, 1) := by decide +kernel
theorem dX9_row_41 : decode cX9_row 41 = .ok (.getfield 7, 3) := by decide +kernel
theorem dX9_row_44 : decode cX9_row 44 = .ok (.iload_n 1, 1) := by decide +kernel
theorem dX9_row_45 : decode cX9_row 45 = .ok (.iload_n 2, 1) := by decide +kernel
theorem dX9_row_46 : decode cX9_row 46 = .ok (.iastore, 1) := by decide +kernel
theorem dX9_row_47 : decode cX9_row 47 = .ok (.aload_n 0, 1) := by decide +kernel
theorem dX9_row_48 : decode cX9_row 48 = .ok (.getfield 13, 3) := by decide +kernel
theorem dX9_row_51 : decode cX9_row 51 = .ok (.iload_n 1, 1) := by decide +kernel
theorem dX9_row_52 : decode cX9_row 52 = .ok (.iload_n 3, 1) := by decide +kernel
theorem dX9_row_53 : decode cX9_row 53 = .ok (.iastore, 1) := by decide +kernel
theorem dX9_row_54 : decode cX9_row 54 = .ok (.iconst 0, 1) := by decide +kernel
theorem dX9_row_55 : decode cX9_row 55 = .ok (.istore 4, 2) := by decide +kernel
theorem dX9_row_57 : decode cX9_row 57 = .ok (.iload 4, 2) := by decide +kernel
theorem dX9_row_59 : decode cX9_row 59 = .ok (.iload_n 3, 1) := by decide +kernel
theorem dX9_row_60 : decode cX9_row 60 = .ok (.if_icmp .ge 22, 3) := by decide +kernel
theorem dX9_row_63 : decode cX9_row 63 = .ok (.aload_n 0, 1) := by decide +kernel
theorem dX9_row_64 : decode cX9_row 64 = .ok (.getfield 16, 3) := by decide +kernel
theorem dX9_row_67 : decode cX9_row 67 = .ok (.bipush 60, 2) := by decide +kernel
theorem dX9_row_69 : decode cX9_row 69 = .ok (.iload_n 1, 1) := by decide +kernel
theorem dX9_row_70 : decode cX9_row 70 = .ok (.imul, 1) := by decide +kernel
theorem dX9_row_71 : decode cX9_row 71 = .ok (.iload 4, 2) := by decide +kernel
theorem dX9_row_73 : decode cX9_row 73 = .ok (.iadd, 1) := by decide +kernel
theorem dX9_row_74 : decode cX9_row 74 = .ok (.lconst 0, 1) := by decide +kernel
theorem dX9_row_75 : decode cX9_row 75 = .ok (.lastore, 1) := by decide +kernel
theorem dX9_row_76 : decode cX9_row 76 = .ok (.iinc 4 1, 3) := by decide +kernel
theorem dX9_row_79 : decode cX9_row 79 = .ok (.goto (-22), 3) := by decide +kernel
theorem dX9_row_82 : decode cX9_row 82 = .ok (.iconst 0, 1) := by decide +kernel
theorem dX9_row_83 : decode cX9_row 83 = .ok (.ireturn, 1) := by decide +kernel
theorem dX9_share_0 : decode cX9_share 0 = .ok (.aload_n 0, 1) := by decide +kernel
theorem dX9_share_1 : decode cX9_share 1 = .ok (.iconst 0, 1) := by decide +kernel
theorem dX9_share_2 : decode cX9_share 2 = .ok (.putfield 68, 3) := by decide +kernel
theorem dX9_share_5 : decode cX9_share 5 = .ok (.aload_n 0, 1) := by decide +kernel
theorem dX9_share_6 : decode cX9_share 6 = .ok (.iload_n 1, 1) := by decide +kernel
theorem dX9_share_7 : decode cX9_share 7 = .ok (.invokevirtual 216, 3) := by decide +kernel
theorem dX9_share_10 : decode cX9_share 10 = .ok (.ifCond .eq 10, 3) := by decide +kernel
theorem dX9_share_20 : decode cX9_share 20 = .ok (.ldc_w 371, 3) := by decide +kernel
theorem dX9_share_23 : decode cX9_share 23 = .ok (.ireturn, 1) := by decide +kernel
theorem dX9_silent_0 : decode cX9_silent 0 = .ok (.aload_n 0, 1) := by decide +kernel
theorem dX9_silent_1 : decode cX9_silent 1 = .ok (.iconst 0, 1) := by decide +kernel
theorem dX9_silent_2 : decode cX9_silent 2 = .ok (.putfield 68, 3) := by decide +kernel
theorem dX9_silent_5 : decode cX9_silent 5 = .ok (.aload_n 0, 1) := by decide +kernel
theorem dX9_silent_6 : decode cX9_silent 6 = .ok (.iload_n 1, 1) := by decide +kernel
theorem dX9_silent_7 : decode cX9_silent 7 = .ok (.i2l, 1) := by decide +kernel
theorem dX9_silent_8 : decode cX9_silent 8 = .ok (.invokevirtual 289, 3) := by decide +kernel
theorem dX9_silent_11 : decode cX9_silent 11 = .ok (.ifCond .ne 6, 3) := by decide +kernel
theorem dX9_silent_14 : decode cX9_silent 14 = .ok (.bipush (-2), 2) := by decide +kernel
theorem dX9_silent_16 : decode cX9_silent 16 = .ok (.ireturn, 1) := by decide +kernel
theorem dX9_snapped_0 : decode cX9_snapped 0 = .ok (.aload_n 0, 1) := by decide +kernel
theorem dX9_snapped_1 : decode cX9_snapped 1 = .ok (.iconst 0, 1) := by decide +kernel
theorem dX9_snapped_2 : decode cX9_snapped 2 = .ok (.putfield 68, 3) := by decide +kernel
theorem dX9_snapped_5 : decode cX9_snapped 5 = .ok (.aload_n 0, 1) := by decide +kernel
theorem dX9_snapped_6 : decode cX9_snapped 6 = .ok (.iload_n 1, 1) := by decide +kernel
theorem dX9_snapped_7 : decode cX9_snapped 7 = .ok (.invokevirtual 216, 3) := by decide +kernel
theorem dX9_snapped_10 : decode cX9_snapped 10 = .ok (.ifCond .ne 6, 3) := by decide +kernel
theorem dX9_snapped_13 : decode cX9_snapped 13 = .ok (.bipush (-2), 2) := by decide +kernel
theorem dX9_snapped_15 : decode cX9_snapped 15 = .ok (.ireturn, 1) := by decide +kernel
theorem dX9_snaps_0 : decode cX9_snaps 0 = .ok (.aload_n 0, 1) := by decide +kernel
theorem dX9_snaps_1 : decode cX9_snaps 1 = .ok (.iconst 0, 1) := by decide +kernel
theorem dX9_snaps_2 : decode cX9_snaps 2 = .ok (.putfield 68, 3) := by decide +kernel
theorem dX9_snaps_5 : decode cX9_snaps 5 = .ok (.aload_n 0, 1) := by decide +kernel
theorem dX9_snaps_6 : decode cX9_snaps 6 = .ok (.iload_n 1, 1) := by decide +kernel
theorem dX9_snaps_7 : decode cX9_snaps 7 = .ok (.iload_n 2, 1) := by decide +kernel
theorem dX9_snaps_8 : decode cX9_snaps 8 = .ok (.iconst 0, 1) := by decide +kernel
theorem dX9_snaps_9 : decode cX9_snaps 9 = .ok (.invokevirtual 301, 3) := by decide +kernel
theorem dX9_snaps_12 : decode cX9_snaps 12 = .ok (.ifCond .ne 6, 3) := by decide +kernel
theorem dX9_snaps_15 : decode cX9_snaps 15 = .ok (.bipush (-2), 2) := by decide +kernel
theorem dX9_snaps_17 : decode cX9_snaps 17 = .ok (.ireturn, 1) := by decide +kernel
theorem dX9_sore_0 : decode cX9_sore 0 = .ok (.aload_n 0, 1) := by decide +kernel
theorem dX9_sore_1 : decode cX9_sore 1 = .ok (.iconst 0, 1) := by decide +kernel
theorem dX9_sore_2 : decode cX9_sore 2 = .ok (.putfield 68, 3) := by decide +kernel
theorem dX9_sore_5 : decode cX9_sore 5 = .ok (.aload_n 0, 1) := by decide +kernel
theorem dX9_sore_6 : decode cX9_sore 6 = .ok (.iload_n 1, 1) := by decide +kernel
theorem dX9_sore_7 : decode cX9_sore 7 = .ok (.i2l, 1) := by decide +kernel
theorem dX9_sore_8 : decode cX9_sore 8 = .ok (.invokevirtual 289, 3) := by decide +kernel
theorem dX9_sore_11 : decode cX9_sore 11 = .ok (.ifCond .ne 6, 3) := by decide +kernel
theorem dX9_sore_14 : decode cX9_sore 14 = .ok (.bipush (-2), 2) := by decide +kernel
theorem dX9_sore_16 : decode cX9_sore 16 = .ok (.ireturn, 1) := by decide +kernel
theorem dX9_span_0 : decode cX9_span 0 = .ok (.aload_n 0, 1) := by decide +kernel
theorem dX9_span_1 : decode cX9_span 1 = .ok (.iconst 0, 1) := by decide +kernel
theorem dX9_span_2 : decode cX9_span 2 = .ok (.putfield 68, 3) := by decide +kernel
theorem dX9_span_5 : decode cX9_span 5 = .ok (.aload_n 0, 1) := by decide +kernel
theorem dX9_span_6 : decode cX9_span 6 = .ok (.iload_n 1, 1) := by decide +kernel
theorem dX9_span_7 : decode cX9_span 7 = .ok (.invokevirtual 216, 3) := by decide +kernel
theorem dX9_span_10 : decode cX9_span 10 = .ok (.ifCond .eq 28, 3) := by decide +kernel
theorem dX9_span_38 : decode cX9_span 38 = .ok (.bipush (-2), 2) := by decide +kernel
theorem dX9_span_40 : decode cX9_span 40 = .ok (.ireturn, 1) := by decide +kernel
theorem dX9_spans_0 : decode cX9_spans 0 = .ok (.aload_n 0, 1) := by decide +kernel
theorem dX9_spans_1 : decode cX9_spans 1 = .ok (.getfield 34, 3) := by decide +kernel
theorem dX9_spans_4 : decode cX9_spans 4 = .ok (.iconst 4, 1) := by decide +kernel
theorem dX9_spans_5 : decode cX9_spans 5 = .ok (.iaload, 1) := by decide +kernel
theorem dX9_spans_6 : decode cX9_spans 6 = .ok (.ireturn, 1) := by decide +kernel
theorem dX9_spell_0 : decode cX9_spell 0 = .ok (.aload_n 0, 1) := by decide +kernel
theorem dX9_spell_1 : decode cX9_spell 1 = .ok (.iconst 0, 1) := by decide +kernel
theorem dX9_spell_2 : decode cX9_spell 2 = .ok (.putfield 68, 3) := by decide +kernel
theorem dX9_spell_5 : decode cX9_spell 5 = .ok (.aload_n 0, 1) := by decide +kernel
theorem dX9_spell_6 : decode cX9_spell 6 = .ok (.invokevirtual 219, 3) := by decide +kernel
theorem dX9_spell_9 : decode cX9_spell 9 = .ok (.ifCond .eq 11, 3) := by decide +kernel
theorem dX9_spell_20 : decode cX9_spell 20 = .ok (.bipush (-2), 2) := by decide +kernel
theorem dX9_spell_22 : decode cX9_spell 22 = .ok (.ireturn, 1) := by decide +kernel
theorem dX9_spots_0 : decode cX9_spots 0 = .ok (.aload_n 0, 1) := by decide +kernel
theorem dX9_spots_1 : decode cX9_spots 1 = .ok (.iconst 0, 1) := by decide +kernel
theorem dX9_spots_2 : decode cX9_spots 2 = .ok (.putfield 68, 3) := by decide +kernel
theorem dX9_spots_5 : decode cX9_spots 5 = .ok (.aload_n 0, 1) := by decide +kernel
theorem dX9_spots_6 : decode cX9_spots 6 = .ok (.iload_n 1, 1) := by decide +kernel
theorem dX9_spots_7 : decode cX9_spots 7 = .ok (.iconst 1, 1) := by decide +kernel
theorem dX9_spots_8 : decode cX9_spots 8 = .ok (.invokevirtual 358, 3) := by decide +kernel
theorem dX9_spots_11 : decode cX9_spots 11 = .ok (.istore_n 2, 1) := by decide +kernel
theorem dX9_spots_12 : decode cX9_spots 12 = .ok (.iload_n 2, 1) := by decide +kernel
theorem dX9_spots_13 : decode cX9_spots 13 = .ok (.ifCond .eq 5, 3) := by decide +kernel
theorem dX9_spots_16 : decode cX9_spots 16 = .ok (.iload_n 2, 1) := by decide +kernel
theorem dX9_spots_17 : decode cX9_spots 17 = .ok (.ireturn, 1) := by decide +kernel
theorem dX9_stations_0 : decode cX9_stations 0 = .ok (.aload_n 0, 1) := by decide +kernel
theorem dX9_stations_1 : decode cX9_stations 1 = .ok (.iconst 0, 1) := by decide +kernel
theorem dX9_stations_2 : decode cX9_stations 2 = .ok (.putfield 68, 3) := by decide +kernel
theorem dX9_stations_5 : decode cX9_stations 5 = .ok (.aload_n 0, 1) := by decide +kernel
theorem dX9_stations_6 : decode cX9_stations 6 = .ok (.invokevirtual 219, 3) := by decide +kernel
theorem dX9_stations_9 : decode cX9_stations 9 = .ok (.ifCond .eq 10, 3) := by decide +kernel
theorem dX9_stations_19 : decode cX9_stations 19 = .ok (.bipush (-2), 2) := by decide +kernel
theorem dX9_stations_21 : decode cX9_stations 21 = .ok (.ireturn, 1) := by decide +kernel
theorem dX9_steep_0 : decode cX9_steep 0 = .ok (.aload_n 0, 1) := by decide +kernel
theorem dX9_steep_1 : decode cX9_steep 1 = .ok (.iconst 0, 1) := by decide +kernel
theorem dX9_steep_2 : decode cX9_steep 2 = .ok (.putfield 68, 3) := by decide +kernel
theorem dX9_steep_5 : decode cX9_steep 5 = .ok (.aload_n 0, 1) := by decide +kernel
theorem dX9_steep_6 : decode cX9_steep 6 = .ok (.iload_n 1, 1) := by decide +kernel
theorem dX9_steep_7 : decode cX9_steep 7 = .ok (.i2l, 1) := by decide +kernel
theorem dX9_steep_8 : decode cX9_steep 8 = .ok (.invokevirtual 289, 3) := by decide +kernel
theorem dX9_steep_11 : decode cX9_steep 11 = .ok (.ifCond .ne 6, 3) := by decide +kernel
theorem dX9_steep_14 : decode cX9_steep 14 = .ok (.bipush (-2), 2) := by decide +kernel
theorem dX9_steep_16 : decode cX9_steep 16 = .ok (.ireturn, 1) := by decide +kernel
theorem dX9_strong_0 : decode cX9_strong 0 = .ok (.aload_n 0, 1) := by decide +kernel
theorem dX9_strong_1 : decode cX9_strong 1 = .ok (.iconst 0, 1) := by decide +kernel
theorem dX9_strong_2 : decode cX9_strong 2 = .ok (.putfield 68, 3) := by decide +kernel
theorem dX9_strong_5 : decode cX9_strong 5 = .ok (.aload_n 0, 1) := by decide +kernel
theorem dX9_strong_6 : decode cX9_strong 6 = .ok (.invokevirtual 219, 3) := by decide +kernel
theorem dX9_strong_9 : decode cX9_strong 9 = .ok (.ifCond .eq 11, 3) := by decide +kernel
theorem dX9_strong_20 : decode cX9_strong 20 = .ok (.bipush (-2), 2) := by decide +kernel
theorem dX9_strong_22 : decode cX9_strong 22 = .ok (.ireturn, 1) := by decide +kernel
theorem dX9_sum_0 : decode cX9_sum 0 = .ok (.aload_n 0, 1) := by decide +kernel
theorem dX9_sum_1 : decode cX9_sum 1 = .ok (.iconst 0, 1) := by decide +kernel
theorem dX9_sum_2 : decode cX9_sum 2 = .ok (.putfield 68, 3) := by decide +kernel
theorem dX9_sum_5 : decode cX9_sum 5 = .ok (.aload_n 0, 1) := by decide +kernel
theorem dX9_sum_6 : decode cX9_sum 6 = .ok (.invokevirtual 219, 3) := by decide +kernel
theorem dX9_sum_9 : decode cX9_sum 9 = .ok (.ifCond .ne 6, 3) := by decide +kernel
theorem dX9_sum_12 : decode cX9_sum 12 = .ok (.bipush (-2), 2) := by decide +kernel
theorem dX9_sum_14 : decode cX9_sum 14 = .ok (.ireturn, 1) := by decide +kernel
theorem dX9_tells_0 : decode cX9_tells 0 = .ok (.aload_n 0, 1) := by decide +kernel
theorem dX9_tells_1 : decode cX9_tells 1 = .ok (.getfield 34, 3) := by decide +kernel
theorem dX9_tells_4 : decode cX9_tells 4 = .ok (.bipush 28, 2) := by decide +kernel
theorem dX9_tells_6 : decode cX9_tells 6 = .ok (.iload_n 1, 1) := by decide +kernel
theorem dX9_tells_7 : decode cX9_tells 7 = .ok (.iadd, 1) := by decide +kernel
theorem dX9_tells_8 : decode cX9_tells 8 = .ok (.iload_n 2, 1) := by decide +kernel
theorem dX9_tells_9 : decode cX9_tells 9 = .ok (.iastore, 1) := by decide +kernel
theorem dX9_tells_10 : decode cX9_tells 10 = .ok (.return_, 1) := by decide +kernel
theorem dX9_thick_0 : decode cX9_thick 0 = .ok (.aload_n 0, 1) := by decide +kernel
theorem dX9_thick_1 : decode cX9_thick 1 = .ok (.iconst 0, 1) := by decide +kernel
theorem dX9_thick_2 : decode cX9_thick 2 = .ok (.putfield 68, 3) := by decide +kernel
theorem dX9_thick_5 : decode cX9_thick 5 = .ok (.aload_n 0, 1) := by decide +kernel
theorem dX9_thick_6 : decode cX9_thick 6 = .ok (.invokevirtual 219, 3) := by decide +kernel
theorem dX9_thick_9 : decode cX9_thick 9 = .ok (.ifCond .ne 6, 3) := by decide +kernel
theorem dX9_thick_12 : decode cX9_thick 12 = .ok (.bipush (-2), 2) := by decide +kernel
theorem dX9_thick_14 : decode cX9_thick 14 = .ok (.ireturn, 1) := by decide +kernel
theorem dX9_undo_0 : decode cX9_undo 0 = .ok (.aload_n 0, 1) := by decide +kernel
theorem dX9_undo_1 : decode cX9_undo 1 = .ok (.iconst 0, 1) := by decide +kernel
theorem dX9_undo_2 : decode cX9_undo 2 = .ok (.putfield 68, 3) := by decide +kernel
theorem dX9_undo_5 : decode cX9_undo 5 = .ok (.aload_n 0, 1) := by decide +kernel
theorem dX9_undo_6 : decode cX9_undo 6 = .ok (.invokevirtual 219, 3) := by decide +kernel
theorem dX9_undo_9 : decode cX9_undo 9 = .ok (.ifCond .ne 6, 3) := by decide +kernel
theorem dX9_undo_12 : decode cX9_undo 12 = .ok (.bipush (-2), 2) := by decide +kernel
theorem dX9_undo_14 : decode cX9_undo 14 = .ok (.ireturn, 1) := by decide +kernel
theorem dX9_volts_0 : decode cX9_volts 0 = .ok (.aload_n 0, 1) := by decide +kernel
theorem dX9_volts_1 : decode cX9_volts 1 = .ok (.iconst 0, 1) := by decide +kernel
theorem dX9_volts_2 : decode cX9_volts 2 = .ok (.putfield 68, 3) := by decide +kernel
theorem dX9_volts_5 : decode cX9_volts 5 = .ok (.aload_n 0, 1) := by decide +kernel
theorem dX9_volts_6 : decode cX9_volts 6 = .ok (.iload_n 1, 1) := by decide +kernel
theorem dX9_volts_7 : decode cX9_volts 7 = .ok (.iload_n 2, 1) := by decide +kernel
theorem dX9_volts_8 : decode cX9_volts 8 = .ok (.iload_n 3, 1) := by decide +kernel
theorem dX9_volts_9 : decode cX9_volts 9 = .ok (.invokevirtual 301, 3) := by decide +kernel
theorem dX9_volts_12 : decode cX9_volts 12 = .ok (.ifCond .ne 7, 3) := by decide +kernel
theorem dX9_volts_15 : decode cX9_volts 15 = .ok (.ldc2_w 295, 3) := by decide +kernel
theorem dX9_volts_18 : decode cX9_volts 18 = .ok (.lreturn, 1) := by decide +kernel
theorem dX9_weakest_0 : decode cX9_weakest 0 = .ok (.aload_n 0, 1) := by decide +kernel
theorem dX9_weakest_1 : decode cX9_weakest 1 = .ok (.iconst 0, 1) := by decide +kernel
theorem dX9_weakest_2 : decode cX9_weakest 2 = .ok (.putfield 68, 3) := by decide +kernel
theorem dX9_weakest_5 : decode cX9_weakest 5 = .ok (.aload_n 0, 1) := by decide +kernel
theorem dX9_weakest_6 : decode cX9_weakest 6 = .ok (.invokevirtual 219, 3) := by decide +kernel
theorem dX9_weakest_9 : decode cX9_weakest 9 = .ok (.ifCond .eq 11, 3) := by decide +kernel
theorem dX9_weakest_20 : decode cX9_weakest 20 = .ok (.bipush (-2), 2) := by decide +kernel
theorem dX9_weakest_22 : decode cX9_weakest 22 = .ok (.ireturn, 1) := by decide +kernel
theorem dX9_wets_0 : decode cX9_wets 0 = .ok (.aload_n 0, 1) := by decide +kernel
theorem dX9_wets_1 : decode cX9_wets 1 = .ok (.iconst 0, 1) := by decide +kernel
theorem dX9_wets_2 : decode cX9_wets 2 = .ok (.putfield 68, 3) := by decide +kernel
theorem dX9_wets_5 : decode cX9_wets 5 = .ok (.aload_n 0, 1) := by decide +kernel
theorem dX9_wets_6 : decode cX9_wets 6 = .ok (.invokevirtual 219, 3) := by decide +kernel
theorem dX9_wets_9 : decode cX9_wets 9 = .ok (.ifCond .ne 6, 3) := by decide +kernel
theorem dX9_wets_12 : decode cX9_wets 12 = .ok (.bipush (-2), 2) := by decide +kernel
theorem dX9_wets_14 : decode cX9_wets 14 = .ok (.ireturn, 1) := by decide +kernel
theorem dX9_when_0 : decode cX9_when 0 = .ok (.aload_n 0, 1) := by decide +kernel
theorem dX9_when_1 : decode cX9_when 1 = .ok (.iconst 0, 1) := by decide +kernel
theorem dX9_when_2 : decode cX9_when 2 = .ok (.putfield 68, 3) := by decide +kernel
theorem dX9_when_5 : decode cX9_when 5 = .ok (.aload_n 0, 1) := by decide +kernel
theorem dX9_when_6 : decode cX9_when 6 = .ok (.iload_n 1, 1) := by decide +kernel
theorem dX9_when_7 : decode cX9_when 7 = .ok (.invokevirtual 268, 3) := by decide +kernel
theorem dX9_when_10 : decode cX9_when 10 = .ok (.ifCond .ne 6, 3) := by decide +kernel
theorem dX9_when_13 : decode cX9_when 13 = .ok (.bipush (-2), 2) := by decide +kernel
theorem dX9_when_15 : decode cX9_when 15 = .ok (.ireturn, 1) := by decide +kernel
theorem dX9_whole_0 : decode cX9_whole 0 = .ok (.aload_n 0, 1) := by decide +kernel
theorem dX9_whole_1 : decode cX9_whole 1 = .ok (.iconst 0, 1) := by decide +kernel
theorem dX9_whole_2 : decode cX9_whole 2 = .ok (.putfield 68, 3) := by decide +kernel
theorem dX9_whole_5 : decode cX9_whole 5 = .ok (.aload_n 0, 1) := by decide +kernel
theorem dX9_whole_6 : decode cX9_whole 6 = .ok (.iload_n 1, 1) := by decide +kernel
theorem dX9_whole_7 : decode cX9_whole 7 = .ok (.iload_n 2, 1) := by decide +kernel
theorem dX9_whole_8 : decode cX9_whole 8 = .ok (.iconst 0, 1) := by decide +kernel
theorem dX9_whole_9 : decode cX9_whole 9 = .ok (.invokevirtual 301, 3) := by decide +kernel
theorem dX9_whole_12 : decode cX9_whole 12 = .ok (.ifCond .ne 6, 3) := by decide +kernel
theorem dX9_whole_15 : decode cX9_whole 15 = .ok (.bipush (-2), 2) := by decide +kernel
theorem dX9_whole_17 : decode cX9_whole 17 = .ok (.ireturn, 1) := by decide +kernel
theorem dX9_whyNot_0 : decode cX9_whyNot 0 = .ok (.iload_n 1, 1) := by decide +kernel
theorem dX9_whyNot_1 : decode cX9_whyNot 1 = .ok (.invokestatic 77, 3) := by decide +kernel
theorem dX9_whyNot_4 : decode cX9_whyNot 4 = .ok (.ifCond .eq 14, 3) := by decide +kernel
theorem dX9_whyNot_7 : decode cX9_whyNot 7 = .ok (.aload_n 0, 1) := by decide +kernel
theorem dX9_whyNot_8 : decode cX9_whyNot 8 = .ok (.invokevirtual 219, 3) := by decide +kernel
theorem dX9_whyNot_11 : decode cX9_whyNot 11 = .ok (.ifCond .eq 7, 3) := by decide +kernel
theorem dX9_whyNot_18 : decode cX9_whyNot 18 = .ok (.bipush (-2), 2) := by decide +kernel
theorem dX9_whyNot_20 : decode cX9_whyNot 20 = .ok (.ireturn, 1) := by decide +kernel
theorem dX9_wire_0 : decode cX9_wire 0 = .ok (.aload_n 0, 1) := by decide +kernel
theorem dX9_wire_1 : decode cX9_wire 1 = .ok (.iconst 0, 1) := by decide +kernel
theorem dX9_wire_2 : decode cX9_wire 2 = .ok (.putfield 68, 3) := by decide +kernel
theorem dX9_wire_5 : decode cX9_wire 5 = .ok (.aload_n 0, 1) := by decide +kernel
theorem dX9_wire_6 : decode cX9_wire 6 = .ok (.invokevirtual 176, 3) := by decide +kernel
theorem dX9_wire_9 : decode cX9_wire 9 = .ok (.aload_n 0, 1) := by decide +kernel
theorem dX9_wire_10 : decode cX9_wire 10 = .ok (.invokevirtual 179, 3) := by decide +kernel
theorem dX9_wire_13 : decode cX9_wire 13 = .ok (.aload_n 0, 1) := by decide +kernel
theorem dX9_wire_14 : decode cX9_wire 14 = .ok (.invokevirtual 182, 3) := by decide +kernel
theorem dX9_wire_17 : decode cX9_wire 17 = .ok (.ifCond .eq 116, 3) := by decide +kernel
theorem dX9_wire_20 : decode cX9_wire 20 = .ok (.aload_n 0, 1) := by decide +kernel
theorem dX9_wire_21 : decode cX9_wire 21 = .ok (.getfield 109, 3) := by decide +kernel
theorem dX9_wire_24 : decode cX9_wire 24 = .ok (.ifCond .eq 109, 3) := by decide +kernel
theorem dX9_wire_133 : decode cX9_wire 133 = .ok (.aload_n 0, 1) := by decide +kernel
theorem dX9_wire_134 : decode cX9_wire 134 = .ok (.invokevirtual 202, 3) := by decide +kernel
theorem dX9_wire_137 : decode cX9_wire 137 = .ok (.aload_n 0, 1) := by decide +kernel
theorem dX9_wire_138 : decode cX9_wire 138 = .ok (.getfield 120, 3) := by decide +kernel
theorem dX9_wire_141 : decode cX9_wire 141 = .ok (.ifCond .eq 6, 3) := by decide +kernel
theorem dX9_wire_147 : decode cX9_wire 147 = .ok (.aload_n 0, 1) := by decide +kernel
theorem dX9_wire_148 : decode cX9_wire 148 = .ok (.iconst 4, 1) := by decide +kernel
theorem dX9_wire_149 : decode cX9_wire 149 = .ok (.iconst 0, 1) := by decide +kernel
theorem dX9_wire_150 : decode cX9_wire 150 = .ok (.invokevirtual 205, 3) := by decide +kernel
theorem dX9_wire_153 : decode cX9_wire 153 = .ok (.aload_n 0, 1) := by decide +kernel
theorem dX9_wire_154 : decode cX9_wire 154 = .ok (.getfield 31, 3) := by decide +kernel
theorem dX9_wire_157 : decode cX9_wire 157 = .ok (.iconst 0, 1) := by decide +kernel
theorem dX9_wire_158 : decode cX9_wire 158 = .ok (.iaload, 1) := by decide +kernel
theorem dX9_wire_159 : decode cX9_wire 159 = .ok (.ireturn, 1) := by decide +kernel
theorem dX9_without_0 : decode cX9_without 0 = .ok (.aload_n 0, 1) := by decide +kernel
theorem dX9_without_1 : decode cX9_without 1 = .ok (.iconst 0, 1) := by decide +kernel
theorem dX9_without_2 : decode cX9_without 2 = .ok (.putfield 68, 3) := by decide +kernel
theorem dX9_without_5 : decode cX9_without 5 = .ok (.aload_n 0, 1) := by decide +kernel
theorem dX9_without_6 : decode cX9_without 6 = .ok (.iload_n 1, 1) := by decide +kernel
theorem dX9_without_7 : decode cX9_without 7 = .ok (.invokevirtual 216, 3) := by decide +kernel
theorem dX9_without_10 : decode cX9_without 10 = .ok (.ifCond .ne 6, 3) := by decide +kernel
theorem dX9_without_13 : decode cX9_without 13 = .ok (.bipush (-2), 2) := by decide +kernel
theorem dX9_without_15 : decode cX9_without 15 = .ok (.ireturn, 1) := by decide +kernel
theorem dX9_worst_0 : decode cX9_worst 0 = .ok (.aload_n 0, 1) := by decide +kernel
theorem dX9_worst_1 : decode cX9_worst 1 = .ok (.iconst 0, 1) := by decide +kernel
theorem dX9_worst_2 : decode cX9_worst 2 = .ok (.putfield 68, 3) := by decide +kernel
theorem dX9_worst_5 : decode cX9_worst 5 = .ok (.aload_n 0, 1) := by decide +kernel
theorem dX9_worst_6 : decode cX9_worst 6 = .ok (.iload_n 1, 1) := by decide +kernel
theorem dX9_worst_7 : decode cX9_worst 7 = .ok (.i2l, 1) := by decide +kernel
theorem dX9_worst_8 : decode cX9_worst 8 = .ok (.invokevirtual 289, 3) := by decide +kernel
theorem dX9_worst_11 : decode cX9_worst 11 = .ok (.ifCond .ne 6, 3) := by decide +kernel
theorem dX9_worst_14 : decode cX9_worst 14 = .ok (.bipush (-2), 2) := by decide +kernel
theorem dX9_worst_16 : decode cX9_worst 16 = .ok (.ireturn, 1) := by decide +kernel
theorem dX9_worth_0 : decode cX9_worth 0 = .ok (.aload_n 0, 1) := by decide +kernel
theorem dX9_worth_1 : decode cX9_worth 1 = .ok (.iconst 0, 1) := by decide +kernel
theorem dX9_worth_2 : decode cX9_worth 2 = .ok (.putfield 68, 3) := by decide +kernel
theorem dX9_worth_5 : decode cX9_worth 5 = .ok (.aload_n 0, 1) := by decide +kernel
theorem dX9_worth_6 : decode cX9_worth 6 = .ok (.invokevirtual 219, 3) := by decide +kernel
theorem dX9_worth_9 : decode cX9_worth 9 = .ok (.ifCond .eq 29, 3) := by decide +kernel
theorem dX9_worth_38 : decode cX9_worth 38 = .ok (.bipush (-2), 2) := by decide +kernel
theorem dX9_worth_40 : decode cX9_worth 40 = .ok (.ireturn, 1) := by decide +kernel
theorem dX9_write_0 : decode cX9_write 0 = .ok (.aload_n 0, 1) := by decide +kernel
theorem dX9_write_1 : decode cX9_write 1 = .ok (.iconst 0, 1) := by decide +kernel
theorem dX9_write_2 : decode cX9_write 2 = .ok (.putfield 68, 3) := by decide +kernel
theorem dX9_write_5 : decode cX9_write 5 = .ok (.iload_n 1, 1) := by decide +kernel
theorem dX9_write_6 : decode cX9_write 6 = .ok (.invokestatic 77, 3) := by decide +kernel
theorem dX9_write_9 : decode cX9_write 9 = .ok (.ifCond .ne 6, 3) := by decide +kernel
theorem dX9_write_12 : decode cX9_write 12 = .ok (.bipush (-2), 2) := by decide +kernel
theorem dX9_write_14 : decode cX9_write 14 = .ok (.ireturn, 1) := by decide +kernel
theorem dX9_write_15 : decode cX9_write 15 = .ok (.aload_n 0, 1) := by decide +kernel
theorem dX9_write_16 : decode cX9_write 16 = .ok (.getfield 7, 3) := by decide +kernel
theorem dX9_write_19 : decode cX9_write 19 = .ok (.iload_n 1, 1) := by decide +kernel
theorem dX9_write_20 : decode cX9_write 20 = .ok (.iaload, 1) := by decide +kernel
theorem dX9_write_21 : decode cX9_write 21 = .ok (.iconst (-1), 1) := by decide +kernel
theorem dX9_write_22 : decode cX9_write 22 = .ok (.if_icmp .ne 6, 3) := by decide +kernel
theorem dX9_write_25 : decode cX9_write 25 = .ok (.bipush (-6), 2) := by decide +kernel
theorem dX9_write_27 : decode cX9_write 27 = .ok (.ireturn, 1) := by decide +kernel

