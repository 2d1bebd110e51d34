theorem dX8_row_43 : decode cX8_row 43 = .ok (.ireturn, 1) := by decide +kernel
theorem dX8_share_0 : decode cX8_share 0 = .ok (.aload_n 0, 1) := by decide +kernel
theorem dX8_share_1 : decode cX8_share 1 = .ok (.iload_n 1, 1) := by decide +kernel
theorem dX8_share_2 : decode cX8_share 2 = .ok (.invokevirtual 121, 3) := by decide +kernel
theorem dX8_share_5 : decode cX8_share 5 = .ok (.ifCond .eq 10, 3) := by decide +kernel
theorem dX8_share_15 : decode cX8_share 15 = .ok (.ldc_w 314, 3) := by decide +kernel
theorem dX8_share_18 : decode cX8_share 18 = .ok (.ireturn, 1) := by decide +kernel
theorem dX8_silent_0 : decode cX8_silent 0 = .ok (.aload_n 0, 1) := by decide +kernel
theorem dX8_silent_1 : decode cX8_silent 1 = .ok (.iload_n 1, 1) := by decide +kernel
theorem dX8_silent_2 : decode cX8_silent 2 = .ok (.invokevirtual 145, 3) := by decide +kernel
theorem dX8_silent_5 : decode cX8_silent 5 = .ok (.ifCond .ne 6, 3) := by decide +kernel
theorem dX8_silent_8 : decode cX8_silent 8 = .ok (.bipush (-2), 2) := by decide +kernel
theorem dX8_silent_10 : decode cX8_silent 10 = .ok (.ireturn, 1) := by decide +kernel
theorem dX8_snapped_0 : decode cX8_snapped 0 = .ok (.aload_n 0, 1) := by decide +kernel
theorem dX8_snapped_1 : decode cX8_snapped 1 = .ok (.iload_n 1, 1) := by decide +kernel
theorem dX8_snapped_2 : decode cX8_snapped 2 = .ok (.invokevirtual 121, 3) := by decide +kernel
theorem dX8_snapped_5 : decode cX8_snapped 5 = .ok (.ifCond .eq 14, 3) := by decide +kernel
theorem dX8_snapped_19 : decode cX8_snapped 19 = .ok (.bipush (-2), 2) := by decide +kernel
theorem dX8_snapped_21 : decode cX8_snapped 21 = .ok (.ireturn, 1) := by decide +kernel
theorem dX8_snaps_0 : decode cX8_snaps 0 = .ok (.aload_n 0, 1) := by decide +kernel
theorem dX8_snaps_1 : decode cX8_snaps 1 = .ok (.iload_n 1, 1) := by decide +kernel
theorem dX8_snaps_2 : decode cX8_snaps 2 = .ok (.invokevirtual 121, 3) := by decide +kernel
theorem dX8_snaps_5 : decode cX8_snaps 5 = .ok (.ifCond .eq 11, 3) := by decide +kernel
theorem dX8_snaps_16 : decode cX8_snaps 16 = .ok (.bipush (-2), 2) := by decide +kernel
theorem dX8_snaps_18 : decode cX8_snaps 18 = .ok (.ireturn, 1) := by decide +kernel
theorem dX8_sore_0 : decode cX8_sore 0 = .ok (.aload_n 0, 1) := by decide +kernel
theorem dX8_sore_1 : decode cX8_sore 1 = .ok (.iload_n 1, 1) := by decide +kernel
theorem dX8_sore_2 : decode cX8_sore 2 = .ok (.invokevirtual 145, 3) := by decide +kernel
theorem dX8_sore_5 : decode cX8_sore 5 = .ok (.ifCond .ne 6, 3) := by decide +kernel
theorem dX8_sore_8 : decode cX8_sore 8 = .ok (.bipush (-2), 2) := by decide +kernel
theorem dX8_sore_10 : decode cX8_sore 10 = .ok (.ireturn, 1) := by decide +kernel
theorem dX8_span_0 : decode cX8_span 0 = .ok (.aload_n 0, 1) := by decide +kernel
theorem dX8_span_1 : decode cX8_span 1 = .ok (.iload_n 1, 1) := by decide +kernel
theorem dX8_span_2 : decode cX8_span 2 = .ok (.invokevirtual 121, 3) := by decide +kernel
theorem dX8_span_5 : decode cX8_span 5 = .ok (.ifCond .ne 6, 3) := by decide +kernel
theorem dX8_span_8 : decode cX8_span 8 = .ok (.bipush (-2), 2) := by decide +kernel
theorem dX8_span_10 : decode cX8_span 10 = .ok (.ireturn, 1) := by decide +kernel
theorem dX8_spell_0 : decode cX8_spell 0 = .ok (.aload_n 0, 1) := by decide +kernel
theorem dX8_spell_1 : decode cX8_spell 1 = .ok (.invokevirtual 134, 3) := by decide +kernel
theorem dX8_spell_4 : decode cX8_spell 4 = .ok (.ifCond .eq 16, 3) := by decide +kernel
theorem dX8_spell_20 : decode cX8_spell 20 = .ok (.bipush (-2), 2) := by decide +kernel
theorem dX8_spell_22 : decode cX8_spell 22 = .ok (.ireturn, 1) := by decide +kernel
theorem dX8_spots_0 : decode cX8_spots 0 = .ok (.aload_n 0, 1) := by decide +kernel
theorem dX8_spots_1 : decode cX8_spots 1 = .ok (.iload_n 1, 1) := by decide +kernel
theorem dX8_spots_2 : decode cX8_spots 2 = .ok (.invokevirtual 302, 3) := by decide +kernel
theorem dX8_spots_5 : decode cX8_spots 5 = .ok (.istore_n 2, 1) := by decide +kernel
theorem dX8_spots_6 : decode cX8_spots 6 = .ok (.iload_n 2, 1) := by decide +kernel
theorem dX8_spots_7 : decode cX8_spots 7 = .ok (.ifCond .eq 5, 3) := by decide +kernel
theorem dX8_spots_10 : decode cX8_spots 10 = .ok (.iload_n 2, 1) := by decide +kernel
theorem dX8_spots_11 : decode cX8_spots 11 = .ok (.ireturn, 1) := by decide +kernel
theorem dX8_stations_0 : decode cX8_stations 0 = .ok (.aload_n 0, 1) := by decide +kernel
theorem dX8_stations_1 : decode cX8_stations 1 = .ok (.invokevirtual 134, 3) := by decide +kernel
theorem dX8_stations_4 : decode cX8_stations 4 = .ok (.ifCond .eq 13, 3) := by decide +kernel
theorem dX8_stations_17 : decode cX8_stations 17 = .ok (.bipush (-2), 2) := by decide +kernel
theorem dX8_stations_19 : decode cX8_stations 19 = .ok (.ireturn, 1) := by decide +kernel
theorem dX8_steep_0 : decode cX8_steep 0 = .ok (.aload_n 0, 1) := by decide +kernel
theorem dX8_steep_1 : decode cX8_steep 1 = .ok (.iload_n 1, 1) := by decide +kernel
theorem dX8_steep_2 : decode cX8_steep 2 = .ok (.invokevirtual 145, 3) := by decide +kernel
theorem dX8_steep_5 : decode cX8_steep 5 = .ok (.ifCond .ne 6, 3) := by decide +kernel
theorem dX8_steep_8 : decode cX8_steep 8 = .ok (.bipush (-2), 2) := by decide +kernel
theorem dX8_steep_10 : decode cX8_steep 10 = .ok (.ireturn, 1) := by decide +kernel
theorem dX8_strong_0 : decode cX8_strong 0 = .ok (.aload_n 0, 1) := by decide +kernel
theorem dX8_strong_1 : decode cX8_strong 1 = .ok (.invokevirtual 134, 3) := by decide +kernel
theorem dX8_strong_4 : decode cX8_strong 4 = .ok (.ifCond .eq 11, 3) := by decide +kernel
theorem dX8_strong_15 : decode cX8_strong 15 = .ok (.bipush (-2), 2) := by decide +kernel
theorem dX8_strong_17 : decode cX8_strong 17 = .ok (.ireturn, 1) := by decide +kernel
theorem dX8_sum_0 : decode cX8_sum 0 = .ok (.aload_n 0, 1) := by decide +kernel
theorem dX8_sum_1 : decode cX8_sum 1 = .ok (.invokevirtual 134, 3) := by decide +kernel
theorem dX8_sum_4 : decode cX8_sum 4 = .ok (.ifCond .ne 6, 3) := by decide +kernel
theorem dX8_sum_7 : decode cX8_sum 7 = .ok (.bipush (-2), 2) := by decide +kernel
theorem dX8_sum_9 : decode cX8_sum 9 = .ok (.ireturn, 1) := by decide +kernel
theorem dX8_thick_0 : decode cX8_thick 0 = .ok (.aload_n 0, 1) := by decide +kernel
theorem dX8_thick_1 : decode cX8_thick 1 = .ok (.invokevirtual 134, 3) := by decide +kernel
theorem dX8_thick_4 : decode cX8_thick 4 = .ok (.ifCond .ne 6, 3) := by decide +kernel
theorem dX8_thick_7 : decode cX8_thick 7 = .ok (.bipush (-2), 2) := by decide +kernel
theorem dX8_thick_9 : decode cX8_thick 9 = .ok (.ireturn, 1) := by decide +kernel
theorem dX8_undo_0 : decode cX8_undo 0 = .ok (.aload_n 0, 1) := by decide +kernel
theorem dX8_undo_1 : decode cX8_undo 1 = .ok (.invokevirtual 134, 3) := by decide +kernel
theorem dX8_undo_4 : decode cX8_undo 4 = .ok (.ifCond .ne 6, 3) := by decide +kernel
theorem dX8_undo_7 : decode cX8_undo 7 = .ok (.bipush (-2), 2) := by decide +kernel
theorem dX8_undo_9 : decode cX8_undo 9 = .ok (.ireturn, 1) := by decide +kernel
theorem dX8_volts_0 : decode cX8_volts 0 = .ok (.aload_n 0, 1) := by decide +kernel
theorem dX8_volts_1 : decode cX8_volts 1 = .ok (.iload_n 1, 1) := by decide +kernel
theorem dX8_volts_2 : decode cX8_volts 2 = .ok (.invokevirtual 121, 3) := by decide +kernel
theorem dX8_volts_5 : decode cX8_volts 5 = .ok (.ifCond .eq 18, 3) := by decide +kernel
theorem dX8_volts_23 : decode cX8_volts 23 = .ok (.ldc2_w 162, 3) := by decide +kernel
theorem dX8_volts_26 : decode cX8_volts 26 = .ok (.lreturn, 1) := by decide +kernel
theorem dX8_weakest_0 : decode cX8_weakest 0 = .ok (.aload_n 0, 1) := by decide +kernel
theorem dX8_weakest_1 : decode cX8_weakest 1 = .ok (.invokevirtual 134, 3) := by decide +kernel
theorem dX8_weakest_4 : decode cX8_weakest 4 = .ok (.ifCond .eq 11, 3) := by decide +kernel
theorem dX8_weakest_15 : decode cX8_weakest 15 = .ok (.bipush (-2), 2) := by decide +kernel
theorem dX8_weakest_17 : decode cX8_weakest 17 = .ok (.ireturn, 1) := by decide +kernel
theorem dX8_wets_0 : decode cX8_wets 0 = .ok (.aload_n 0, 1) := by decide +kernel
theorem dX8_wets_1 : decode cX8_wets 1 = .ok (.invokevirtual 134, 3) := by decide +kernel
theorem dX8_wets_4 : decode cX8_wets 4 = .ok (.ifCond .eq 13, 3) := by decide +kernel
theorem dX8_wets_17 : decode cX8_wets 17 = .ok (.bipush (-2), 2) := by decide +kernel
theorem dX8_wets_19 : decode cX8_wets 19 = .ok (.ireturn, 1) := by decide +kernel
theorem dX8_when_0 : decode cX8_when 0 = .ok (.aload_n 0, 1) := by decide +kernel
theorem dX8_when_1 : decode cX8_when 1 = .ok (.iload_n 1, 1) := by decide +kernel
theorem dX8_when_2 : decode cX8_when 2 = .ok (.invokevirtual 213, 3) := by decide +kernel
theorem dX8_when_5 : decode cX8_when 5 = .ok (.ifCond .ne 6, 3) := by decide +kernel
theorem dX8_when_8 : decode cX8_when 8 = .ok (.bipush (-2), 2) := by decide +kernel
theorem dX8_when_10 : decode cX8_when 10 = .ok (.ireturn, 1) := by decide +kernel
theorem dX8_whole_0 : decode cX8_whole 0 = .ok (.aload_n 0, 1) := by decide +kernel
theorem dX8_whole_1 : decode cX8_whole 1 = .ok (.iload_n 1, 1) := by decide +kernel
theorem dX8_whole_2 : decode cX8_whole 2 = .ok (.invokevirtual 121, 3) := by decide +kernel
theorem dX8_whole_5 : decode cX8_whole 5 = .ok (.ifCond .eq 11, 3) := by decide +kernel
theorem dX8_whole_16 : decode cX8_whole 16 = .ok (.bipush (-2), 2) := by decide +kernel
theorem dX8_whole_18 : decode cX8_whole 18 = .ok (.ireturn, 1) := by decide +kernel
theorem dX8_wire_0 : decode cX8_wire 0 = .ok (.aload_n 0, 1) := by decide +kernel
theorem dX8_wire_1 : decode cX8_wire 1 = .ok (.getfield 19, 3) := by decide +kernel
theorem dX8_wire_4 : decode cX8_wire 4 = .ok (.aload_n 0, 1) := by decide +kernel
theorem dX8_wire_5 : decode cX8_wire 5 = .ok (.getfield 10, 3) := by decide +kernel
theorem dX8_wire_8 : decode cX8_wire 8 = .ok (.invokevirtual 100, 3) := by decide +kernel
theorem dX8_wire_11 : decode cX8_wire 11 = .ok (.aload_n 0, 1) := by decide +kernel
theorem dX8_wire_12 : decode cX8_wire 12 = .ok (.getfield 26, 3) := by decide +kernel
theorem dX8_wire_15 : decode cX8_wire 15 = .ok (.aload_n 0, 1) := by decide +kernel
theorem dX8_wire_16 : decode cX8_wire 16 = .ok (.getfield 19, 3) := by decide +kernel
theorem dX8_wire_19 : decode cX8_wire 19 = .ok (.aload_n 0, 1) := by decide +kernel
theorem dX8_wire_20 : decode cX8_wire 20 = .ok (.getfield 37, 3) := by decide +kernel
theorem dX8_wire_23 : decode cX8_wire 23 = .ok (.invokevirtual 104, 3) := by decide +kernel
theorem dX8_wire_26 : decode cX8_wire 26 = .ok (.aload_n 0, 1) := by decide +kernel
theorem dX8_wire_27 : decode cX8_wire 27 = .ok (.aload_n 0, 1) := by decide +kernel
theorem dX8_wire_28 : decode cX8_wire 28 = .ok (.getfield 26, 3) := by decide +kernel
theorem dX8_wire_31 : decode cX8_wire 31 = .ok (.getfield 108, 3) := by decide +kernel
theorem dX8_wire_34 : decode cX8_wire 34 = .ok (.putfield 86, 3) := by decide +kernel
theorem dX8_wire_37 : decode cX8_wire 37 = .ok (.aload_n 0, 1) := by decide +kernel
theorem dX8_wire_38 : decode cX8_wire 38 = .ok (.aload_n 0, 1) := by decide +kernel
theorem dX8_wire_39 : decode cX8_wire 39 = .ok (.getfield 86, 3) := by decide +kernel
theorem dX8_wire_42 : decode cX8_wire 42 = .ok (.ifCond .ne 7, 3) := by decide +kernel
theorem dX8_wire_45 : decode cX8_wire 45 = .ok (.iconst (-1), 1) := by decide +kernel
theorem dX8_wire_46 : decode cX8_wire 46 = .ok (.goto 10, 3) := by decide +kernel
theorem dX8_wire_56 : decode cX8_wire 56 = .ok (.putfield 90, 3) := by decide +kernel
theorem dX8_wire_59 : decode cX8_wire 59 = .ok (.aload_n 0, 1) := by decide +kernel
theorem dX8_wire_60 : decode cX8_wire 60 = .ok (.getfield 86, 3) := by decide +kernel
theorem dX8_wire_63 : decode cX8_wire 63 = .ok (.ifCond .eq 6, 3) := by decide +kernel
theorem dX8_wire_69 : decode cX8_wire 69 = .ok (.aload_n 0, 1) := by decide +kernel
theorem dX8_wire_70 : decode cX8_wire 70 = .ok (.getfield 10, 3) := by decide +kernel
theorem dX8_wire_73 : decode cX8_wire 73 = .ok (.iconst 0, 1) := by decide +kernel
theorem dX8_wire_74 : decode cX8_wire 74 = .ok (.putfield 93, 3) := by decide +kernel
theorem dX8_wire_77 : decode cX8_wire 77 = .ok (.aload_n 0, 1) := by decide +kernel
theorem dX8_wire_78 : decode cX8_wire 78 = .ok (.getfield 33, 3) := by decide +kernel
theorem dX8_wire_81 : decode cX8_wire 81 = .ok (.aload_n 0, 1) := by decide +kernel
theorem dX8_wire_82 : decode cX8_wire 82 = .ok (.getfield 37, 3) := by decide +kernel
theorem dX8_wire_85 : decode cX8_wire 85 = .ok (.invokevirtual 114, 3) := by decide +kernel
theorem dX8_wire_88 : decode cX8_wire 88 = .ok (.aload_n 0, 1) := by decide +kernel
theorem dX8_wire_89 : decode cX8_wire 89 = .ok (.getfield 33, 3) := by decide +kernel
theorem dX8_wire_92 : decode cX8_wire 92 = .ok (.getfield 118, 3) := by decide +kernel
theorem dX8_wire_95 : decode cX8_wire 95 = .ok (.ireturn, 1) := by decide +kernel
theorem dX8_without_0 : decode cX8_without 0 = .ok (.aload_n 0, 1) := by decide +kernel
theorem dX8_without_1 : decode cX8_without 1 = .ok (.iload_n 1, 1) := by decide +kernel
theorem dX8_without_2 : decode cX8_without 2 = .ok (.invokevirtual 121, 3) := by decide +kernel
theorem dX8_without_5 : decode cX8_without 5 = .ok (.ifCond .ne 6, 3) := by decide +kernel
theorem dX8_without_8 : decode cX8_without 8 = .ok (.bipush (-2), 2) := by decide +kernel
theorem dX8_without_10 : decode cX8_without 10 = .ok (.ireturn, 1) := by decide +kernel
theorem dX8_worst_0 : decode cX8_worst 0 = .ok (.aload_n 0, 1) := by decide +kernel
theorem dX8_worst_1 : decode cX8_worst 1 = .ok (.iload_n 1, 1) := by decide +kernel
theorem dX8_worst_2 : decode cX8_worst 2 = .ok (.invokevirtual 145, 3) := by decide +kernel
theorem dX8_worst_5 : decode cX8_worst 5 = .ok (.ifCond .ne 6, 3) := by decide +kernel
theorem dX8_worst_8 : decode cX8_worst 8 = .ok (.bipush (-2), 2) := by decide +kernel
theorem dX8_worst_10 : decode cX8_worst 10 = .ok (.ireturn, 1) := by decide +kernel
theorem dX8_worth_0 : decode cX8_worth 0 = .ok (.aload_n 0, 1) := by decide +kernel
theorem dX8_worth_1 : decode cX8_worth 1 = .ok (.invokevirtual 134, 3) := by decide +kernel
theorem dX8_worth_4 : decode cX8_worth 4 = .ok (.ifCond .eq 15, 3) := by decide +kernel
theorem dX8_worth_19 : decode cX8_worth 19 = .ok (.bipush (-2), 2) := by decide +kernel
theorem dX8_worth_21 : decode cX8_worth 21 = .ok (.ireturn, 1) := by decide +kernel
theorem dX8_write_0 : decode cX8_write 0 = .ok (.iload_n 1, 1) := by decide +kernel
theorem dX8_write_1 : decode cX8_write 1 = .ok (.invokestatic 364, 3) := by decide +kernel
theorem dX8_write_4 : decode cX8_write 4 = .ok (.ifCond .ne 6, 3) := by decide +kernel
theorem dX8_write_7 : decode cX8_write 7 = .ok (.bipush (-2), 2) := by decide +kernel
theorem dX8_write_9 : decode cX8_write 9 = .ok (.ireturn, 1) := by decide +kernel
theorem dX8_write_10 : decode cX8_write 10 = .ok (.aload_n 0, 1) := by decide +kernel
theorem dX8_write_11 : decode cX8_write 11 = .ok (.getfield 47, 3) := by decide +kernel
theorem dX8_write_14 : decode cX8_write 14 = .ok (.iload_n 1, 1) := by decide +kernel
theorem dX8_write_15 : decode cX8_write 15 = .ok (.invokevirtual 370, 3) := by decide +kernel
theorem dX8_write_18 : decode cX8_write 18 = .ok (.ifCond .ne 6, 3) := by decide +kernel
theorem dX8_write_21 : decode cX8_write 21 = .ok (.bipush (-6), 2) := by decide +kernel
theorem dX8_write_23 : decode cX8_write 23 = .ok (.ireturn, 1) := by decide +kernel
theorem dX9_all_0 : decode cX9_all 0 = .ok (.aload_n 0, 1) := by decide +kernel
theorem dX9_all_1 : decode cX9_all 1 = .ok (.iconst 0, 1) := by decide +kernel
theorem dX9_all_2 : decode cX9_all 2 = .ok (.putfield 68, 3) := by decide +kernel
theorem dX9_all_5 : decode cX9_all 5 = .ok (.aload_n 0, 1) := by decide +kernel
theorem dX9_all_6 : decode cX9_all 6 = .ok (.invokevirtual 219, 3) := by decide +kernel
theorem dX9_all_9 : decode cX9_all 9 = .ok (.ifCond .eq 18, 3) := by decide +kernel
theorem dX9_all_27 : decode cX9_all 27 = .ok (.bipush (-2), 2) := by decide +kernel
theorem dX9_all_29 : decode cX9_all 29 = .ok (.ireturn, 1) := by decide +kernel
theorem dX9_amps_0 : decode cX9_amps 0 = .ok (.aload_n 0, 1) := by decide +kernel
theorem dX9_amps_1 : decode cX9_amps 1 = .ok (.iconst 0, 1) := by decide +kernel
theorem dX9_amps_2 : decode cX9_amps 2 = .ok (.putfield 68, 3) := by decide +kernel
theorem dX9_amps_5 : decode cX9_amps 5 = .ok (.aload_n 0, 1) := by decide +kernel
theorem dX9_amps_6 : decode cX9_amps 6 = .ok (.iload_n 1, 1) := by decide +kernel
theorem dX9_amps_7 : decode cX9_amps 7 = .ok (.i2l, 1) := by decide +kernel
theorem dX9_amps_8 : decode cX9_amps 8 = .ok (.invokevirtual 289, 3) := by decide +kernel
theorem dX9_amps_11 : decode cX9_amps 11 = .ok (.ifCond .eq 10, 3) := by decide +kernel
theorem dX9_amps_21 : decode cX9_amps 21 = .ok (.ldc2_w 295, 3) := by decide +kernel
theorem dX9_amps_24 : decode cX9_amps 24 = .ok (.lreturn, 1) := by decide +kernel
theorem dX9_anew_0 : decode cX9_anew 0 = .ok (.aload_n 0, 1) := by decide +kernel
theorem dX9_anew_1 : decode cX9_anew 1 = .ok (.iconst 0, 1) := by decide +kernel
theorem dX9_anew_2 : decode cX9_anew 2 = .ok (.putfield 68, 3) := by decide +kernel
theorem dX9_anew_5 : decode cX9_anew 5 = .ok (.aload_n 0, 1) := by decide +kernel
theorem dX9_anew_6 : decode cX9_anew 6 = .ok (.invokevirtual 219, 3) := by decide +kernel
theorem dX9_anew_9 : decode cX9_anew 9 = .ok (.ifCond .ne 6, 3) := by decide +kernel
theorem dX9_anew_12 : decode cX9_anew 12 = .ok (.bipush (-2), 2) := by decide +kernel
theorem dX9_anew_14 : decode cX9_anew 14 = .ok (.ireturn, 1) := by decide +kernel
theorem dX9_apart_0 : decode cX9_apart 0 = .ok (.aload_n 0, 1) := by decide +kernel
theorem dX9_apart_1 : decode cX9_apart 1 = .ok (.iconst 0, 1) := by decide +kernel
theorem dX9_apart_2 : decode cX9_apart 2 = .ok (.putfield 68, 3) := by decide +kernel
theorem dX9_apart_5 : decode cX9_apart 5 = .ok (.aload_n 0, 1) := by decide +kernel
theorem dX9_apart_6 : decode cX9_apart 6 = .ok (.iload_n 1, 1) := by decide +kernel
theorem dX9_apart_7 : decode cX9_apart 7 = .ok (.invokevirtual 268, 3) := by decide +kernel
theorem dX9_apart_10 : decode cX9_apart 10 = .ok (.ifCond .eq 21, 3) := by decide +kernel
theorem dX9_apart_31 : decode cX9_apart 31 = .ok (.bipush (-2), 2) := by decide +kernel
theorem dX9_apart_33 : decode cX9_apart 33 = .ok (.ireturn, 1) := by decide +kernel
theorem dX9_areTwo_0 : decode cX9_areTwo 0 = .ok (.aload_n 0, 1) := by decide +kernel
theorem dX9_areTwo_1 : decode cX9_areTwo 1 = .ok (.iload_n 1, 1) := by decide +kernel
theorem dX9_areTwo_2 : decode cX9_areTwo 2 = .ok (.invokevirtual 216, 3) := by decide +kernel
theorem dX9_areTwo_5 : decode cX9_areTwo 5 = .ok (.ifCond .eq 20, 3) := by decide +kernel
theorem dX9_areTwo_25 : decode cX9_areTwo 25 = .ok (.iconst 0, 1) := by decide +kernel
theorem dX9_areTwo_26 : decode cX9_areTwo 26 = .ok (.ireturn, 1) := by decide +kernel
theorem dX9_ask_0 : decode cX9_ask 0 = .ok (.aload_n 0, 1) := by decide +kernel
theorem dX9_ask_1 : decode cX9_ask 1 = .ok (.iconst 0, 1) := by decide +kernel
theorem dX9_ask_2 : decode cX9_ask 2 = .ok (.putfield 68, 3) := by decide +kernel
theorem dX9_ask_5 : decode cX9_ask 5 = .ok (.aload_n 0, 1) := by decide +kernel
theorem dX9_ask_6 : decode cX9_ask 6 = .ok (.iload_n 1, 1) := by decide +kernel
theorem dX9_ask_7 : decode cX9_ask 7 = .ok (.aload_n 0, 1) := by decide +kernel
theorem dX9_ask_8 : decode cX9_ask 8 = .ok (.iload_n 2, 1) := by decide +kernel
theorem dX9_ask_9 : decode cX9_ask 9 = .ok (.invokevirtual 216, 3) := by decide +kernel
theorem dX9_ask_12 : decode cX9_ask 12 = .ok (.invokevirtual 358, 3) := by decide +kernel
theorem dX9_ask_15 : decode cX9_ask 15 = .ok (.istore_n 3, 1) := by decide +kernel
theorem dX9_ask_16 : decode cX9_ask 16 = .ok (.iload_n 3, 1) := by decide +kernel
theorem dX9_ask_17 : decode cX9_ask 17 = .ok (.ifCond .eq 5, 3) := by decide +kernel
theorem dX9_ask_20 : decode cX9_ask 20 = .ok (.iload_n 3, 1) := by decide +kernel
theorem dX9_ask_21 : decode cX9_ask 21 = .ok (.ireturn, 1) := by decide +kernel
theorem dX9_back_0 : decode cX9_back 0 = .ok (.aload_n 0, 1) := by decide +kernel
theorem dX9_back_1 : decode cX9_back 1 = .ok (.iconst 0, 1) := by decide +kernel
theorem dX9_back_2 : decode cX9_back 2 = .ok (.putfield 68, 3) := by decide +kernel
theorem dX9_back_5 : decode cX9_back 5 = .ok (.iload_n 1, 1) := by decide +kernel
theorem dX9_back_6 : decode cX9_back 6 = .ok (.i2l, 1) := by decide +kernel
theorem dX9_back_7 : decode cX9_back 7 = .ok (.lconst 0, 1) := by decide +kernel
theorem dX9_back_8 : decode cX9_back 8 = .ok (.ldc2_w 281, 3) := by decide +kernel
theorem dX9_back_11 : decode cX9_back 11 = .ok (.invokestatic 73, 3) := by decide +kernel
theorem dX9_back_14 : decode cX9_back 14 = .ok (.ifCond .ne 6, 3) := by decide +kernel
theorem dX9_back_17 : decode cX9_back 17 = .ok (.bipush (-2), 2) := by decide +kernel
theorem dX9_back_19 : decode cX9_back 19 = .ok (.ireturn, 1) := by decide +kernel
theorem dX9_back_20 : decode cX9_back 20 = .ok (.aload_n 0, 1) := by decide +kernel
theorem dX9_back_21 : decode cX9_back 21 = .ok (.getfield 46, 3) := by decide +kernel
theorem dX9_back_24 : decode cX9_back 24 = .ok (.iload_n 1, 1) := by decide +kernel
theorem dX9_back_25 : decode cX9_back 25 = .ok (.baload, 1) := by decide +kernel
theorem dX9_back_26 : decode cX9_back 26 = .ok (.ifCond .ne 6, 3) := by decide +kernel
theorem dX9_back_29 : decode cX9_back 29 = .ok (.bipush (-6), 2) := by decide +kernel
theorem dX9_back_31 : decode cX9_back 31 = .ok (.ireturn, 1) := by decide +kernel
theorem dX9_batteries_0 : decode cX9_batteries 0 = .ok (.aload_n 0, 1) := by decide +kernel
theorem dX9_batteries_1 : decode cX9_batteries 1 = .ok (.iconst 0, 1) := by decide +kernel
theorem dX9_batteries_2 : decode cX9_batteries 2 = .ok (.putfield 68, 3) := by decide +kernel
theorem dX9_batteries_5 : decode cX9_batteries 5 = .ok (.aload_n 0, 1) := by decide +kernel
theorem dX9_batteries_6 : decode cX9_batteries 6 = .ok (.invokevirtual 219, 3) := by decide +kernel
theorem dX9_batteries_9 : decode cX9_batteries 9 = .ok (.ifCond .eq 15, 3) := by decide +kernel
theorem dX9_batteries_24 : decode cX9_batteries 24 = .ok (.bipush (-2), 2) := by decide +kernel
theorem dX9_batteries_26 : decode cX9_batteries 26 = .ok (.ireturn, 1) := by decide +kernel
theorem dX9_battery_0 : decode cX9_battery 0 = .ok (.aload_n 0, 1) := by decide +kernel
theorem dX9_battery_1 : decode cX9_battery 1 = .ok (.iconst 0, 1) := by decide +kernel
theorem dX9_battery_2 : decode cX9_battery 2 = .ok (.putfield 68, 3) := by decide +kernel
theorem dX9_battery_5 : decode cX9_battery 5 = .ok (.aload_n 0, 1) := by decide +kernel
theorem dX9_battery_6 : decode cX9_battery 6 = .ok (.iload_n 1, 1) := by decide +kernel
theorem dX9_battery_7 : decode cX9_battery 7 = .ok (.i2l, 1) := by decide +kernel
theorem dX9_battery_8 : decode cX9_battery 8 = .ok (.invokevirtual 289, 3) := by decide +kernel
theorem dX9_battery_11 : decode cX9_battery 11 = .ok (.ifCond .eq 12, 3) := by decide +kernel
theorem dX9_battery_23 : decode cX9_battery 23 = .ok (.bipush (-2), 2) := by decide +kernel
theorem dX9_battery_25 : decode cX9_battery 25 = .ok (.ireturn, 1) := by decide +kernel
theorem dX9_begins_0 : decode cX9_begins 0 = .ok (.aload_n 0, 1) := by decide +kernel
theorem dX9_begins_1 : decode cX9_begins 1 = .ok (.iconst 0, 1) := by decide +kernel
theorem dX9_begins_2 : decode cX9_begins 2 = .ok (.putfield 120, 3) := by decide +kernel
theorem dX9_begins_5 : decode cX9_begins 5 = .ok (.aload_n 0, 1) := by decide +kernel
theorem dX9_begins_6 : decode cX9_begins 6 = .ok (.iconst (-1), 1) := by decide +kernel
theorem dX9_begins_7 : decode cX9_begins 7 = .ok (.putfield 123, 3) := by decide +kernel
theorem dX9_begins_10 : decode cX9_begins 10 = .ok (.aload_n 0, 1) := by decide +kernel
theorem dX9_begins_11 : decode cX9_begins 11 = .ok (.iconst 0, 1) := by decide +kernel
theorem dX9_begins_12 : decode cX9_begins 12 = .ok (.putfield 92, 3) := by decide +kernel
theorem dX9_begins_15 : decode cX9_begins 15 = .ok (.aload_n 0, 1) := by decide +kernel
theorem dX9_begins_16 : decode cX9_begins 16 = .ok (.invokevirtual 130, 3) := by decide +kernel
theorem dX9_begins_19 : decode cX9_begins 19 = .ok (.return_, 1) := by decide +kernel
theorem dX9_best_0 : decode cX9_best 0 = .ok (.aload_n 0, 1) := by decide +kernel
theorem dX9_best_1 : decode cX9_best 1 = .ok (.iconst 0, 1) := by decide +kernel
theorem dX9_best_2 : decode cX9_best 2 = .ok (.putfield 68, 3) := by decide +kernel
theorem dX9_best_5 : decode cX9_best 5 = .ok (.aload_n 0, 1) := by decide +kernel
theorem dX9_best_6 : decode cX9_best 6 = .ok (.invokevirtual 219, 3) := by decide +kernel
theorem dX9_best_9 : decode cX9_best 9 = .ok (.ifCond .ne 6, 3) := by decide +kernel
theorem dX9_best_12 : decode cX9_best 12 = .ok (.bipush (-2), 2) := by decide +kernel
theorem dX9_best_14 : decode cX9_best 14 = .ok (.ireturn, 1) := by decide +kernel
theorem dX9_both_0 : decode cX9_both 0 = .ok (.aload_n 0, 1) := by decide +kernel
theorem dX9_both_1 : decode cX9_both 1 = .ok (.iconst 0, 1) := by decide +kernel
theorem dX9_both_2 : decode cX9_both 2 = .ok (.putfield 68, 3) := by decide +kernel
theorem dX9_both_5 : decode cX9_both 5 = .ok (.aload_n 0, 1) := by decide +kernel
theorem dX9_both_6 : decode cX9_both 6 = .ok (.iload_n 1, 1) := by decide +kernel
theorem dX9_both_7 : decode cX9_both 7 = .ok (.invokevirtual 268, 3) := by decide +kernel
theorem dX9_both_10 : decode cX9_both 10 = .ok (.ifCond .eq 21, 3) := by decide +kernel
theorem dX9_both_31 : decode cX9_both 31 = .ok (.bipush (-2), 2) := by decide +kernel
theorem dX9_both_33 : decode cX9_both 33 = .ok (.ireturn, 1) := by decide +kernel
theorem dX9_breaks_0 : decode cX9_breaks 0 = .ok (.aload_n 0, 1) := by decide +kernel
theorem dX9_breaks_1 : decode cX9_breaks 1 = .ok (.iconst 0, 1) := by decide +kernel
theorem dX9_breaks_2 : decode cX9_breaks 2 = .ok (.putfield 68, 3) := by decide +kernel
theorem dX9_breaks_5 : decode cX9_breaks 5 = .ok (.aload_n 0, 1) := by decide +kernel
theorem dX9_breaks_6 : decode cX9_breaks 6 = .ok (.iload_n 1, 1) := by decide +kernel
theorem dX9_breaks_7 : decode cX9_breaks 7 = .ok (.iconst 1, 1) := by decide +kernel
theorem dX9_breaks_8 : decode cX9_breaks 8 = .ok (.invokevirtual 358, 3) := by decide +kernel
theorem dX9_breaks_11 : decode cX9_breaks 11 = .ok (.istore_n 2, 1) := by decide +kernel
theorem dX9_breaks_12 : decode cX9_breaks 12 = .ok (.iload_n 2, 1) := by decide +kernel
theorem dX9_breaks_13 : decode cX9_breaks 13 = .ok (.ifCond .eq 5, 3) := by decide +kernel
theorem dX9_breaks_16 : decode cX9_breaks 16 = .ok (.iload_n 2, 1) := by decide +kernel
theorem dX9_breaks_17 : decode cX9_breaks 17 = .ok (.ireturn, 1) := by decide +kernel
theorem dX9_bright_0 : decode cX9_bright 0 = .ok (.aload_n 0, 1) := by decide +kernel
theorem dX9_bright_1 : decode cX9_bright 1 = .ok (.iconst 0, 1) := by decide +kernel
theorem dX9_bright_2 : decode cX9_bright 2 = .ok (.putfield 68, 3) := by decide +kernel
theorem dX9_bright_5 : decode cX9_bright 5 = .ok (.aload_n 0, 1) := by decide +kernel
theorem dX9_bright_6 : decode cX9_bright 6 = .ok (.invokevirtual 219, 3) := by decide +kernel
theorem dX9_bright_9 : decode cX9_bright 9 = .ok (.ifCond .eq 11, 3) := by decide +kernel
theorem dX9_bright_20 : decode cX9_bright 20 = .ok (.bipush (-2), 2) := by decide +kernel
theorem dX9_bright_22 : decode cX9_bright 22 = .ok (.ireturn, 1) := by decide +kernel
theorem dX9_by_0 : decode cX9_by 0 = .ok (.aload_n 0, 1) := by decide +kernel
theorem dX9_by_1 : decode cX9_by 1 = .ok (.iconst 0, 1) := by decide +kernel
theorem dX9_by_2 : decode cX9_by 2 = .ok (.putfield 68, 3) := by decide +kernel
theorem dX9_by_5 : decode cX9_by 5 = .ok (.aload_n 0, 1) := by decide +kernel
theorem dX9_by_6 : decode cX9_by 6 = .ok (.invokevirtual 219, 3) := by decide +kernel
theorem dX9_by_9 : decode cX9_by 9 = .ok (.ifCond .eq 23, 3) := by decide +kernel
theorem dX9_by_32 : decode cX9_by 32 = .ok (.bipush (-2), 2) := by decide +kernel
theorem dX9_by_34 : decode cX9_by 34 = .ok (.ireturn, 1) := by decide +kernel
theorem dX9_chance_0 : decode cX9_chance 0 = .ok (.aload_n 0, 1) := by decide +kernel
theorem dX9_chance_1 : decode cX9_chance 1 = .ok (.iconst 0, 1) := by decide +kernel
theorem dX9_chance_2 : decode cX9_chance 2 = .ok (.putfield 68, 3) := by decide +kernel
theorem dX9_chance_5 : decode cX9_chance 5 = .ok (.aload_n 0, 1) := by decide +kernel
theorem dX9_chance_6 : decode cX9_chance 6 = .ok (.iload_n 1, 1) := by decide +kernel
theorem dX9_chance_7 : decode cX9_chance 7 = .ok (.invokevirtual 268, 3) := by decide +kernel
theorem dX9_chance_10 : decode cX9_chance 10 = .ok (.ifCond .eq 41, 3) := by decide +kernel
theorem dX9_chance_51 : decode cX9_chance 51 = .ok (.bipush (-2), 2) := by decide +kernel
theorem dX9_chance_53 : decode cX9_chance 53 = .ok (.ireturn, 1) := by decide +kernel
theorem dX9_changes_0 : decode cX9_changes 0 = .ok (.aload_n 0, 1) := by decide +kernel
theorem dX9_changes_1 : decode cX9_changes 1 = .ok (.iconst 0, 1) := by decide +kernel
theorem dX9_changes_2 : decode cX9_changes 2 = .ok (.putfield 68, 3) := by decide +kernel
theorem dX9_changes_5 : decode cX9_changes 5 = .ok (.aload_n 0, 1) := by decide +kernel
theorem dX9_changes_6 : decode cX9_changes 6 = .ok (.invokevirtual 219, 3) := by decide +kernel
theorem dX9_changes_9 : decode cX9_changes 9 = .ok (.ifCond .ne 6, 3) := by decide +kernel
theorem dX9_changes_12 : decode cX9_changes 12 = .ok (.bipush (-2), 2) := by decide +kernel
theorem dX9_changes_14 : decode cX9_changes 14 = .ok (.ireturn, 1) := by decide +kernel
theorem dX9_clear_0 : decode cX9_clear 0 = .ok (.aload_n 0, 1) := by decide +kernel
theorem dX9_clear_1 : decode cX9_clear 1 = .ok (.iconst 0, 1) := by decide +kernel
theorem dX9_clear_2 : decode cX9_clear 2 = .ok (.putfield 68, 3) := by decide +kernel
theorem dX9_clear_5 : decode cX9_clear 5 = .ok (.aload_n 0, 1) := by decide +kernel
theorem dX9_clear_6 : decode cX9_clear 6 = .ok (.invokevirtual 219, 3) := by decide +kernel
theorem dX9_clear_9 : decode cX9_clear 9 = .ok (.ifCond .ne 6, 3) := by decide +kernel
theorem dX9_clear_12 : decode cX9_clear 12 = .ok (.bipush (-2), 2) := by decide +kernel
theorem dX9_clear_14 : decode cX9_clear 14 = .ok (.ireturn, 1) := by decide +kernel
theorem dX9_clears_0 : decode cX9_clears 0 = .ok (.aload_n 0, 1) := by decide +kernel
theorem dX9_clears_1 : decode cX9_clears 1 = .ok (.getfield 31, 3) := by decide +kernel
theorem dX9_clears_4 : decode cX9_clears 4 = .ok (.iconst 4, 1) := by decide +kernel
theorem dX9_clears_5 : decode cX9_clears 5 = .ok (.iconst 0, 1) := by decide +kernel
theorem dX9_clears_6 : decode cX9_clears 6 = .ok (.iastore, 1) := by decide +kernel
theorem dX9_clears_7 : decode cX9_clears 7 = .ok (.iconst 0, 1) := by decide +kernel
theorem dX9_clears_8 : decode cX9_clears 8 = .ok (.istore_n 1, 1) := by decide +kernel
theorem dX9_clears_9 : decode cX9_clears 9 = .ok (.iload_n 1, 1) := by decide +kernel
theorem dX9_clears_10 : decode cX9_clears 10 = .ok (.bipush 7, 2) := by decide +kernel
theorem dX9_clears_12 : decode cX9_clears 12 = .ok (.if_icmp .ge 15, 3) := by decide +kernel
theorem dX9_clears_15 : decode cX9_clears 15 = .ok (.aload_n 0, 1) := by decide +kernel
theorem dX9_clears_16 : decode cX9_clears 16 = .ok (.iload_n 1, 1) := by decide +kernel
theorem dX9_clears_17 : decode cX9_clears 17 = .ok (.iconst 0, 1) := by decide +kernel
theorem dX9_clears_18 : decode cX9_clears 18 = .ok (.invokevirtual 161, 3) := by decide +kernel
theorem dX9_clears_21 : decode cX9_clears 21 = .ok (.iinc 1 1, 3) := by decide +kernel
theorem dX9_clears_24 : decode cX9_clears 24 = .ok (.goto (-15), 3) := by decide +kernel
theorem dX9_clears_27 : decode cX9_clears 27 = .ok (.return_, 1) := by decide +kernel
theorem dX9_copyRow_0 : decode cX9_copyRow 0 = .ok (.iconst 0, 1) := by decide +kernel
theorem dX9_copyRow_1 : decode cX9_copyRow 1 = .ok (.istore 4, 2) := by decide +kernel
theorem dX9_copyRow_3 : decode cX9_copyRow 3 = .ok (.iload 4, 2) := by decide +kernel
theorem dX9_copyRow_5 : decode cX9_copyRow 5 = .ok (.iload_n 1, 1) := by decide +kernel
theorem dX9_copyRow_6 : decode cX9_copyRow 6 = .ok (.if_icmp .ge 25, 3) := by decide +kernel
theorem dX9_copyRow_9 : decode cX9_copyRow 9 = .ok (.aload_n 0, 1) := by decide +kernel
theorem dX9_copyRow_10 : decode cX9_copyRow 10 = .ok (.iload_n 1, 1) := by decide +kernel
theorem dX9_copyRow_11 : decode cX9_copyRow 11 = .ok (.iload_n 3, 1) := by decide +kernel
theorem dX9_copyRow_12 : decode cX9_copyRow 12 = .ok (.imul, 1) := by decide +kernel
theorem dX9_copyRow_13 : decode cX9_copyRow 13 = .ok (.iload 4, 2) := by decide +kernel
theorem dX9_copyRow_15 : decode cX9_copyRow 15 = .ok (.iadd, 1) := by decide +kernel
theorem dX9_copyRow_16 : decode cX9_copyRow 16 = .ok (.aload_n 0, 1) := by decide +kernel
theorem dX9_copyRow_17 : decode cX9_copyRow 17 = .ok (.iload_n 1, 1) := by decide +kernel
theorem dX9_copyRow_18 : decode cX9_copyRow 18 = .ok (.iload_n 2, 1) := by decide +kernel
theorem dX9_copyRow_19 : decode cX9_copyRow 19 = .ok (.imul, 1) := by decide +kernel
theorem dX9_copyRow_20 : decode cX9_copyRow 20 = .ok (.iload 4, 2) := by decide +kernel
theorem dX9_copyRow_22 : decode cX9_copyRow 22 = .ok (.iadd, 1) := by decide +kernel
theorem dX9_copyRow_23 : decode cX9_copyRow 23 = .ok (.iaload, 1) := by decide +kernel
theorem dX9_copyRow_24 : decode cX9_copyRow 24 = .ok (.iastore, 1) := by decide +kernel
theorem dX9_copyRow_25 : decode cX9_copyRow 25 = .ok (.iinc 4 1, 3) := by decide +kernel
theorem dX9_copyRow_28 : decode cX9_copyRow 28 = .ok (.goto (-25), 3) := by decide +kernel
theorem dX9_copyRow_31 : decode cX9_copyRow 31 = .ok (.return_, 1) := by decide +kernel
theorem dX9_copyWire_0 : decode cX9_copyWire 0 = .ok (.aload_n 0, 1) := by decide +kernel
theorem dX9_copyWire_1 : decode cX9_copyWire 1 = .ok (.getfield 31, 3) := by decide +kernel
theorem dX9_copyWire_4 : decode cX9_copyWire 4 = .ok (.iconst 1, 1) := by decide +kernel
theorem dX9_copyWire_5 : decode cX9_copyWire 5 = .ok (.iload_n 1, 1) := by decide +kernel
theorem dX9_copyWire_6 : decode cX9_copyWire 6 = .ok (.iload_n 2, 1) := by decide +kernel
theorem dX9_copyWire_7 : decode cX9_copyWire 7 = .ok (.invokestatic 208, 3) := by decide +kernel
theorem dX9_copyWire_10 : decode cX9_copyWire 10 = .ok (.aload_n 0, 1) := by decide +kernel
theorem dX9_copyWire_11 : decode cX9_copyWire 11 = .ok (.getfield 34, 3) := by decide +kernel
theorem dX9_copyWire_14 : decode cX9_copyWire 14 = .ok (.bipush 7, 2) := by decide +kernel
theorem dX9_copyWire_16 : decode cX9_copyWire 16 = .ok (.iload_n 1, 1) := by decide +kernel
