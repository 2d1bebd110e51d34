theorem dX9_sore_76 : decode cX9_sore 76 = .ok (.istore_n 2, 1) := by decide +kernel
theorem dX9_sore_77 : decode cX9_sore 77 = .ok (.iinc 3 1, 3) := by decide +kernel
theorem dX9_sore_80 : decode cX9_sore 80 = .ok (.goto (-50), 3) := by decide +kernel
theorem dX9_sore_83 : decode cX9_sore 83 = .ok (.iload_n 2, 1) := by decide +kernel
theorem dX9_sore_84 : decode cX9_sore 84 = .ok (.ireturn, 1) := by decide +kernel
theorem dX9_span_0 : decode cX9_span 0 = .ok (.aload_n 0, 1) := by decide +kernel
theorem dX9_span_1 : decode cX9_span 1 = .ok (.iconst 0, 1) := by decide +kernel
theorem dX9_span_2 : decode cX9_span 2 = .ok (.putfield 68, 3) := by decide +kernel
theorem dX9_span_5 : decode cX9_span 5 = .ok (.aload_n 0, 1) := by decide +kernel
theorem dX9_span_6 : decode cX9_span 6 = .ok (.iload_n 1, 1) := by decide +kernel
theorem dX9_span_7 : decode cX9_span 7 = .ok (.invokevirtual 216, 3) := by decide +kernel
theorem dX9_span_10 : decode cX9_span 10 = .ok (.ifCond .eq 28, 3) := by decide +kernel
theorem dX9_span_13 : decode cX9_span 13 = .ok (.iload_n 2, 1) := by decide +kernel
theorem dX9_span_14 : decode cX9_span 14 = .ok (.i2l, 1) := by decide +kernel
theorem dX9_span_15 : decode cX9_span 15 = .ok (.lconst 0, 1) := by decide +kernel
theorem dX9_span_16 : decode cX9_span 16 = .ok (.ldc2_w 281, 3) := by decide +kernel
theorem dX9_span_19 : decode cX9_span 19 = .ok (.invokestatic 73, 3) := by decide +kernel
theorem dX9_span_22 : decode cX9_span 22 = .ok (.ifCond .eq 16, 3) := by decide +kernel
theorem dX9_span_25 : decode cX9_span 25 = .ok (.aload_n 0, 1) := by decide +kernel
theorem dX9_span_26 : decode cX9_span 26 = .ok (.getfield 37, 3) := by decide +kernel
theorem dX9_span_29 : decode cX9_span 29 = .ok (.iconst 3, 1) := by decide +kernel
theorem dX9_span_30 : decode cX9_span 30 = .ok (.iload_n 1, 1) := by decide +kernel
theorem dX9_span_31 : decode cX9_span 31 = .ok (.imul, 1) := by decide +kernel
theorem dX9_span_32 : decode cX9_span 32 = .ok (.iload_n 2, 1) := by decide +kernel
theorem dX9_span_33 : decode cX9_span 33 = .ok (.iadd, 1) := by decide +kernel
theorem dX9_span_34 : decode cX9_span 34 = .ok (.iaload, 1) := by decide +kernel
theorem dX9_span_35 : decode cX9_span 35 = .ok (.goto 5, 3) := by decide +kernel
theorem dX9_span_38 : decode cX9_span 38 = .ok (.bipush (-2), 2) := by decide +kernel
theorem dX9_span_40 : decode cX9_span 40 = .ok (.ireturn, 1) := by decide +kernel
theorem dX9_spanLine_0 : decode cX9_spanLine 0 = .ok (.iconst 3, 1) := by decide +kernel
theorem dX9_spanLine_1 : decode cX9_spanLine 1 = .ok (.bipush 20, 2) := by decide +kernel
theorem dX9_spanLine_3 : decode cX9_spanLine 3 = .ok (.aload_n 0, 1) := by decide +kernel
theorem dX9_spanLine_4 : decode cX9_spanLine 4 = .ok (.iconst 4, 1) := by decide +kernel
theorem dX9_spanLine_5 : decode cX9_spanLine 5 = .ok (.invokevirtual 150, 3) := by decide +kernel
theorem dX9_spanLine_8 : decode cX9_spanLine 8 = .ok (.iadd, 1) := by decide +kernel
theorem dX9_spanLine_9 : decode cX9_spanLine 9 = .ok (.imul, 1) := by decide +kernel
theorem dX9_spanLine_10 : decode cX9_spanLine 10 = .ok (.istore_n 1, 1) := by decide +kernel
theorem dX9_spanLine_11 : decode cX9_spanLine 11 = .ok (.aload_n 0, 1) := by decide +kernel
theorem dX9_spanLine_12 : decode cX9_spanLine 12 = .ok (.getfield 37, 3) := by decide +kernel
theorem dX9_spanLine_15 : decode cX9_spanLine 15 = .ok (.iload_n 1, 1) := by decide +kernel
theorem dX9_spanLine_16 : decode cX9_spanLine 16 = .ok (.aload_n 0, 1) := by decide +kernel
theorem dX9_spanLine_17 : decode cX9_spanLine 17 = .ok (.iconst 1, 1) := by decide +kernel
theorem dX9_spanLine_18 : decode cX9_spanLine 18 = .ok (.bipush 12, 2) := by decide +kernel
theorem dX9_spanLine_20 : decode cX9_spanLine 20 = .ok (.invokevirtual 143, 3) := by decide +kernel
theorem dX9_spanLine_23 : decode cX9_spanLine 23 = .ok (.iastore, 1) := by decide +kernel
theorem dX9_spanLine_24 : decode cX9_spanLine 24 = .ok (.aload_n 0, 1) := by decide +kernel
theorem dX9_spanLine_25 : decode cX9_spanLine 25 = .ok (.getfield 37, 3) := by decide +kernel
theorem dX9_spanLine_28 : decode cX9_spanLine 28 = .ok (.iload_n 1, 1) := by decide +kernel
theorem dX9_spanLine_29 : decode cX9_spanLine 29 = .ok (.iconst 1, 1) := by decide +kernel
theorem dX9_spanLine_30 : decode cX9_spanLine 30 = .ok (.iadd, 1) := by decide +kernel
theorem dX9_spanLine_31 : decode cX9_spanLine 31 = .ok (.aload_n 0, 1) := by decide +kernel
theorem dX9_spanLine_32 : decode cX9_spanLine 32 = .ok (.ldc2_w 154, 3) := by decide +kernel
theorem dX9_spanLine_35 : decode cX9_spanLine 35 = .ok (.iconst 1, 1) := by decide +kernel
theorem dX9_spanLine_36 : decode cX9_spanLine 36 = .ok (.bipush 30, 2) := by decide +kernel
theorem dX9_spanLine_38 : decode cX9_spanLine 38 = .ok (.invokevirtual 156, 3) := by decide +kernel
theorem dX9_spanLine_41 : decode cX9_spanLine 41 = .ok (.iastore, 1) := by decide +kernel
theorem dX9_spanLine_42 : decode cX9_spanLine 42 = .ok (.aload_n 0, 1) := by decide +kernel
theorem dX9_spanLine_43 : decode cX9_spanLine 43 = .ok (.getfield 37, 3) := by decide +kernel
theorem dX9_spanLine_46 : decode cX9_spanLine 46 = .ok (.iload_n 1, 1) := by decide +kernel
theorem dX9_spanLine_47 : decode cX9_spanLine 47 = .ok (.iconst 2, 1) := by decide +kernel
theorem dX9_spanLine_48 : decode cX9_spanLine 48 = .ok (.iadd, 1) := by decide +kernel
theorem dX9_spanLine_49 : decode cX9_spanLine 49 = .ok (.aload_n 0, 1) := by decide +kernel
theorem dX9_spanLine_50 : decode cX9_spanLine 50 = .ok (.getfield 120, 3) := by decide +kernel
theorem dX9_spanLine_53 : decode cX9_spanLine 53 = .ok (.ifCond .ne 26, 3) := by decide +kernel
theorem dX9_spanLine_56 : decode cX9_spanLine 56 = .ok (.aload_n 0, 1) := by decide +kernel
theorem dX9_spanLine_57 : decode cX9_spanLine 57 = .ok (.ldc2_w 159, 3) := by decide +kernel
theorem dX9_spanLine_60 : decode cX9_spanLine 60 = .ok (.invokevirtual 126, 3) := by decide +kernel
theorem dX9_spanLine_63 : decode cX9_spanLine 63 = .ok (.ifCond .eq 16, 3) := by decide +kernel
theorem dX9_spanLine_66 : decode cX9_spanLine 66 = .ok (.aload_n 0, 1) := by decide +kernel
theorem dX9_spanLine_67 : decode cX9_spanLine 67 = .ok (.ldc2_w 159, 3) := by decide +kernel
theorem dX9_spanLine_70 : decode cX9_spanLine 70 = .ok (.iconst 0, 1) := by decide +kernel
theorem dX9_spanLine_71 : decode cX9_spanLine 71 = .ok (.bipush 60, 2) := by decide +kernel
theorem dX9_spanLine_73 : decode cX9_spanLine 73 = .ok (.invokevirtual 156, 3) := by decide +kernel
theorem dX9_spanLine_76 : decode cX9_spanLine 76 = .ok (.goto 4, 3) := by decide +kernel
theorem dX9_spanLine_79 : decode cX9_spanLine 79 = .ok (.iconst (-1), 1) := by decide +kernel
theorem dX9_spanLine_80 : decode cX9_spanLine 80 = .ok (.iastore, 1) := by decide +kernel
theorem dX9_spanLine_81 : decode cX9_spanLine 81 = .ok (.aload_n 0, 1) := by decide +kernel
theorem dX9_spanLine_82 : decode cX9_spanLine 82 = .ok (.iconst 4, 1) := by decide +kernel
theorem dX9_spanLine_83 : decode cX9_spanLine 83 = .ok (.aload_n 0, 1) := by decide +kernel
theorem dX9_spanLine_84 : decode cX9_spanLine 84 = .ok (.iconst 4, 1) := by decide +kernel
theorem dX9_spanLine_85 : decode cX9_spanLine 85 = .ok (.invokevirtual 150, 3) := by decide +kernel
theorem dX9_spanLine_88 : decode cX9_spanLine 88 = .ok (.iconst 1, 1) := by decide +kernel
theorem dX9_spanLine_89 : decode cX9_spanLine 89 = .ok (.iadd, 1) := by decide +kernel
theorem dX9_spanLine_90 : decode cX9_spanLine 90 = .ok (.invokevirtual 161, 3) := by decide +kernel
theorem dX9_spanLine_93 : decode cX9_spanLine 93 = .ok (.return_, 1) := by decide +kernel
theorem dX9_spans_0 : decode cX9_spans 0 = .ok (.aload_n 0, 1) := by decide +kernel
theorem dX9_spans_1 : decode cX9_spans 1 = .ok (.getfield 34, 3) := by decide +kernel
theorem dX9_spans_4 : decode cX9_spans 4 = .ok (.iconst 4, 1) := by decide +kernel
theorem dX9_spans_5 : decode cX9_spans 5 = .ok (.iaload, 1) := by decide +kernel
theorem dX9_spans_6 : decode cX9_spans 6 = .ok (.ireturn, 1) := by decide +kernel
theorem dX9_spell_0 : decode cX9_spell 0 = .ok (.aload_n 0, 1) := by decide +kernel
theorem dX9_spell_1 : decode cX9_spell 1 = .ok (.iconst 0, 1) := by decide +kernel
theorem dX9_spell_2 : decode cX9_spell 2 = .ok (.putfield 68, 3) := by decide +kernel
theorem dX9_spell_5 : decode cX9_spell 5 = .ok (.aload_n 0, 1) := by decide +kernel
theorem dX9_spell_6 : decode cX9_spell 6 = .ok (.invokevirtual 219, 3) := by decide +kernel
theorem dX9_spell_9 : decode cX9_spell 9 = .ok (.ifCond .eq 11, 3) := by decide +kernel
theorem dX9_spell_12 : decode cX9_spell 12 = .ok (.aload_n 0, 1) := by decide +kernel
theorem dX9_spell_13 : decode cX9_spell 13 = .ok (.iconst 1, 1) := by decide +kernel
theorem dX9_spell_14 : decode cX9_spell 14 = .ok (.invokevirtual 317, 3) := by decide +kernel
theorem dX9_spell_17 : decode cX9_spell 17 = .ok (.goto 5, 3) := by decide +kernel
theorem dX9_spell_20 : decode cX9_spell 20 = .ok (.bipush (-2), 2) := by decide +kernel
theorem dX9_spell_22 : decode cX9_spell 22 = .ok (.ireturn, 1) := by decide +kernel
theorem dX9_spellOf_0 : decode cX9_spellOf 0 = .ok (.aload_n 0, 1) := by decide +kernel
theorem dX9_spellOf_1 : decode cX9_spellOf 1 = .ok (.invokevirtual 286, 3) := by decide +kernel
theorem dX9_spellOf_4 : decode cX9_spellOf 4 = .ok (.iconst 0, 1) := by decide +kernel
theorem dX9_spellOf_5 : decode cX9_spellOf 5 = .ok (.istore_n 2, 1) := by decide +kernel
theorem dX9_spellOf_6 : decode cX9_spellOf 6 = .ok (.iconst 0, 1) := by decide +kernel
theorem dX9_spellOf_7 : decode cX9_spellOf 7 = .ok (.istore_n 3, 1) := by decide +kernel
theorem dX9_spellOf_8 : decode cX9_spellOf 8 = .ok (.iconst 0, 1) := by decide +kernel
theorem dX9_spellOf_9 : decode cX9_spellOf 9 = .ok (.istore 4, 2) := by decide +kernel
theorem dX9_spellOf_11 : decode cX9_spellOf 11 = .ok (.iload 4, 2) := by decide +kernel
theorem dX9_spellOf_13 : decode cX9_spellOf 13 = .ok (.aload_n 0, 1) := by decide +kernel
theorem dX9_spellOf_14 : decode cX9_spellOf 14 = .ok (.invokevirtual 222, 3) := by decide +kernel
theorem dX9_spellOf_17 : decode cX9_spellOf 17 = .ok (.if_icmp .gt 36, 3) := by decide +kernel
theorem dX9_spellOf_20 : decode cX9_spellOf 20 = .ok (.aload_n 0, 1) := by decide +kernel
theorem dX9_spellOf_21 : decode cX9_spellOf 21 = .ok (.getfield 228, 3) := by decide +kernel
theorem dX9_spellOf_24 : decode cX9_spellOf 24 = .ok (.iload 4, 2) := by decide +kernel
theorem dX9_spellOf_26 : decode cX9_spellOf 26 = .ok (.invokestatic 240, 3) := by decide +kernel
theorem dX9_spellOf_29 : decode cX9_spellOf 29 = .ok (.iload_n 1, 1) := by decide +kernel
theorem dX9_spellOf_30 : decode cX9_spellOf 30 = .ok (.if_icmp .ne 9, 3) := by decide +kernel
theorem dX9_spellOf_33 : decode cX9_spellOf 33 = .ok (.iload_n 3, 1) := by decide +kernel
theorem dX9_spellOf_34 : decode cX9_spellOf 34 = .ok (.iconst 1, 1) := by decide +kernel
theorem dX9_spellOf_35 : decode cX9_spellOf 35 = .ok (.iadd, 1) := by decide +kernel
theorem dX9_spellOf_36 : decode cX9_spellOf 36 = .ok (.goto 4, 3) := by decide +kernel
theorem dX9_spellOf_39 : decode cX9_spellOf 39 = .ok (.iconst 0, 1) := by decide +kernel
theorem dX9_spellOf_40 : decode cX9_spellOf 40 = .ok (.istore_n 3, 1) := by decide +kernel
theorem dX9_spellOf_41 : decode cX9_spellOf 41 = .ok (.iload_n 2, 1) := by decide +kernel
theorem dX9_spellOf_42 : decode cX9_spellOf 42 = .ok (.iload_n 3, 1) := by decide +kernel
theorem dX9_spellOf_43 : decode cX9_spellOf 43 = .ok (.invokestatic 244, 3) := by decide +kernel
theorem dX9_spellOf_46 : decode cX9_spellOf 46 = .ok (.istore_n 2, 1) := by decide +kernel
theorem dX9_spellOf_47 : decode cX9_spellOf 47 = .ok (.iinc 4 1, 3) := by decide +kernel
theorem dX9_spellOf_50 : decode cX9_spellOf 50 = .ok (.goto (-39), 3) := by decide +kernel
theorem dX9_spellOf_53 : decode cX9_spellOf 53 = .ok (.iload_n 2, 1) := by decide +kernel
theorem dX9_spellOf_54 : decode cX9_spellOf 54 = .ok (.ireturn, 1) := by decide +kernel
theorem dX9_spots_0 : decode cX9_spots 0 = .ok (.aload_n 0, 1) := by decide +kernel
theorem dX9_spots_1 : decode cX9_spots 1 = .ok (.iconst 0, 1) := by decide +kernel
theorem dX9_spots_2 : decode cX9_spots 2 = .ok (.putfield 68, 3) := by decide +kernel
theorem dX9_spots_5 : decode cX9_spots 5 = .ok (.aload_n 0, 1) := by decide +kernel
theorem dX9_spots_6 : decode cX9_spots 6 = .ok (.iload_n 1, 1) := by decide +kernel
theorem dX9_spots_7 : decode cX9_spots 7 = .ok (.iconst 1, 1) := by decide +kernel
theorem dX9_spots_8 : decode cX9_spots 8 = .ok (.invokevirtual 358, 3) := by decide +kernel
theorem dX9_spots_11 : decode cX9_spots 11 = .ok (.istore_n 2, 1) := by decide +kernel
theorem dX9_spots_12 : decode cX9_spots 12 = .ok (.iload_n 2, 1) := by decide +kernel
theorem dX9_spots_13 : decode cX9_spots 13 = .ok (.ifCond .eq 5, 3) := by decide +kernel
theorem dX9_spots_16 : decode cX9_spots 16 = .ok (.iload_n 2, 1) := by decide +kernel
theorem dX9_spots_17 : decode cX9_spots 17 = .ok (.ireturn, 1) := by decide +kernel
theorem dX9_spots_18 : decode cX9_spots 18 = .ok (.iconst 0, 1) := by decide +kernel
theorem dX9_spots_19 : decode cX9_spots 19 = .ok (.istore_n 3, 1) := by decide +kernel
theorem dX9_spots_20 : decode cX9_spots 20 = .ok (.iconst 0, 1) := by decide +kernel
theorem dX9_spots_21 : decode cX9_spots 21 = .ok (.istore 4, 2) := by decide +kernel
theorem dX9_spots_23 : decode cX9_spots 23 = .ok (.iload 4, 2) := by decide +kernel
theorem dX9_spots_25 : decode cX9_spots 25 = .ok (.aload_n 0, 1) := by decide +kernel
theorem dX9_spots_26 : decode cX9_spots 26 = .ok (.invokevirtual 212, 3) := by decide +kernel
theorem dX9_spots_29 : decode cX9_spots 29 = .ok (.if_icmp .ge 64, 3) := by decide +kernel
theorem dX9_spots_32 : decode cX9_spots 32 = .ok (.iconst 1, 1) := by decide +kernel
theorem dX9_spots_33 : decode cX9_spots 33 = .ok (.istore 5, 2) := by decide +kernel
theorem dX9_spots_35 : decode cX9_spots 35 = .ok (.iload 5, 2) := by decide +kernel
theorem dX9_spots_37 : decode cX9_spots 37 = .ok (.bipush 30, 2) := by decide +kernel
theorem dX9_spots_39 : decode cX9_spots 39 = .ok (.if_icmp .gt 48, 3) := by decide +kernel
theorem dX9_spots_42 : decode cX9_spots 42 = .ok (.iload_n 3, 1) := by decide +kernel
theorem dX9_spots_43 : decode cX9_spots 43 = .ok (.iload 5, 2) := by decide +kernel
theorem dX9_spots_45 : decode cX9_spots 45 = .ok (.aload_n 0, 1) := by decide +kernel
theorem dX9_spots_46 : decode cX9_spots 46 = .ok (.getfield 37, 3) := by decide +kernel
theorem dX9_spots_49 : decode cX9_spots 49 = .ok (.iconst 3, 1) := by decide +kernel
theorem dX9_spots_50 : decode cX9_spots 50 = .ok (.iload 4, 2) := by decide +kernel
theorem dX9_spots_52 : decode cX9_spots 52 = .ok (.imul, 1) := by decide +kernel
theorem dX9_spots_53 : decode cX9_spots 53 = .ok (.iconst 1, 1) := by decide +kernel
theorem dX9_spots_54 : decode cX9_spots 54 = .ok (.iadd, 1) := by decide +kernel
theorem dX9_spots_55 : decode cX9_spots 55 = .ok (.iaload, 1) := by decide +kernel
theorem dX9_spots_56 : decode cX9_spots 56 = .ok (.if_icmp .eq 22, 3) := by decide +kernel
theorem dX9_spots_59 : decode cX9_spots 59 = .ok (.aload_n 0, 1) := by decide +kernel
theorem dX9_spots_60 : decode cX9_spots 60 = .ok (.iload_n 1, 1) := by decide +kernel
theorem dX9_spots_61 : decode cX9_spots 61 = .ok (.iload 4, 2) := by decide +kernel
theorem dX9_spots_63 : decode cX9_spots 63 = .ok (.iload 5, 2) := by decide +kernel
theorem dX9_spots_65 : decode cX9_spots 65 = .ok (.invokevirtual 346, 3) := by decide +kernel
theorem dX9_spots_68 : decode cX9_spots 68 = .ok (.ifCond .eq 10, 3) := by decide +kernel
theorem dX9_spots_71 : decode cX9_spots 71 = .ok (.iconst 1, 1) := by decide +kernel
theorem dX9_spots_72 : decode cX9_spots 72 = .ok (.iload 4, 2) := by decide +kernel
theorem dX9_spots_74 : decode cX9_spots 74 = .ok (.ishl, 1) := by decide +kernel
theorem dX9_spots_75 : decode cX9_spots 75 = .ok (.goto 4, 3) := by decide +kernel
theorem dX9_spots_78 : decode cX9_spots 78 = .ok (.iconst 0, 1) := by decide +kernel
theorem dX9_spots_79 : decode cX9_spots 79 = .ok (.ior, 1) := by decide +kernel
theorem dX9_spots_80 : decode cX9_spots 80 = .ok (.istore_n 3, 1) := by decide +kernel
theorem dX9_spots_81 : decode cX9_spots 81 = .ok (.iinc 5 1, 3) := by decide +kernel
theorem dX9_spots_84 : decode cX9_spots 84 = .ok (.goto (-49), 3) := by decide +kernel
theorem dX9_spots_87 : decode cX9_spots 87 = .ok (.iinc 4 1, 3) := by decide +kernel
theorem dX9_spots_90 : decode cX9_spots 90 = .ok (.goto (-67), 3) := by decide +kernel
theorem dX9_spots_93 : decode cX9_spots 93 = .ok (.iload_n 3, 1) := by decide +kernel
theorem dX9_spots_94 : decode cX9_spots 94 = .ok (.ireturn, 1) := by decide +kernel
theorem dX9_stationBy_0 : decode cX9_stationBy 0 = .ok (.aload_n 0, 1) := by decide +kernel
theorem dX9_stationBy_1 : decode cX9_stationBy 1 = .ok (.invokevirtual 286, 3) := by decide +kernel
theorem dX9_stationBy_4 : decode cX9_stationBy 4 = .ok (.iconst (-1), 1) := by decide +kernel
theorem dX9_stationBy_5 : decode cX9_stationBy 5 = .ok (.istore_n 2, 1) := by decide +kernel
theorem dX9_stationBy_6 : decode cX9_stationBy 6 = .ok (.iconst 0, 1) := by decide +kernel
theorem dX9_stationBy_7 : decode cX9_stationBy 7 = .ok (.istore_n 3, 1) := by decide +kernel
theorem dX9_stationBy_8 : decode cX9_stationBy 8 = .ok (.iconst 0, 1) := by decide +kernel
theorem dX9_stationBy_9 : decode cX9_stationBy 9 = .ok (.istore 4, 2) := by decide +kernel
theorem dX9_stationBy_11 : decode cX9_stationBy 11 = .ok (.iload 4, 2) := by decide +kernel
theorem dX9_stationBy_13 : decode cX9_stationBy 13 = .ok (.aload_n 0, 1) := by decide +kernel
theorem dX9_stationBy_14 : decode cX9_stationBy 14 = .ok (.invokevirtual 212, 3) := by decide +kernel
theorem dX9_stationBy_17 : decode cX9_stationBy 17 = .ok (.if_icmp .ge 83, 3) := by decide +kernel
theorem dX9_stationBy_20 : decode cX9_stationBy 20 = .ok (.aload_n 0, 1) := by decide +kernel
theorem dX9_stationBy_21 : decode cX9_stationBy 21 = .ok (.iload 4, 2) := by decide +kernel
theorem dX9_stationBy_23 : decode cX9_stationBy 23 = .ok (.invokevirtual 268, 3) := by decide +kernel
theorem dX9_stationBy_26 : decode cX9_stationBy 26 = .ok (.ifCond .ne 6, 3) := by decide +kernel
theorem dX9_stationBy_29 : decode cX9_stationBy 29 = .ok (.goto 65, 3) := by decide +kernel
theorem dX9_stationBy_32 : decode cX9_stationBy 32 = .ok (.iconst 0, 1) := by decide +kernel
theorem dX9_stationBy_33 : decode cX9_stationBy 33 = .ok (.istore 5, 2) := by decide +kernel
theorem dX9_stationBy_35 : decode cX9_stationBy 35 = .ok (.iconst 0, 1) := by decide +kernel
theorem dX9_stationBy_36 : decode cX9_stationBy 36 = .ok (.istore 6, 2) := by decide +kernel
theorem dX9_stationBy_38 : decode cX9_stationBy 38 = .ok (.iload 6, 2) := by decide +kernel
theorem dX9_stationBy_40 : decode cX9_stationBy 40 = .ok (.aload_n 0, 1) := by decide +kernel
theorem dX9_stationBy_41 : decode cX9_stationBy 41 = .ok (.invokevirtual 222, 3) := by decide +kernel
theorem dX9_stationBy_44 : decode cX9_stationBy 44 = .ok (.if_icmp .gt 30, 3) := by decide +kernel
theorem dX9_stationBy_47 : decode cX9_stationBy 47 = .ok (.iload 5, 2) := by decide +kernel
theorem dX9_stationBy_49 : decode cX9_stationBy 49 = .ok (.aload_n 0, 1) := by decide +kernel
theorem dX9_stationBy_50 : decode cX9_stationBy 50 = .ok (.iload 4, 2) := by decide +kernel
theorem dX9_stationBy_52 : decode cX9_stationBy 52 = .ok (.iload 6, 2) := by decide +kernel
theorem dX9_stationBy_54 : decode cX9_stationBy 54 = .ok (.invokevirtual 308, 3) := by decide +kernel
theorem dX9_stationBy_57 : decode cX9_stationBy 57 = .ok (.ifCond .eq 7, 3) := by decide +kernel
theorem dX9_stationBy_60 : decode cX9_stationBy 60 = .ok (.iload_n 1, 1) := by decide +kernel
theorem dX9_stationBy_61 : decode cX9_stationBy 61 = .ok (.goto 4, 3) := by decide +kernel
theorem dX9_stationBy_64 : decode cX9_stationBy 64 = .ok (.iconst 0, 1) := by decide +kernel
theorem dX9_stationBy_65 : decode cX9_stationBy 65 = .ok (.iadd, 1) := by decide +kernel
theorem dX9_stationBy_66 : decode cX9_stationBy 66 = .ok (.istore 5, 2) := by decide +kernel
theorem dX9_stationBy_68 : decode cX9_stationBy 68 = .ok (.iinc 6 1, 3) := by decide +kernel
theorem dX9_stationBy_71 : decode cX9_stationBy 71 = .ok (.goto (-33), 3) := by decide +kernel
theorem dX9_stationBy_74 : decode cX9_stationBy 74 = .ok (.iload_n 2, 1) := by decide +kernel
theorem dX9_stationBy_75 : decode cX9_stationBy 75 = .ok (.iconst (-1), 1) := by decide +kernel
theorem dX9_stationBy_76 : decode cX9_stationBy 76 = .ok (.if_icmp .eq 12, 3) := by decide +kernel
theorem dX9_stationBy_79 : decode cX9_stationBy 79 = .ok (.iload 5, 2) := by decide +kernel
theorem dX9_stationBy_81 : decode cX9_stationBy 81 = .ok (.iload_n 3, 1) := by decide +kernel
theorem dX9_stationBy_82 : decode cX9_stationBy 82 = .ok (.if_icmp .gt 6, 3) := by decide +kernel
theorem dX9_stationBy_85 : decode cX9_stationBy 85 = .ok (.goto 9, 3) := by decide +kernel
theorem dX9_stationBy_88 : decode cX9_stationBy 88 = .ok (.iload 4, 2) := by decide +kernel
theorem dX9_stationBy_90 : decode cX9_stationBy 90 = .ok (.istore_n 2, 1) := by decide +kernel
theorem dX9_stationBy_91 : decode cX9_stationBy 91 = .ok (.iload 5, 2) := by decide +kernel
theorem dX9_stationBy_93 : decode cX9_stationBy 93 = .ok (.istore_n 3, 1) := by decide +kernel
theorem dX9_stationBy_94 : decode cX9_stationBy 94 = .ok (.iinc 4 1, 3) := by decide +kernel
theorem dX9_stationBy_97 : decode cX9_stationBy 97 = .ok (.goto (-86), 3) := by decide +kernel
theorem dX9_stationBy_100 : decode cX9_stationBy 100 = .ok (.iload_n 2, 1) := by decide +kernel
theorem dX9_stationBy_101 : decode cX9_stationBy 101 = .ok (.ireturn, 1) := by decide +kernel
theorem dX9_stations_0 : decode cX9_stations 0 = .ok (.aload_n 0, 1) := by decide +kernel
theorem dX9_stations_1 : decode cX9_stations 1 = .ok (.iconst 0, 1) := by decide +kernel
theorem dX9_stations_2 : decode cX9_stations 2 = .ok (.putfield 68, 3) := by decide +kernel
theorem dX9_stations_5 : decode cX9_stations 5 = .ok (.aload_n 0, 1) := by decide +kernel
theorem dX9_stations_6 : decode cX9_stations 6 = .ok (.invokevirtual 219, 3) := by decide +kernel
theorem dX9_stations_9 : decode cX9_stations 9 = .ok (.ifCond .eq 10, 3) := by decide +kernel
theorem dX9_stations_12 : decode cX9_stations 12 = .ok (.aload_n 0, 1) := by decide +kernel
theorem dX9_stations_13 : decode cX9_stations 13 = .ok (.invokevirtual 283, 3) := by decide +kernel
theorem dX9_stations_16 : decode cX9_stations 16 = .ok (.goto 5, 3) := by decide +kernel
theorem dX9_stations_19 : decode cX9_stations 19 = .ok (.bipush (-2), 2) := by decide +kernel
theorem dX9_stations_21 : decode cX9_stations 21 = .ok (.ireturn, 1) := by decide +kernel
theorem dX9_stationsAll_0 : decode cX9_stationsAll 0 = .ok (.iconst 0, 1) := by decide +kernel
theorem dX9_stationsAll_1 : decode cX9_stationsAll 1 = .ok (.istore_n 1, 1) := by decide +kernel
theorem dX9_stationsAll_2 : decode cX9_stationsAll 2 = .ok (.iconst 0, 1) := by decide +kernel
theorem dX9_stationsAll_3 : decode cX9_stationsAll 3 = .ok (.istore_n 2, 1) := by decide +kernel
theorem dX9_stationsAll_4 : decode cX9_stationsAll 4 = .ok (.iload_n 2, 1) := by decide +kernel
theorem dX9_stationsAll_5 : decode cX9_stationsAll 5 = .ok (.aload_n 0, 1) := by decide +kernel
theorem dX9_stationsAll_6 : decode cX9_stationsAll 6 = .ok (.invokevirtual 212, 3) := by decide +kernel
theorem dX9_stationsAll_9 : decode cX9_stationsAll 9 = .ok (.if_icmp .ge 27, 3) := by decide +kernel
theorem dX9_stationsAll_12 : decode cX9_stationsAll 12 = .ok (.iload_n 1, 1) := by decide +kernel
theorem dX9_stationsAll_13 : decode cX9_stationsAll 13 = .ok (.aload_n 0, 1) := by decide +kernel
theorem dX9_stationsAll_14 : decode cX9_stationsAll 14 = .ok (.iload_n 2, 1) := by decide +kernel
theorem dX9_stationsAll_15 : decode cX9_stationsAll 15 = .ok (.invokevirtual 268, 3) := by decide +kernel
theorem dX9_stationsAll_18 : decode cX9_stationsAll 18 = .ok (.ifCond .eq 9, 3) := by decide +kernel
theorem dX9_stationsAll_21 : decode cX9_stationsAll 21 = .ok (.iconst 1, 1) := by decide +kernel
theorem dX9_stationsAll_22 : decode cX9_stationsAll 22 = .ok (.iload_n 2, 1) := by decide +kernel
theorem dX9_stationsAll_23 : decode cX9_stationsAll 23 = .ok (.ishl, 1) := by decide +kernel
theorem dX9_stationsAll_24 : decode cX9_stationsAll 24 = .ok (.goto 4, 3) := by decide +kernel
theorem dX9_stationsAll_27 : decode cX9_stationsAll 27 = .ok (.iconst 0, 1) := by decide +kernel
theorem dX9_stationsAll_28 : decode cX9_stationsAll 28 = .ok (.ior, 1) := by decide +kernel
theorem dX9_stationsAll_29 : decode cX9_stationsAll 29 = .ok (.istore_n 1, 1) := by decide +kernel
theorem dX9_stationsAll_30 : decode cX9_stationsAll 30 = .ok (.iinc 2 1, 3) := by decide +kernel
theorem dX9_stationsAll_33 : decode cX9_stationsAll 33 = .ok (.goto (-29), 3) := by decide +kernel
theorem dX9_stationsAll_36 : decode cX9_stationsAll 36 = .ok (.iload_n 1, 1) := by decide +kernel
theorem dX9_stationsAll_37 : decode cX9_stationsAll 37 = .ok (.ireturn, 1) := by decide +kernel
theorem dX9_steep_0 : decode cX9_steep 0 = .ok (.aload_n 0, 1) := by decide +kernel
theorem dX9_steep_1 : decode cX9_steep 1 = .ok (.iconst 0, 1) := by decide +kernel
theorem dX9_steep_2 : decode cX9_steep 2 = .ok (.putfield 68, 3) := by decide +kernel
theorem dX9_steep_5 : decode cX9_steep 5 = .ok (.aload_n 0, 1) := by decide +kernel
theorem dX9_steep_6 : decode cX9_steep 6 = .ok (.iload_n 1, 1) := by decide +kernel
theorem dX9_steep_7 : decode cX9_steep 7 = .ok (.i2l, 1) := by decide +kernel
theorem dX9_steep_8 : decode cX9_steep 8 = .ok (.invokevirtual 289, 3) := by decide +kernel
theorem dX9_steep_11 : decode cX9_steep 11 = .ok (.ifCond .ne 6, 3) := by decide +kernel
theorem dX9_steep_14 : decode cX9_steep 14 = .ok (.bipush (-2), 2) := by decide +kernel
theorem dX9_steep_16 : decode cX9_steep 16 = .ok (.ireturn, 1) := by decide +kernel
theorem dX9_steep_17 : decode cX9_steep 17 = .ok (.aload_n 0, 1) := by decide +kernel
theorem dX9_steep_18 : decode cX9_steep 18 = .ok (.invokevirtual 286, 3) := by decide +kernel
theorem dX9_steep_21 : decode cX9_steep 21 = .ok (.aload_n 0, 1) := by decide +kernel
theorem dX9_steep_22 : decode cX9_steep 22 = .ok (.iload_n 1, 1) := by decide +kernel
theorem dX9_steep_23 : decode cX9_steep 23 = .ok (.invokevirtual 262, 3) := by decide +kernel
theorem dX9_steep_26 : decode cX9_steep 26 = .ok (.iconst (-1), 1) := by decide +kernel
theorem dX9_steep_27 : decode cX9_steep 27 = .ok (.istore_n 2, 1) := by decide +kernel
theorem dX9_steep_28 : decode cX9_steep 28 = .ok (.iconst 0, 1) := by decide +kernel
theorem dX9_steep_29 : decode cX9_steep 29 = .ok (.istore_n 3, 1) := by decide +kernel
theorem dX9_steep_30 : decode cX9_steep 30 = .ok (.iload_n 3, 1) := by decide +kernel
theorem dX9_steep_31 : decode cX9_steep 31 = .ok (.aload_n 0, 1) := by decide +kernel
theorem dX9_steep_32 : decode cX9_steep 32 = .ok (.getfield 250, 3) := by decide +kernel
theorem dX9_steep_35 : decode cX9_steep 35 = .ok (.if_icmp .ge 48, 3) := by decide +kernel
theorem dX9_steep_38 : decode cX9_steep 38 = .ok (.iload_n 2, 1) := by decide +kernel
theorem dX9_steep_39 : decode cX9_steep 39 = .ok (.iconst (-1), 1) := by decide +kernel
theorem dX9_steep_40 : decode cX9_steep 40 = .ok (.if_icmp .eq 35, 3) := by decide +kernel
theorem dX9_steep_43 : decode cX9_steep 43 = .ok (.aload_n 0, 1) := by decide +kernel
theorem dX9_steep_44 : decode cX9_steep 44 = .ok (.getfield 50, 3) := by decide +kernel
theorem dX9_steep_47 : decode cX9_steep 47 = .ok (.iload_n 3, 1) := by decide +kernel
theorem dX9_steep_48 : decode cX9_steep 48 = .ok (.iaload, 1) := by decide +kernel
theorem dX9_steep_49 : decode cX9_steep 49 = .ok (.i2l, 1) := by decide +kernel
theorem dX9_steep_50 : decode cX9_steep 50 = .ok (.aload_n 0, 1) := by decide +kernel
theorem dX9_steep_51 : decode cX9_steep 51 = .ok (.getfield 59, 3) := by decide +kernel
theorem dX9_steep_54 : decode cX9_steep 54 = .ok (.iload_n 3, 1) := by decide +kernel
theorem dX9_steep_55 : decode cX9_steep 55 = .ok (.laload, 1) := by decide +kernel
theorem dX9_steep_56 : decode cX9_steep 56 = .ok (.lmul, 1) := by decide +kernel
theorem dX9_steep_57 : decode cX9_steep 57 = .ok (.aload_n 0, 1) := by decide +kernel
theorem dX9_steep_58 : decode cX9_steep 58 = .ok (.getfield 50, 3) := by decide +kernel
theorem dX9_steep_61 : decode cX9_steep 61 = .ok (.iload_n 2, 1) := by decide +kernel
theorem dX9_steep_62 : decode cX9_steep 62 = .ok (.iaload, 1) := by decide +kernel
theorem dX9_steep_63 : decode cX9_steep 63 = .ok (.i2l, 1) := by decide +kernel
theorem dX9_steep_64 : decode cX9_steep 64 = .ok (.aload_n 0, 1) := by decide +kernel
theorem dX9_steep_65 : decode cX9_steep 65 = .ok (.getfield 59, 3) := by decide +kernel
theorem dX9_steep_68 : decode cX9_steep 68 = .ok (.iload_n 2, 1) := by decide +kernel
theorem dX9_steep_69 : decode cX9_steep 69 = .ok (.laload, 1) := by decide +kernel
theorem dX9_steep_70 : decode cX9_steep 70 = .ok (.lmul, 1) := by decide +kernel
theorem dX9_steep_71 : decode cX9_steep 71 = .ok (.lcmp, 1) := by decide +kernel
theorem dX9_steep_72 : decode cX9_steep 72 = .ok (.ifCond .le 5, 3) := by decide +kernel
theorem dX9_steep_75 : decode cX9_steep 75 = .ok (.iload_n 3, 1) := by decide +kernel
theorem dX9_steep_76 : decode cX9_steep 76 = .ok (.istore_n 2, 1) := by decide +kernel
theorem dX9_steep_77 : decode cX9_steep 77 = .ok (.iinc 3 1, 3) := by decide +kernel
theorem dX9_steep_80 : decode cX9_steep 80 = .ok (.goto (-50), 3) := by decide +kernel
theorem dX9_steep_83 : decode cX9_steep 83 = .ok (.iload_n 2, 1) := by decide +kernel
theorem dX9_steep_84 : decode cX9_steep 84 = .ok (.ireturn, 1) := by decide +kernel
theorem dX9_strong_0 : decode cX9_strong 0 = .ok (.aload_n 0, 1) := by decide +kernel
theorem dX9_strong_1 : decode cX9_strong 1 = .ok (.iconst 0, 1) := by decide +kernel
theorem dX9_strong_2 : decode cX9_strong 2 = .ok (.putfield 68, 3) := by decide +kernel
theorem dX9_strong_5 : decode cX9_strong 5 = .ok (.aload_n 0, 1) := by decide +kernel
theorem dX9_strong_6 : decode cX9_strong 6 = .ok (.invokevirtual 219, 3) := by decide +kernel
theorem dX9_strong_9 : decode cX9_strong 9 = .ok (.ifCond .eq 11, 3) := by decide +kernel
theorem dX9_strong_12 : decode cX9_strong 12 = .ok (.aload_n 0, 1) := by decide +kernel
theorem dX9_strong_13 : decode cX9_strong 13 = .ok (.iconst 1, 1) := by decide +kernel
theorem dX9_strong_14 : decode cX9_strong 14 = .ok (.invokevirtual 328, 3) := by decide +kernel
theorem dX9_strong_17 : decode cX9_strong 17 = .ok (.goto 5, 3) := by decide +kernel
theorem dX9_strong_20 : decode cX9_strong 20 = .ok (.bipush (-2), 2) := by decide +kernel
theorem dX9_strong_22 : decode cX9_strong 22 = .ok (.ireturn, 1) := by decide +kernel
theorem dX9_sum_0 : decode cX9_sum 0 = .ok (.aload_n 0, 1) := by decide +kernel
theorem dX9_sum_1 : decode cX9_sum 1 = .ok (.iconst 0, 1) := by decide +kernel
theorem dX9_sum_2 : decode cX9_sum 2 = .ok (.putfield 68, 3) := by decide +kernel
theorem dX9_sum_5 : decode cX9_sum 5 = .ok (.aload_n 0, 1) := by decide +kernel
theorem dX9_sum_6 : decode cX9_sum 6 = .ok (.invokevirtual 219, 3) := by decide +kernel
theorem dX9_sum_9 : decode cX9_sum 9 = .ok (.ifCond .ne 6, 3) := by decide +kernel
theorem dX9_sum_12 : decode cX9_sum 12 = .ok (.bipush (-2), 2) := by decide +kernel
theorem dX9_sum_14 : decode cX9_sum 14 = .ok (.ireturn, 1) := by decide +kernel
theorem dX9_sum_15 : decode cX9_sum 15 = .ok (.aload_n 0, 1) := by decide +kernel
theorem dX9_sum_16 : decode cX9_sum 16 = .ok (.invokevirtual 286, 3) := by decide +kernel
theorem dX9_sum_19 : decode cX9_sum 19 = .ok (.aload_n 0, 1) := by decide +kernel
theorem dX9_sum_20 : decode cX9_sum 20 = .ok (.invokevirtual 314, 3) := by decide +kernel
theorem dX9_sum_23 : decode cX9_sum 23 = .ok (.ireturn, 1) := by decide +kernel
theorem dX9_sumBy_0 : decode cX9_sumBy 0 = .ok (.aload_n 0, 1) := by decide +kernel
theorem dX9_sumBy_1 : decode cX9_sumBy 1 = .ok (.invokevirtual 286, 3) := by decide +kernel
theorem dX9_sumBy_4 : decode cX9_sumBy 4 = .ok (.aload_n 0, 1) := by decide +kernel
theorem dX9_sumBy_5 : decode cX9_sumBy 5 = .ok (.iload_n 1, 1) := by decide +kernel
theorem dX9_sumBy_6 : decode cX9_sumBy 6 = .ok (.putfield 225, 3) := by decide +kernel
theorem dX9_sumBy_9 : decode cX9_sumBy 9 = .ok (.aload_n 0, 1) := by decide +kernel
theorem dX9_sumBy_10 : decode cX9_sumBy 10 = .ok (.invokevirtual 314, 3) := by decide +kernel
theorem dX9_sumBy_13 : decode cX9_sumBy 13 = .ok (.ireturn, 1) := by decide +kernel
theorem dX9_sumNow_0 : decode cX9_sumNow 0 = .ok (.iconst 0, 1) := by decide +kernel
theorem dX9_sumNow_1 : decode cX9_sumNow 1 = .ok (.istore_n 1, 1) := by decide +kernel
theorem dX9_sumNow_2 : decode cX9_sumNow 2 = .ok (.iconst 0, 1) := by decide +kernel
theorem dX9_sumNow_3 : decode cX9_sumNow 3 = .ok (.istore_n 2, 1) := by decide +kernel
theorem dX9_sumNow_4 : decode cX9_sumNow 4 = .ok (.iload_n 2, 1) := by decide +kernel
theorem dX9_sumNow_5 : decode cX9_sumNow 5 = .ok (.aload_n 0, 1) := by decide +kernel
theorem dX9_sumNow_6 : decode cX9_sumNow 6 = .ok (.invokevirtual 222, 3) := by decide +kernel
theorem dX9_sumNow_9 : decode cX9_sumNow 9 = .ok (.if_icmp .gt 20, 3) := by decide +kernel
theorem dX9_sumNow_12 : decode cX9_sumNow 12 = .ok (.iload_n 1, 1) := by decide +kernel
theorem dX9_sumNow_13 : decode cX9_sumNow 13 = .ok (.aload_n 0, 1) := by decide +kernel
theorem dX9_sumNow_14 : decode cX9_sumNow 14 = .ok (.iload_n 2, 1) := by decide +kernel
theorem dX9_sumNow_15 : decode cX9_sumNow 15 = .ok (.invokevirtual 271, 3) := by decide +kernel
theorem dX9_sumNow_18 : decode cX9_sumNow 18 = .ok (.invokestatic 274, 3) := by decide +kernel
theorem dX9_sumNow_21 : decode cX9_sumNow 21 = .ok (.iadd, 1) := by decide +kernel
theorem dX9_sumNow_22 : decode cX9_sumNow 22 = .ok (.istore_n 1, 1) := by decide +kernel
theorem dX9_sumNow_23 : decode cX9_sumNow 23 = .ok (.iinc 2 1, 3) := by decide +kernel
theorem dX9_sumNow_26 : decode cX9_sumNow 26 = .ok (.goto (-22), 3) := by decide +kernel
theorem dX9_sumNow_29 : decode cX9_sumNow 29 = .ok (.iload_n 1, 1) := by decide +kernel
theorem dX9_sumNow_30 : decode cX9_sumNow 30 = .ok (.ireturn, 1) := by decide +kernel
theorem dX9_takesWord_0 : decode cX9_takesWord 0 = .ok (.aload_n 0, 1) := by decide +kernel
theorem dX9_takesWord_1 : decode cX9_takesWord 1 = .ok (.lload_n 1, 1) := by decide +kernel
theorem dX9_takesWord_2 : decode cX9_takesWord 2 = .ok (.invokevirtual 126, 3) := by decide +kernel
theorem dX9_takesWord_5 : decode cX9_takesWord 5 = .ok (.ifCond .ne 5, 3) := by decide +kernel
theorem dX9_takesWord_8 : decode cX9_takesWord 8 = .ok (.iconst 0, 1) := by decide +kernel
theorem dX9_takesWord_9 : decode cX9_takesWord 9 = .ok (.ireturn, 1) := by decide +kernel
theorem dX9_takesWord_10 : decode cX9_takesWord 10 = .ok (.aload_n 0, 1) := by decide +kernel
theorem dX9_takesWord_11 : decode cX9_takesWord 11 = .ok (.invokevirtual 130, 3) := by decide +kernel
theorem dX9_takesWord_14 : decode cX9_takesWord 14 = .ok (.iconst 1, 1) := by decide +kernel
theorem dX9_takesWord_15 : decode cX9_takesWord 15 = .ok (.ireturn, 1) := by decide +kernel
theorem dX9_tells_0 : decode cX9_tells 0 = .ok (.aload_n 0, 1) := by decide +kernel
theorem dX9_tells_1 : decode cX9_tells 1 = .ok (.getfield 34, 3) := by decide +kernel
theorem dX9_tells_4 : decode cX9_tells 4 = .ok (.bipush 28, 2) := by decide +kernel
theorem dX9_tells_6 : decode cX9_tells 6 = .ok (.iload_n 1, 1) := by decide +kernel
theorem dX9_tells_7 : decode cX9_tells 7 = .ok (.iadd, 1) := by decide +kernel
theorem dX9_tells_8 : decode cX9_tells 8 = .ok (.iload_n 2, 1) := by decide +kernel
theorem dX9_tells_9 : decode cX9_tells 9 = .ok (.iastore, 1) := by decide +kernel
