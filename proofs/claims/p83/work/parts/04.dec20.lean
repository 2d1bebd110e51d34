theorem dX9_leakOf_130 : decode cX9_leakOf 130 = .ok (.iload_n 2, 1) := by decide +kernel
theorem dX9_leakOf_131 : decode cX9_leakOf 131 = .ok (.if_icmp .gt 31, 3) := by decide +kernel
theorem dX9_leakOf_134 : decode cX9_leakOf 134 = .ok (.iload 5, 2) := by decide +kernel
theorem dX9_leakOf_136 : decode cX9_leakOf 136 = .ok (.aload_n 0, 1) := by decide +kernel
theorem dX9_leakOf_137 : decode cX9_leakOf 137 = .ok (.getfield 228, 3) := by decide +kernel
theorem dX9_leakOf_140 : decode cX9_leakOf 140 = .ok (.iload 6, 2) := by decide +kernel
theorem dX9_leakOf_142 : decode cX9_leakOf 142 = .ok (.invokestatic 240, 3) := by decide +kernel
theorem dX9_leakOf_145 : decode cX9_leakOf 145 = .ok (.ifCond .eq 7, 3) := by decide +kernel
theorem dX9_leakOf_148 : decode cX9_leakOf 148 = .ok (.iconst 1, 1) := by decide +kernel
theorem dX9_leakOf_149 : decode cX9_leakOf 149 = .ok (.goto 4, 3) := by decide +kernel
theorem dX9_leakOf_152 : decode cX9_leakOf 152 = .ok (.iconst 0, 1) := by decide +kernel
theorem dX9_leakOf_153 : decode cX9_leakOf 153 = .ok (.iadd, 1) := by decide +kernel
theorem dX9_leakOf_154 : decode cX9_leakOf 154 = .ok (.istore 5, 2) := by decide +kernel
theorem dX9_leakOf_156 : decode cX9_leakOf 156 = .ok (.iinc 6 1, 3) := by decide +kernel
theorem dX9_leakOf_159 : decode cX9_leakOf 159 = .ok (.goto (-31), 3) := by decide +kernel
theorem dX9_leakOf_162 : decode cX9_leakOf 162 = .ok (.iconst 1, 1) := by decide +kernel
theorem dX9_leakOf_163 : decode cX9_leakOf 163 = .ok (.iload 4, 2) := by decide +kernel
theorem dX9_leakOf_165 : decode cX9_leakOf 165 = .ok (.iload 5, 2) := by decide +kernel
theorem dX9_leakOf_167 : decode cX9_leakOf 167 = .ok (.isub, 1) := by decide +kernel
theorem dX9_leakOf_168 : decode cX9_leakOf 168 = .ok (.invokestatic 244, 3) := by decide +kernel
theorem dX9_leakOf_171 : decode cX9_leakOf 171 = .ok (.ireturn, 1) := by decide +kernel
theorem dX9_leaves_0 : decode cX9_leaves 0 = .ok (.aload_n 0, 1) := by decide +kernel
theorem dX9_leaves_1 : decode cX9_leaves 1 = .ok (.iconst 0, 1) := by decide +kernel
theorem dX9_leaves_2 : decode cX9_leaves 2 = .ok (.putfield 68, 3) := by decide +kernel
theorem dX9_leaves_5 : decode cX9_leaves 5 = .ok (.aload_n 0, 1) := by decide +kernel
theorem dX9_leaves_6 : decode cX9_leaves 6 = .ok (.iload_n 1, 1) := by decide +kernel
theorem dX9_leaves_7 : decode cX9_leaves 7 = .ok (.aload_n 0, 1) := by decide +kernel
theorem dX9_leaves_8 : decode cX9_leaves 8 = .ok (.iload_n 2, 1) := by decide +kernel
theorem dX9_leaves_9 : decode cX9_leaves 9 = .ok (.invokevirtual 216, 3) := by decide +kernel
theorem dX9_leaves_12 : decode cX9_leaves 12 = .ok (.invokevirtual 358, 3) := by decide +kernel
theorem dX9_leaves_15 : decode cX9_leaves 15 = .ok (.istore_n 3, 1) := by decide +kernel
theorem dX9_leaves_16 : decode cX9_leaves 16 = .ok (.iload_n 3, 1) := by decide +kernel
theorem dX9_leaves_17 : decode cX9_leaves 17 = .ok (.ifCond .eq 5, 3) := by decide +kernel
theorem dX9_leaves_20 : decode cX9_leaves 20 = .ok (.iload_n 3, 1) := by decide +kernel
theorem dX9_leaves_21 : decode cX9_leaves 21 = .ok (.ireturn, 1) := by decide +kernel
theorem dX9_leaves_22 : decode cX9_leaves 22 = .ok (.aload_n 0, 1) := by decide +kernel
theorem dX9_leaves_23 : decode cX9_leaves 23 = .ok (.iload_n 1, 1) := by decide +kernel
theorem dX9_leaves_24 : decode cX9_leaves 24 = .ok (.iload_n 2, 1) := by decide +kernel
theorem dX9_leaves_25 : decode cX9_leaves 25 = .ok (.invokevirtual 362, 3) := by decide +kernel
theorem dX9_leaves_28 : decode cX9_leaves 28 = .ok (.aload_n 0, 1) := by decide +kernel
theorem dX9_leaves_29 : decode cX9_leaves 29 = .ok (.getfield 352, 3) := by decide +kernel
theorem dX9_leaves_32 : decode cX9_leaves 32 = .ok (.ireturn, 1) := by decide +kernel
theorem dX9_lineHere_0 : decode cX9_lineHere 0 = .ok (.aload_n 0, 1) := by decide +kernel
theorem dX9_lineHere_1 : decode cX9_lineHere 1 = .ok (.aload_n 0, 1) := by decide +kernel
theorem dX9_lineHere_2 : decode cX9_lineHere 2 = .ok (.ldc2_w 165, 3) := by decide +kernel
theorem dX9_lineHere_5 : decode cX9_lineHere 5 = .ok (.invokevirtual 126, 3) := by decide +kernel
theorem dX9_lineHere_8 : decode cX9_lineHere 8 = .ok (.iconst 4, 1) := by decide +kernel
theorem dX9_lineHere_9 : decode cX9_lineHere 9 = .ok (.iconst 5, 1) := by decide +kernel
theorem dX9_lineHere_10 : decode cX9_lineHere 10 = .ok (.invokevirtual 167, 3) := by decide +kernel
theorem dX9_lineHere_13 : decode cX9_lineHere 13 = .ok (.ifCond .eq 10, 3) := by decide +kernel
theorem dX9_lineHere_16 : decode cX9_lineHere 16 = .ok (.aload_n 0, 1) := by decide +kernel
theorem dX9_lineHere_17 : decode cX9_lineHere 17 = .ok (.invokevirtual 171, 3) := by decide +kernel
theorem dX9_lineHere_20 : decode cX9_lineHere 20 = .ok (.goto 74, 3) := by decide +kernel
theorem dX9_lineHere_23 : decode cX9_lineHere 23 = .ok (.aload_n 0, 1) := by decide +kernel
theorem dX9_lineHere_24 : decode cX9_lineHere 24 = .ok (.getfield 120, 3) := by decide +kernel
theorem dX9_lineHere_27 : decode cX9_lineHere 27 = .ok (.ifCond .ne 55, 3) := by decide +kernel
theorem dX9_lineHere_30 : decode cX9_lineHere 30 = .ok (.aload_n 0, 1) := by decide +kernel
theorem dX9_lineHere_31 : decode cX9_lineHere 31 = .ok (.aload_n 0, 1) := by decide +kernel
theorem dX9_lineHere_32 : decode cX9_lineHere 32 = .ok (.ldc2_w 174, 3) := by decide +kernel
theorem dX9_lineHere_35 : decode cX9_lineHere 35 = .ok (.invokevirtual 126, 3) := by decide +kernel
theorem dX9_lineHere_38 : decode cX9_lineHere 38 = .ok (.iconst 5, 1) := by decide +kernel
theorem dX9_lineHere_39 : decode cX9_lineHere 39 = .ok (.bipush 8, 2) := by decide +kernel
theorem dX9_lineHere_41 : decode cX9_lineHere 41 = .ok (.invokevirtual 167, 3) := by decide +kernel
theorem dX9_lineHere_44 : decode cX9_lineHere 44 = .ok (.ifCond .eq 38, 3) := by decide +kernel
theorem dX9_lineHere_47 : decode cX9_lineHere 47 = .ok (.aload_n 0, 1) := by decide +kernel
theorem dX9_lineHere_48 : decode cX9_lineHere 48 = .ok (.getfield 40, 3) := by decide +kernel
theorem dX9_lineHere_51 : decode cX9_lineHere 51 = .ok (.bipush 32, 2) := by decide +kernel
theorem dX9_lineHere_53 : decode cX9_lineHere 53 = .ok (.aload_n 0, 1) := by decide +kernel
theorem dX9_lineHere_54 : decode cX9_lineHere 54 = .ok (.iconst 5, 1) := by decide +kernel
theorem dX9_lineHere_55 : decode cX9_lineHere 55 = .ok (.invokevirtual 150, 3) := by decide +kernel
theorem dX9_lineHere_58 : decode cX9_lineHere 58 = .ok (.iadd, 1) := by decide +kernel
theorem dX9_lineHere_59 : decode cX9_lineHere 59 = .ok (.aload_n 0, 1) := by decide +kernel
theorem dX9_lineHere_60 : decode cX9_lineHere 60 = .ok (.iconst 0, 1) := by decide +kernel
theorem dX9_lineHere_61 : decode cX9_lineHere 61 = .ok (.bipush 13, 2) := by decide +kernel
theorem dX9_lineHere_63 : decode cX9_lineHere 63 = .ok (.invokevirtual 143, 3) := by decide +kernel
theorem dX9_lineHere_66 : decode cX9_lineHere 66 = .ok (.iastore, 1) := by decide +kernel
theorem dX9_lineHere_67 : decode cX9_lineHere 67 = .ok (.aload_n 0, 1) := by decide +kernel
theorem dX9_lineHere_68 : decode cX9_lineHere 68 = .ok (.iconst 5, 1) := by decide +kernel
theorem dX9_lineHere_69 : decode cX9_lineHere 69 = .ok (.aload_n 0, 1) := by decide +kernel
theorem dX9_lineHere_70 : decode cX9_lineHere 70 = .ok (.iconst 5, 1) := by decide +kernel
theorem dX9_lineHere_71 : decode cX9_lineHere 71 = .ok (.invokevirtual 150, 3) := by decide +kernel
theorem dX9_lineHere_74 : decode cX9_lineHere 74 = .ok (.iconst 1, 1) := by decide +kernel
theorem dX9_lineHere_75 : decode cX9_lineHere 75 = .ok (.iadd, 1) := by decide +kernel
theorem dX9_lineHere_76 : decode cX9_lineHere 76 = .ok (.invokevirtual 161, 3) := by decide +kernel
theorem dX9_lineHere_79 : decode cX9_lineHere 79 = .ok (.goto 15, 3) := by decide +kernel
theorem dX9_lineHere_82 : decode cX9_lineHere 82 = .ok (.aload_n 0, 1) := by decide +kernel
theorem dX9_lineHere_83 : decode cX9_lineHere 83 = .ok (.getfield 120, 3) := by decide +kernel
theorem dX9_lineHere_86 : decode cX9_lineHere 86 = .ok (.ifCond .ne 8, 3) := by decide +kernel
theorem dX9_lineHere_89 : decode cX9_lineHere 89 = .ok (.aload_n 0, 1) := by decide +kernel
theorem dX9_lineHere_90 : decode cX9_lineHere 90 = .ok (.iconst 1, 1) := by decide +kernel
theorem dX9_lineHere_91 : decode cX9_lineHere 91 = .ok (.invokevirtual 136, 3) := by decide +kernel
theorem dX9_lineHere_94 : decode cX9_lineHere 94 = .ok (.return_, 1) := by decide +kernel
theorem dX9_longest_0 : decode cX9_longest 0 = .ok (.aload_n 0, 1) := by decide +kernel
theorem dX9_longest_1 : decode cX9_longest 1 = .ok (.iconst 0, 1) := by decide +kernel
theorem dX9_longest_2 : decode cX9_longest 2 = .ok (.putfield 68, 3) := by decide +kernel
theorem dX9_longest_5 : decode cX9_longest 5 = .ok (.aload_n 0, 1) := by decide +kernel
theorem dX9_longest_6 : decode cX9_longest 6 = .ok (.iload_n 1, 1) := by decide +kernel
theorem dX9_longest_7 : decode cX9_longest 7 = .ok (.invokevirtual 268, 3) := by decide +kernel
theorem dX9_longest_10 : decode cX9_longest 10 = .ok (.ifCond .ne 6, 3) := by decide +kernel
theorem dX9_longest_13 : decode cX9_longest 13 = .ok (.bipush (-2), 2) := by decide +kernel
theorem dX9_longest_15 : decode cX9_longest 15 = .ok (.ireturn, 1) := by decide +kernel
theorem dX9_longest_16 : decode cX9_longest 16 = .ok (.aload_n 0, 1) := by decide +kernel
theorem dX9_longest_17 : decode cX9_longest 17 = .ok (.invokevirtual 286, 3) := by decide +kernel
theorem dX9_longest_20 : decode cX9_longest 20 = .ok (.iconst 0, 1) := by decide +kernel
theorem dX9_longest_21 : decode cX9_longest 21 = .ok (.istore_n 2, 1) := by decide +kernel
theorem dX9_longest_22 : decode cX9_longest 22 = .ok (.iconst 0, 1) := by decide +kernel
theorem dX9_longest_23 : decode cX9_longest 23 = .ok (.istore_n 3, 1) := by decide +kernel
theorem dX9_longest_24 : decode cX9_longest 24 = .ok (.iconst 0, 1) := by decide +kernel
theorem dX9_longest_25 : decode cX9_longest 25 = .ok (.istore 4, 2) := by decide +kernel
theorem dX9_longest_27 : decode cX9_longest 27 = .ok (.iload 4, 2) := by decide +kernel
theorem dX9_longest_29 : decode cX9_longest 29 = .ok (.aload_n 0, 1) := by decide +kernel
theorem dX9_longest_30 : decode cX9_longest 30 = .ok (.invokevirtual 222, 3) := by decide +kernel
theorem dX9_longest_33 : decode cX9_longest 33 = .ok (.if_icmp .gt 33, 3) := by decide +kernel
theorem dX9_longest_36 : decode cX9_longest 36 = .ok (.aload_n 0, 1) := by decide +kernel
theorem dX9_longest_37 : decode cX9_longest 37 = .ok (.iload_n 1, 1) := by decide +kernel
theorem dX9_longest_38 : decode cX9_longest 38 = .ok (.iload 4, 2) := by decide +kernel
theorem dX9_longest_40 : decode cX9_longest 40 = .ok (.invokevirtual 308, 3) := by decide +kernel
theorem dX9_longest_43 : decode cX9_longest 43 = .ok (.ifCond .eq 9, 3) := by decide +kernel
theorem dX9_longest_46 : decode cX9_longest 46 = .ok (.iload_n 3, 1) := by decide +kernel
theorem dX9_longest_47 : decode cX9_longest 47 = .ok (.iconst 1, 1) := by decide +kernel
theorem dX9_longest_48 : decode cX9_longest 48 = .ok (.iadd, 1) := by decide +kernel
theorem dX9_longest_49 : decode cX9_longest 49 = .ok (.goto 4, 3) := by decide +kernel
theorem dX9_longest_52 : decode cX9_longest 52 = .ok (.iconst 0, 1) := by decide +kernel
theorem dX9_longest_53 : decode cX9_longest 53 = .ok (.istore_n 3, 1) := by decide +kernel
theorem dX9_longest_54 : decode cX9_longest 54 = .ok (.iload_n 2, 1) := by decide +kernel
theorem dX9_longest_55 : decode cX9_longest 55 = .ok (.iload_n 3, 1) := by decide +kernel
theorem dX9_longest_56 : decode cX9_longest 56 = .ok (.invokestatic 244, 3) := by decide +kernel
theorem dX9_longest_59 : decode cX9_longest 59 = .ok (.istore_n 2, 1) := by decide +kernel
theorem dX9_longest_60 : decode cX9_longest 60 = .ok (.iinc 4 1, 3) := by decide +kernel
theorem dX9_longest_63 : decode cX9_longest 63 = .ok (.goto (-36), 3) := by decide +kernel
theorem dX9_longest_66 : decode cX9_longest 66 = .ok (.iload_n 2, 1) := by decide +kernel
theorem dX9_longest_67 : decode cX9_longest 67 = .ok (.ireturn, 1) := by decide +kernel
theorem dX9_loud_0 : decode cX9_loud 0 = .ok (.aload_n 0, 1) := by decide +kernel
theorem dX9_loud_1 : decode cX9_loud 1 = .ok (.iconst 0, 1) := by decide +kernel
theorem dX9_loud_2 : decode cX9_loud 2 = .ok (.putfield 68, 3) := by decide +kernel
theorem dX9_loud_5 : decode cX9_loud 5 = .ok (.aload_n 0, 1) := by decide +kernel
theorem dX9_loud_6 : decode cX9_loud 6 = .ok (.iload_n 1, 1) := by decide +kernel
theorem dX9_loud_7 : decode cX9_loud 7 = .ok (.i2l, 1) := by decide +kernel
theorem dX9_loud_8 : decode cX9_loud 8 = .ok (.invokevirtual 289, 3) := by decide +kernel
theorem dX9_loud_11 : decode cX9_loud 11 = .ok (.ifCond .ne 6, 3) := by decide +kernel
theorem dX9_loud_14 : decode cX9_loud 14 = .ok (.bipush (-2), 2) := by decide +kernel
theorem dX9_loud_16 : decode cX9_loud 16 = .ok (.ireturn, 1) := by decide +kernel
theorem dX9_loud_17 : decode cX9_loud 17 = .ok (.aload_n 0, 1) := by decide +kernel
theorem dX9_loud_18 : decode cX9_loud 18 = .ok (.invokevirtual 286, 3) := by decide +kernel
theorem dX9_loud_21 : decode cX9_loud 21 = .ok (.aload_n 0, 1) := by decide +kernel
theorem dX9_loud_22 : decode cX9_loud 22 = .ok (.iload_n 1, 1) := by decide +kernel
theorem dX9_loud_23 : decode cX9_loud 23 = .ok (.invokevirtual 262, 3) := by decide +kernel
theorem dX9_loud_26 : decode cX9_loud 26 = .ok (.iconst (-1), 1) := by decide +kernel
theorem dX9_loud_27 : decode cX9_loud 27 = .ok (.istore_n 2, 1) := by decide +kernel
theorem dX9_loud_28 : decode cX9_loud 28 = .ok (.iconst 0, 1) := by decide +kernel
theorem dX9_loud_29 : decode cX9_loud 29 = .ok (.istore_n 3, 1) := by decide +kernel
theorem dX9_loud_30 : decode cX9_loud 30 = .ok (.iload_n 3, 1) := by decide +kernel
theorem dX9_loud_31 : decode cX9_loud 31 = .ok (.aload_n 0, 1) := by decide +kernel
theorem dX9_loud_32 : decode cX9_loud 32 = .ok (.invokevirtual 212, 3) := by decide +kernel
theorem dX9_loud_35 : decode cX9_loud 35 = .ok (.if_icmp .ge 38, 3) := by decide +kernel
theorem dX9_loud_38 : decode cX9_loud 38 = .ok (.aload_n 0, 1) := by decide +kernel
theorem dX9_loud_39 : decode cX9_loud 39 = .ok (.iload_n 3, 1) := by decide +kernel
theorem dX9_loud_40 : decode cX9_loud 40 = .ok (.invokevirtual 268, 3) := by decide +kernel
theorem dX9_loud_43 : decode cX9_loud 43 = .ok (.ifCond .eq 24, 3) := by decide +kernel
theorem dX9_loud_46 : decode cX9_loud 46 = .ok (.iload_n 2, 1) := by decide +kernel
theorem dX9_loud_47 : decode cX9_loud 47 = .ok (.iconst (-1), 1) := by decide +kernel
theorem dX9_loud_48 : decode cX9_loud 48 = .ok (.if_icmp .eq 17, 3) := by decide +kernel
theorem dX9_loud_51 : decode cX9_loud 51 = .ok (.aload_n 0, 1) := by decide +kernel
theorem dX9_loud_52 : decode cX9_loud 52 = .ok (.iload_n 3, 1) := by decide +kernel
theorem dX9_loud_53 : decode cX9_loud 53 = .ok (.invokevirtual 304, 3) := by decide +kernel
theorem dX9_loud_56 : decode cX9_loud 56 = .ok (.aload_n 0, 1) := by decide +kernel
theorem dX9_loud_57 : decode cX9_loud 57 = .ok (.iload_n 2, 1) := by decide +kernel
theorem dX9_loud_58 : decode cX9_loud 58 = .ok (.invokevirtual 304, 3) := by decide +kernel
theorem dX9_loud_61 : decode cX9_loud 61 = .ok (.lcmp, 1) := by decide +kernel
theorem dX9_loud_62 : decode cX9_loud 62 = .ok (.ifCond .le 5, 3) := by decide +kernel
theorem dX9_loud_65 : decode cX9_loud 65 = .ok (.iload_n 3, 1) := by decide +kernel
theorem dX9_loud_66 : decode cX9_loud 66 = .ok (.istore_n 2, 1) := by decide +kernel
theorem dX9_loud_67 : decode cX9_loud 67 = .ok (.iinc 3 1, 3) := by decide +kernel
theorem dX9_loud_70 : decode cX9_loud 70 = .ok (.goto (-40), 3) := by decide +kernel
theorem dX9_loud_73 : decode cX9_loud 73 = .ok (.iload_n 2, 1) := by decide +kernel
theorem dX9_loud_74 : decode cX9_loud 74 = .ok (.ireturn, 1) := by decide +kernel
theorem dX9_low_0 : decode cX9_low 0 = .ok (.aload_n 0, 1) := by decide +kernel
theorem dX9_low_1 : decode cX9_low 1 = .ok (.iconst 0, 1) := by decide +kernel
theorem dX9_low_2 : decode cX9_low 2 = .ok (.putfield 68, 3) := by decide +kernel
theorem dX9_low_5 : decode cX9_low 5 = .ok (.aload_n 0, 1) := by decide +kernel
theorem dX9_low_6 : decode cX9_low 6 = .ok (.iload_n 1, 1) := by decide +kernel
theorem dX9_low_7 : decode cX9_low 7 = .ok (.aload_n 0, 1) := by decide +kernel
theorem dX9_low_8 : decode cX9_low 8 = .ok (.iload_n 2, 1) := by decide +kernel
theorem dX9_low_9 : decode cX9_low 9 = .ok (.invokevirtual 216, 3) := by decide +kernel
theorem dX9_low_12 : decode cX9_low 12 = .ok (.invokevirtual 358, 3) := by decide +kernel
theorem dX9_low_15 : decode cX9_low 15 = .ok (.istore_n 3, 1) := by decide +kernel
theorem dX9_low_16 : decode cX9_low 16 = .ok (.iload_n 3, 1) := by decide +kernel
theorem dX9_low_17 : decode cX9_low 17 = .ok (.ifCond .eq 5, 3) := by decide +kernel
theorem dX9_low_20 : decode cX9_low 20 = .ok (.iload_n 3, 1) := by decide +kernel
theorem dX9_low_21 : decode cX9_low 21 = .ok (.ireturn, 1) := by decide +kernel
theorem dX9_low_22 : decode cX9_low 22 = .ok (.aload_n 0, 1) := by decide +kernel
theorem dX9_low_23 : decode cX9_low 23 = .ok (.iload_n 1, 1) := by decide +kernel
theorem dX9_low_24 : decode cX9_low 24 = .ok (.iload_n 2, 1) := by decide +kernel
theorem dX9_low_25 : decode cX9_low 25 = .ok (.invokevirtual 362, 3) := by decide +kernel
theorem dX9_low_28 : decode cX9_low 28 = .ok (.iconst 1, 1) := by decide +kernel
theorem dX9_low_29 : decode cX9_low 29 = .ok (.istore 4, 2) := by decide +kernel
theorem dX9_low_31 : decode cX9_low 31 = .ok (.iload 4, 2) := by decide +kernel
theorem dX9_low_33 : decode cX9_low 33 = .ok (.bipush 30, 2) := by decide +kernel
theorem dX9_low_35 : decode cX9_low 35 = .ok (.if_icmp .gt 24, 3) := by decide +kernel
theorem dX9_low_38 : decode cX9_low 38 = .ok (.aload_n 0, 1) := by decide +kernel
theorem dX9_low_39 : decode cX9_low 39 = .ok (.getfield 343, 3) := by decide +kernel
theorem dX9_low_42 : decode cX9_low 42 = .ok (.iload 4, 2) := by decide +kernel
theorem dX9_low_44 : decode cX9_low 44 = .ok (.invokestatic 240, 3) := by decide +kernel
theorem dX9_low_47 : decode cX9_low 47 = .ok (.ifCond .eq 6, 3) := by decide +kernel
theorem dX9_low_50 : decode cX9_low 50 = .ok (.iload 4, 2) := by decide +kernel
theorem dX9_low_52 : decode cX9_low 52 = .ok (.ireturn, 1) := by decide +kernel
theorem dX9_low_53 : decode cX9_low 53 = .ok (.iinc 4 1, 3) := by decide +kernel
theorem dX9_low_56 : decode cX9_low 56 = .ok (.goto (-25), 3) := by decide +kernel
theorem dX9_low_59 : decode cX9_low 59 = .ok (.iconst (-1), 1) := by decide +kernel
theorem dX9_low_60 : decode cX9_low 60 = .ok (.ireturn, 1) := by decide +kernel
theorem dX9_luck_0 : decode cX9_luck 0 = .ok (.aload_n 0, 1) := by decide +kernel
theorem dX9_luck_1 : decode cX9_luck 1 = .ok (.iconst 0, 1) := by decide +kernel
theorem dX9_luck_2 : decode cX9_luck 2 = .ok (.putfield 68, 3) := by decide +kernel
theorem dX9_luck_5 : decode cX9_luck 5 = .ok (.iload_n 1, 1) := by decide +kernel
theorem dX9_luck_6 : decode cX9_luck 6 = .ok (.invokestatic 401, 3) := by decide +kernel
theorem dX9_luck_9 : decode cX9_luck 9 = .ok (.ifCond .eq 23, 3) := by decide +kernel
theorem dX9_luck_12 : decode cX9_luck 12 = .ok (.iload_n 2, 1) := by decide +kernel
theorem dX9_luck_13 : decode cX9_luck 13 = .ok (.i2l, 1) := by decide +kernel
theorem dX9_luck_14 : decode cX9_luck 14 = .ok (.lconst 1, 1) := by decide +kernel
theorem dX9_luck_15 : decode cX9_luck 15 = .ok (.ldc2_w 407, 3) := by decide +kernel
theorem dX9_luck_18 : decode cX9_luck 18 = .ok (.invokestatic 73, 3) := by decide +kernel
theorem dX9_luck_21 : decode cX9_luck 21 = .ok (.ifCond .eq 11, 3) := by decide +kernel
theorem dX9_luck_24 : decode cX9_luck 24 = .ok (.aload_n 0, 1) := by decide +kernel
theorem dX9_luck_25 : decode cX9_luck 25 = .ok (.iload_n 3, 1) := by decide +kernel
theorem dX9_luck_26 : decode cX9_luck 26 = .ok (.invokevirtual 268, 3) := by decide +kernel
theorem dX9_luck_29 : decode cX9_luck 29 = .ok (.ifCond .ne 6, 3) := by decide +kernel
theorem dX9_luck_32 : decode cX9_luck 32 = .ok (.bipush (-2), 2) := by decide +kernel
theorem dX9_luck_34 : decode cX9_luck 34 = .ok (.ireturn, 1) := by decide +kernel
theorem dX9_luck_35 : decode cX9_luck 35 = .ok (.iconst 0, 1) := by decide +kernel
theorem dX9_luck_36 : decode cX9_luck 36 = .ok (.istore 4, 2) := by decide +kernel
theorem dX9_luck_38 : decode cX9_luck 38 = .ok (.iconst 0, 1) := by decide +kernel
theorem dX9_luck_39 : decode cX9_luck 39 = .ok (.istore 5, 2) := by decide +kernel
theorem dX9_luck_41 : decode cX9_luck 41 = .ok (.iload 5, 2) := by decide +kernel
theorem dX9_luck_43 : decode cX9_luck 43 = .ok (.iload_n 2, 1) := by decide +kernel
theorem dX9_luck_44 : decode cX9_luck 44 = .ok (.if_icmp .ge 41, 3) := by decide +kernel
theorem dX9_luck_47 : decode cX9_luck 47 = .ok (.aload_n 0, 1) := by decide +kernel
theorem dX9_luck_48 : decode cX9_luck 48 = .ok (.iload_n 1, 1) := by decide +kernel
theorem dX9_luck_49 : decode cX9_luck 49 = .ok (.i2l, 1) := by decide +kernel
theorem dX9_luck_50 : decode cX9_luck 50 = .ok (.iload 5, 2) := by decide +kernel
theorem dX9_luck_52 : decode cX9_luck 52 = .ok (.i2l, 1) := by decide +kernel
theorem dX9_luck_53 : decode cX9_luck 53 = .ok (.ladd, 1) := by decide +kernel
theorem dX9_luck_54 : decode cX9_luck 54 = .ok (.invokevirtual 404, 3) := by decide +kernel
theorem dX9_luck_57 : decode cX9_luck 57 = .ok (.iload 4, 2) := by decide +kernel
theorem dX9_luck_59 : decode cX9_luck 59 = .ok (.aload_n 0, 1) := by decide +kernel
theorem dX9_luck_60 : decode cX9_luck 60 = .ok (.iload_n 3, 1) := by decide +kernel
theorem dX9_luck_61 : decode cX9_luck 61 = .ok (.aload_n 0, 1) := by decide +kernel
theorem dX9_luck_62 : decode cX9_luck 62 = .ok (.invokevirtual 222, 3) := by decide +kernel
theorem dX9_luck_65 : decode cX9_luck 65 = .ok (.invokevirtual 308, 3) := by decide +kernel
theorem dX9_luck_68 : decode cX9_luck 68 = .ok (.ifCond .eq 7, 3) := by decide +kernel
theorem dX9_luck_71 : decode cX9_luck 71 = .ok (.iconst 1, 1) := by decide +kernel
theorem dX9_luck_72 : decode cX9_luck 72 = .ok (.goto 4, 3) := by decide +kernel
theorem dX9_luck_75 : decode cX9_luck 75 = .ok (.iconst 0, 1) := by decide +kernel
theorem dX9_luck_76 : decode cX9_luck 76 = .ok (.iadd, 1) := by decide +kernel
theorem dX9_luck_77 : decode cX9_luck 77 = .ok (.istore 4, 2) := by decide +kernel
theorem dX9_luck_79 : decode cX9_luck 79 = .ok (.iinc 5 1, 3) := by decide +kernel
theorem dX9_luck_82 : decode cX9_luck 82 = .ok (.goto (-41), 3) := by decide +kernel
theorem dX9_luck_85 : decode cX9_luck 85 = .ok (.iload 4, 2) := by decide +kernel
theorem dX9_luck_87 : decode cX9_luck 87 = .ok (.ireturn, 1) := by decide +kernel
theorem dX9_margin_0 : decode cX9_margin 0 = .ok (.aload_n 0, 1) := by decide +kernel
theorem dX9_margin_1 : decode cX9_margin 1 = .ok (.iconst 0, 1) := by decide +kernel
theorem dX9_margin_2 : decode cX9_margin 2 = .ok (.putfield 68, 3) := by decide +kernel
theorem dX9_margin_5 : decode cX9_margin 5 = .ok (.aload_n 0, 1) := by decide +kernel
theorem dX9_margin_6 : decode cX9_margin 6 = .ok (.iload_n 1, 1) := by decide +kernel
theorem dX9_margin_7 : decode cX9_margin 7 = .ok (.invokevirtual 268, 3) := by decide +kernel
theorem dX9_margin_10 : decode cX9_margin 10 = .ok (.ifCond .eq 12, 3) := by decide +kernel
theorem dX9_margin_13 : decode cX9_margin 13 = .ok (.aload_n 0, 1) := by decide +kernel
theorem dX9_margin_14 : decode cX9_margin 14 = .ok (.iload_n 2, 1) := by decide +kernel
theorem dX9_margin_15 : decode cX9_margin 15 = .ok (.i2l, 1) := by decide +kernel
theorem dX9_margin_16 : decode cX9_margin 16 = .ok (.invokevirtual 289, 3) := by decide +kernel
theorem dX9_margin_19 : decode cX9_margin 19 = .ok (.ifCond .ne 6, 3) := by decide +kernel
theorem dX9_margin_22 : decode cX9_margin 22 = .ok (.bipush (-2), 2) := by decide +kernel
theorem dX9_margin_24 : decode cX9_margin 24 = .ok (.ireturn, 1) := by decide +kernel
theorem dX9_margin_25 : decode cX9_margin 25 = .ok (.aload_n 0, 1) := by decide +kernel
theorem dX9_margin_26 : decode cX9_margin 26 = .ok (.invokevirtual 286, 3) := by decide +kernel
theorem dX9_margin_29 : decode cX9_margin 29 = .ok (.aload_n 0, 1) := by decide +kernel
theorem dX9_margin_30 : decode cX9_margin 30 = .ok (.iload_n 2, 1) := by decide +kernel
theorem dX9_margin_31 : decode cX9_margin 31 = .ok (.invokevirtual 262, 3) := by decide +kernel
theorem dX9_margin_34 : decode cX9_margin 34 = .ok (.iconst 0, 1) := by decide +kernel
theorem dX9_margin_35 : decode cX9_margin 35 = .ok (.aload_n 0, 1) := by decide +kernel
theorem dX9_margin_36 : decode cX9_margin 36 = .ok (.getfield 237, 3) := by decide +kernel
theorem dX9_margin_39 : decode cX9_margin 39 = .ok (.i2l, 1) := by decide +kernel
theorem dX9_margin_40 : decode cX9_margin 40 = .ok (.aload_n 0, 1) := by decide +kernel
theorem dX9_margin_41 : decode cX9_margin 41 = .ok (.iload_n 1, 1) := by decide +kernel
theorem dX9_margin_42 : decode cX9_margin 42 = .ok (.invokevirtual 304, 3) := by decide +kernel
theorem dX9_margin_45 : decode cX9_margin 45 = .ok (.lmul, 1) := by decide +kernel
theorem dX9_margin_46 : decode cX9_margin 46 = .ok (.aload_n 0, 1) := by decide +kernel
theorem dX9_margin_47 : decode cX9_margin 47 = .ok (.getfield 259, 3) := by decide +kernel
theorem dX9_margin_50 : decode cX9_margin 50 = .ok (.ldiv, 1) := by decide +kernel
theorem dX9_margin_51 : decode cX9_margin 51 = .ok (.l2i, 1) := by decide +kernel
theorem dX9_margin_52 : decode cX9_margin 52 = .ok (.aload_n 0, 1) := by decide +kernel
theorem dX9_margin_53 : decode cX9_margin 53 = .ok (.getfield 37, 3) := by decide +kernel
theorem dX9_margin_56 : decode cX9_margin 56 = .ok (.iconst 3, 1) := by decide +kernel
theorem dX9_margin_57 : decode cX9_margin 57 = .ok (.iload_n 1, 1) := by decide +kernel
theorem dX9_margin_58 : decode cX9_margin 58 = .ok (.imul, 1) := by decide +kernel
theorem dX9_margin_59 : decode cX9_margin 59 = .ok (.iconst 2, 1) := by decide +kernel
theorem dX9_margin_60 : decode cX9_margin 60 = .ok (.iadd, 1) := by decide +kernel
theorem dX9_margin_61 : decode cX9_margin 61 = .ok (.iaload, 1) := by decide +kernel
theorem dX9_margin_62 : decode cX9_margin 62 = .ok (.isub, 1) := by decide +kernel
theorem dX9_margin_63 : decode cX9_margin 63 = .ok (.invokestatic 244, 3) := by decide +kernel
theorem dX9_margin_66 : decode cX9_margin 66 = .ok (.ireturn, 1) := by decide +kernel
theorem dX9_mean_0 : decode cX9_mean 0 = .ok (.aload_n 0, 1) := by decide +kernel
theorem dX9_mean_1 : decode cX9_mean 1 = .ok (.iconst 0, 1) := by decide +kernel
theorem dX9_mean_2 : decode cX9_mean 2 = .ok (.putfield 68, 3) := by decide +kernel
theorem dX9_mean_5 : decode cX9_mean 5 = .ok (.aload_n 0, 1) := by decide +kernel
theorem dX9_mean_6 : decode cX9_mean 6 = .ok (.iload_n 1, 1) := by decide +kernel
theorem dX9_mean_7 : decode cX9_mean 7 = .ok (.invokevirtual 384, 3) := by decide +kernel
theorem dX9_mean_10 : decode cX9_mean 10 = .ok (.ifCond .eq 32, 3) := by decide +kernel
theorem dX9_mean_13 : decode cX9_mean 13 = .ok (.iload_n 2, 1) := by decide +kernel
theorem dX9_mean_14 : decode cX9_mean 14 = .ok (.invokestatic 292, 3) := by decide +kernel
theorem dX9_mean_17 : decode cX9_mean 17 = .ok (.ifCond .eq 25, 3) := by decide +kernel
theorem dX9_mean_20 : decode cX9_mean 20 = .ok (.aload_n 0, 1) := by decide +kernel
theorem dX9_mean_21 : decode cX9_mean 21 = .ok (.iconst (-1), 1) := by decide +kernel
theorem dX9_mean_22 : decode cX9_mean 22 = .ok (.iload_n 1, 1) := by decide +kernel
theorem dX9_mean_23 : decode cX9_mean 23 = .ok (.invokevirtual 387, 3) := by decide +kernel
theorem dX9_mean_26 : decode cX9_mean 26 = .ok (.ldc2_w 382, 3) := by decide +kernel
theorem dX9_mean_29 : decode cX9_mean 29 = .ok (.iload_n 1, 1) := by decide +kernel
theorem dX9_mean_30 : decode cX9_mean 30 = .ok (.iconst 1, 1) := by decide +kernel
theorem dX9_mean_31 : decode cX9_mean 31 = .ok (.iadd, 1) := by decide +kernel
theorem dX9_mean_32 : decode cX9_mean 32 = .ok (.invokestatic 379, 3) := by decide +kernel
theorem dX9_mean_35 : decode cX9_mean 35 = .ok (.iload_n 2, 1) := by decide +kernel
theorem dX9_mean_36 : decode cX9_mean 36 = .ok (.invokestatic 297, 3) := by decide +kernel
theorem dX9_mean_39 : decode cX9_mean 39 = .ok (.goto 6, 3) := by decide +kernel
theorem dX9_mean_42 : decode cX9_mean 42 = .ok (.ldc2_w 295, 3) := by decide +kernel
theorem dX9_mean_45 : decode cX9_mean 45 = .ok (.lreturn, 1) := by decide +kernel
theorem dX9_moreOf_0 : decode cX9_moreOf 0 = .ok (.iload_n 0, 1) := by decide +kernel
theorem dX9_moreOf_1 : decode cX9_moreOf 1 = .ok (.iload_n 1, 1) := by decide +kernel
theorem dX9_moreOf_2 : decode cX9_moreOf 2 = .ok (.if_icmp .le 7, 3) := by decide +kernel
theorem dX9_moreOf_5 : decode cX9_moreOf 5 = .ok (.iload_n 0, 1) := by decide +kernel
theorem dX9_moreOf_6 : decode cX9_moreOf 6 = .ok (.goto 4, 3) := by decide +kernel
theorem dX9_moreOf_9 : decode cX9_moreOf 9 = .ok (.iload_n 1, 1) := by decide +kernel
theorem dX9_moreOf_10 : decode cX9_moreOf 10 = .ok (.ireturn, 1) := by decide +kernel
theorem dX9_mute_0 : decode cX9_mute 0 = .ok (.aload_n 0, 1) := by decide +kernel
theorem dX9_mute_1 : decode cX9_mute 1 = .ok (.iconst 0, 1) := by decide +kernel
theorem dX9_mute_2 : decode cX9_mute 2 = .ok (.putfield 68, 3) := by decide +kernel
theorem dX9_mute_5 : decode cX9_mute 5 = .ok (.aload_n 0, 1) := by decide +kernel
theorem dX9_mute_6 : decode cX9_mute 6 = .ok (.invokevirtual 219, 3) := by decide +kernel
theorem dX9_mute_9 : decode cX9_mute 9 = .ok (.ifCond .ne 6, 3) := by decide +kernel
theorem dX9_mute_12 : decode cX9_mute 12 = .ok (.bipush (-2), 2) := by decide +kernel
theorem dX9_mute_14 : decode cX9_mute 14 = .ok (.ireturn, 1) := by decide +kernel
theorem dX9_mute_15 : decode cX9_mute 15 = .ok (.aload_n 0, 1) := by decide +kernel
theorem dX9_mute_16 : decode cX9_mute 16 = .ok (.invokevirtual 286, 3) := by decide +kernel
theorem dX9_mute_19 : decode cX9_mute 19 = .ok (.iconst 0, 1) := by decide +kernel
theorem dX9_mute_20 : decode cX9_mute 20 = .ok (.istore_n 1, 1) := by decide +kernel
theorem dX9_mute_21 : decode cX9_mute 21 = .ok (.iconst 0, 1) := by decide +kernel
theorem dX9_mute_22 : decode cX9_mute 22 = .ok (.istore_n 2, 1) := by decide +kernel
theorem dX9_mute_23 : decode cX9_mute 23 = .ok (.iload_n 2, 1) := by decide +kernel
theorem dX9_mute_24 : decode cX9_mute 24 = .ok (.aload_n 0, 1) := by decide +kernel
theorem dX9_mute_25 : decode cX9_mute 25 = .ok (.invokevirtual 222, 3) := by decide +kernel
theorem dX9_mute_28 : decode cX9_mute 28 = .ok (.if_icmp .gt 27, 3) := by decide +kernel
theorem dX9_mute_31 : decode cX9_mute 31 = .ok (.iload_n 1, 1) := by decide +kernel
theorem dX9_mute_32 : decode cX9_mute 32 = .ok (.aload_n 0, 1) := by decide +kernel
theorem dX9_mute_33 : decode cX9_mute 33 = .ok (.iload_n 2, 1) := by decide +kernel
theorem dX9_mute_34 : decode cX9_mute 34 = .ok (.invokevirtual 271, 3) := by decide +kernel
theorem dX9_mute_37 : decode cX9_mute 37 = .ok (.ifCond .ne 9, 3) := by decide +kernel
theorem dX9_mute_40 : decode cX9_mute 40 = .ok (.iconst 1, 1) := by decide +kernel
theorem dX9_mute_41 : decode cX9_mute 41 = .ok (.iload_n 2, 1) := by decide +kernel
theorem dX9_mute_42 : decode cX9_mute 42 = .ok (.ishl, 1) := by decide +kernel
theorem dX9_mute_43 : decode cX9_mute 43 = .ok (.goto 4, 3) := by decide +kernel
theorem dX9_mute_46 : decode cX9_mute 46 = .ok (.iconst 0, 1) := by decide +kernel
theorem dX9_mute_47 : decode cX9_mute 47 = .ok (.ior, 1) := by decide +kernel
theorem dX9_mute_48 : decode cX9_mute 48 = .ok (.istore_n 1, 1) := by decide +kernel
theorem dX9_mute_49 : decode cX9_mute 49 = .ok (.iinc 2 1, 3) := by decide +kernel
theorem dX9_mute_52 : decode cX9_mute 52 = .ok (.goto (-29), 3) := by decide +kernel
theorem dX9_mute_55 : decode cX9_mute 55 = .ok (.iload_n 1, 1) := by decide +kernel
theorem dX9_mute_56 : decode cX9_mute 56 = .ok (.ireturn, 1) := by decide +kernel
theorem dX9_next_0 : decode cX9_next 0 = .ok (.aload_n 0, 1) := by decide +kernel
theorem dX9_next_1 : decode cX9_next 1 = .ok (.aload_n 0, 1) := by decide +kernel
theorem dX9_next_2 : decode cX9_next 2 = .ok (.getfield 92, 3) := by decide +kernel
theorem dX9_next_5 : decode cX9_next 5 = .ok (.bipush 32, 2) := by decide +kernel
theorem dX9_next_7 : decode cX9_next 7 = .ok (.bipush 32, 2) := by decide +kernel
theorem dX9_next_9 : decode cX9_next 9 = .ok (.invokevirtual 95, 3) := by decide +kernel
theorem dX9_next_12 : decode cX9_next 12 = .ok (.ifCond .ne 18, 3) := by decide +kernel
theorem dX9_next_15 : decode cX9_next 15 = .ok (.aload_n 0, 1) := by decide +kernel
theorem dX9_next_16 : decode cX9_next 16 = .ok (.aload_n 0, 1) := by decide +kernel
theorem dX9_next_17 : decode cX9_next 17 = .ok (.getfield 92, 3) := by decide +kernel
theorem dX9_next_20 : decode cX9_next 20 = .ok (.bipush 10, 2) := by decide +kernel
theorem dX9_next_22 : decode cX9_next 22 = .ok (.bipush 10, 2) := by decide +kernel
theorem dX9_next_24 : decode cX9_next 24 = .ok (.invokevirtual 95, 3) := by decide +kernel
theorem dX9_next_27 : decode cX9_next 27 = .ok (.ifCond .eq 16, 3) := by decide +kernel
theorem dX9_next_30 : decode cX9_next 30 = .ok (.aload_n 0, 1) := by decide +kernel
theorem dX9_next_31 : decode cX9_next 31 = .ok (.dup, 1) := by decide +kernel
theorem dX9_next_32 : decode cX9_next 32 = .ok (.getfield 92, 3) := by decide +kernel
theorem dX9_next_35 : decode cX9_next 35 = .ok (.iconst 1, 1) := by decide +kernel
theorem dX9_next_36 : decode cX9_next 36 = .ok (.iadd, 1) := by decide +kernel
theorem dX9_next_37 : decode cX9_next 37 = .ok (.putfield 92, 3) := by decide +kernel
theorem dX9_next_40 : decode cX9_next 40 = .ok (.goto (-40), 3) := by decide +kernel
theorem dX9_next_43 : decode cX9_next 43 = .ok (.aload_n 0, 1) := by decide +kernel
theorem dX9_next_44 : decode cX9_next 44 = .ok (.aload_n 0, 1) := by decide +kernel
theorem dX9_next_45 : decode cX9_next 45 = .ok (.getfield 92, 3) := by decide +kernel
theorem dX9_next_48 : decode cX9_next 48 = .ok (.putfield 99, 3) := by decide +kernel
theorem dX9_next_51 : decode cX9_next 51 = .ok (.aload_n 0, 1) := by decide +kernel
theorem dX9_next_52 : decode cX9_next 52 = .ok (.iconst 0, 1) := by decide +kernel
theorem dX9_next_53 : decode cX9_next 53 = .ok (.putfield 102, 3) := by decide +kernel
theorem dX9_next_56 : decode cX9_next 56 = .ok (.aload_n 0, 1) := by decide +kernel
theorem dX9_next_57 : decode cX9_next 57 = .ok (.lconst 0, 1) := by decide +kernel
theorem dX9_next_58 : decode cX9_next 58 = .ok (.putfield 105, 3) := by decide +kernel
theorem dX9_next_61 : decode cX9_next 61 = .ok (.aload_n 0, 1) := by decide +kernel
theorem dX9_next_62 : decode cX9_next 62 = .ok (.getfield 92, 3) := by decide +kernel
theorem dX9_next_65 : decode cX9_next 65 = .ok (.aload_n 0, 1) := by decide +kernel
theorem dX9_next_66 : decode cX9_next 66 = .ok (.getfield 85, 3) := by decide +kernel
