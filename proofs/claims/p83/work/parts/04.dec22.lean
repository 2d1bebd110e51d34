theorem dX9_reach_22 : decode cX9_reach 22 = .ok (.iload_n 1, 1) := by decide +kernel
theorem dX9_reach_23 : decode cX9_reach 23 = .ok (.invokevirtual 271, 3) := by decide +kernel
theorem dX9_reach_26 : decode cX9_reach 26 = .ok (.istore_n 2, 1) := by decide +kernel
theorem dX9_reach_27 : decode cX9_reach 27 = .ok (.aload_n 0, 1) := by decide +kernel
theorem dX9_reach_28 : decode cX9_reach 28 = .ok (.invokevirtual 212, 3) := by decide +kernel
theorem dX9_reach_31 : decode cX9_reach 31 = .ok (.iconst 1, 1) := by decide +kernel
theorem dX9_reach_32 : decode cX9_reach 32 = .ok (.isub, 1) := by decide +kernel
theorem dX9_reach_33 : decode cX9_reach 33 = .ok (.istore_n 3, 1) := by decide +kernel
theorem dX9_reach_34 : decode cX9_reach 34 = .ok (.iload_n 3, 1) := by decide +kernel
theorem dX9_reach_35 : decode cX9_reach 35 = .ok (.ifCond .lt 19, 3) := by decide +kernel
theorem dX9_reach_38 : decode cX9_reach 38 = .ok (.iload_n 2, 1) := by decide +kernel
theorem dX9_reach_39 : decode cX9_reach 39 = .ok (.iload_n 3, 1) := by decide +kernel
theorem dX9_reach_40 : decode cX9_reach 40 = .ok (.invokestatic 240, 3) := by decide +kernel
theorem dX9_reach_43 : decode cX9_reach 43 = .ok (.ifCond .eq 5, 3) := by decide +kernel
theorem dX9_reach_46 : decode cX9_reach 46 = .ok (.iload_n 3, 1) := by decide +kernel
theorem dX9_reach_47 : decode cX9_reach 47 = .ok (.ireturn, 1) := by decide +kernel
theorem dX9_reach_48 : decode cX9_reach 48 = .ok (.iinc 3 (-1), 3) := by decide +kernel
theorem dX9_reach_51 : decode cX9_reach 51 = .ok (.goto (-17), 3) := by decide +kernel
theorem dX9_reach_54 : decode cX9_reach 54 = .ok (.iconst (-1), 1) := by decide +kernel
theorem dX9_reach_55 : decode cX9_reach 55 = .ok (.ireturn, 1) := by decide +kernel
theorem dX9_rests_0 : decode cX9_rests 0 = .ok (.aload_n 0, 1) := by decide +kernel
theorem dX9_rests_1 : decode cX9_rests 1 = .ok (.iconst 0, 1) := by decide +kernel
theorem dX9_rests_2 : decode cX9_rests 2 = .ok (.putfield 68, 3) := by decide +kernel
theorem dX9_rests_5 : decode cX9_rests 5 = .ok (.aload_n 0, 1) := by decide +kernel
theorem dX9_rests_6 : decode cX9_rests 6 = .ok (.iload_n 1, 1) := by decide +kernel
theorem dX9_rests_7 : decode cX9_rests 7 = .ok (.iload_n 2, 1) := by decide +kernel
theorem dX9_rests_8 : decode cX9_rests 8 = .ok (.invokevirtual 372, 3) := by decide +kernel
theorem dX9_rests_11 : decode cX9_rests 11 = .ok (.ifCond .ne 6, 3) := by decide +kernel
theorem dX9_rests_14 : decode cX9_rests 14 = .ok (.bipush (-2), 2) := by decide +kernel
theorem dX9_rests_16 : decode cX9_rests 16 = .ok (.ireturn, 1) := by decide +kernel
theorem dX9_rests_17 : decode cX9_rests 17 = .ok (.iconst 0, 1) := by decide +kernel
theorem dX9_rests_18 : decode cX9_rests 18 = .ok (.istore_n 3, 1) := by decide +kernel
theorem dX9_rests_19 : decode cX9_rests 19 = .ok (.iconst 0, 1) := by decide +kernel
theorem dX9_rests_20 : decode cX9_rests 20 = .ok (.istore 4, 2) := by decide +kernel
theorem dX9_rests_22 : decode cX9_rests 22 = .ok (.iload 4, 2) := by decide +kernel
theorem dX9_rests_24 : decode cX9_rests 24 = .ok (.iconst 4, 1) := by decide +kernel
theorem dX9_rests_25 : decode cX9_rests 25 = .ok (.if_icmp .ge 98, 3) := by decide +kernel
theorem dX9_rests_28 : decode cX9_rests 28 = .ok (.iload 4, 2) := by decide +kernel
theorem dX9_rests_30 : decode cX9_rests 30 = .ok (.iconst 2, 1) := by decide +kernel
theorem dX9_rests_31 : decode cX9_rests 31 = .ok (.irem, 1) := by decide +kernel
theorem dX9_rests_32 : decode cX9_rests 32 = .ok (.istore 5, 2) := by decide +kernel
theorem dX9_rests_34 : decode cX9_rests 34 = .ok (.iload 4, 2) := by decide +kernel
theorem dX9_rests_36 : decode cX9_rests 36 = .ok (.iconst 2, 1) := by decide +kernel
theorem dX9_rests_37 : decode cX9_rests 37 = .ok (.idiv, 1) := by decide +kernel
theorem dX9_rests_38 : decode cX9_rests 38 = .ok (.istore 6, 2) := by decide +kernel
theorem dX9_rests_40 : decode cX9_rests 40 = .ok (.aload_n 0, 1) := by decide +kernel
theorem dX9_rests_41 : decode cX9_rests 41 = .ok (.iload_n 1, 1) := by decide +kernel
theorem dX9_rests_42 : decode cX9_rests 42 = .ok (.iload_n 1, 1) := by decide +kernel
theorem dX9_rests_43 : decode cX9_rests 43 = .ok (.iload_n 2, 1) := by decide +kernel
theorem dX9_rests_44 : decode cX9_rests 44 = .ok (.iconst 1, 1) := by decide +kernel
theorem dX9_rests_45 : decode cX9_rests 45 = .ok (.iload 5, 2) := by decide +kernel
theorem dX9_rests_47 : decode cX9_rests 47 = .ok (.isub, 1) := by decide +kernel
theorem dX9_rests_48 : decode cX9_rests 48 = .ok (.iload 6, 2) := by decide +kernel
theorem dX9_rests_50 : decode cX9_rests 50 = .ok (.invokevirtual 375, 3) := by decide +kernel
theorem dX9_rests_53 : decode cX9_rests 53 = .ok (.aload_n 0, 1) := by decide +kernel
theorem dX9_rests_54 : decode cX9_rests 54 = .ok (.iload_n 1, 1) := by decide +kernel
theorem dX9_rests_55 : decode cX9_rests 55 = .ok (.iload_n 1, 1) := by decide +kernel
theorem dX9_rests_56 : decode cX9_rests 56 = .ok (.iload_n 2, 1) := by decide +kernel
theorem dX9_rests_57 : decode cX9_rests 57 = .ok (.iload 5, 2) := by decide +kernel
theorem dX9_rests_59 : decode cX9_rests 59 = .ok (.iload 6, 2) := by decide +kernel
theorem dX9_rests_61 : decode cX9_rests 61 = .ok (.invokevirtual 375, 3) := by decide +kernel
theorem dX9_rests_64 : decode cX9_rests 64 = .ok (.if_icmp .gt 34, 3) := by decide +kernel
theorem dX9_rests_67 : decode cX9_rests 67 = .ok (.aload_n 0, 1) := by decide +kernel
theorem dX9_rests_68 : decode cX9_rests 68 = .ok (.iload_n 2, 1) := by decide +kernel
theorem dX9_rests_69 : decode cX9_rests 69 = .ok (.iload_n 1, 1) := by decide +kernel
theorem dX9_rests_70 : decode cX9_rests 70 = .ok (.iload_n 2, 1) := by decide +kernel
theorem dX9_rests_71 : decode cX9_rests 71 = .ok (.iload 5, 2) := by decide +kernel
theorem dX9_rests_73 : decode cX9_rests 73 = .ok (.iconst 1, 1) := by decide +kernel
theorem dX9_rests_74 : decode cX9_rests 74 = .ok (.iload 6, 2) := by decide +kernel
theorem dX9_rests_76 : decode cX9_rests 76 = .ok (.isub, 1) := by decide +kernel
theorem dX9_rests_77 : decode cX9_rests 77 = .ok (.invokevirtual 375, 3) := by decide +kernel
theorem dX9_rests_80 : decode cX9_rests 80 = .ok (.aload_n 0, 1) := by decide +kernel
theorem dX9_rests_81 : decode cX9_rests 81 = .ok (.iload_n 2, 1) := by decide +kernel
theorem dX9_rests_82 : decode cX9_rests 82 = .ok (.iload_n 1, 1) := by decide +kernel
theorem dX9_rests_83 : decode cX9_rests 83 = .ok (.iload_n 2, 1) := by decide +kernel
theorem dX9_rests_84 : decode cX9_rests 84 = .ok (.iload 5, 2) := by decide +kernel
theorem dX9_rests_86 : decode cX9_rests 86 = .ok (.iload 6, 2) := by decide +kernel
theorem dX9_rests_88 : decode cX9_rests 88 = .ok (.invokevirtual 375, 3) := by decide +kernel
theorem dX9_rests_91 : decode cX9_rests 91 = .ok (.if_icmp .gt 7, 3) := by decide +kernel
theorem dX9_rests_94 : decode cX9_rests 94 = .ok (.iconst 1, 1) := by decide +kernel
theorem dX9_rests_95 : decode cX9_rests 95 = .ok (.goto 4, 3) := by decide +kernel
theorem dX9_rests_98 : decode cX9_rests 98 = .ok (.iconst 0, 1) := by decide +kernel
theorem dX9_rests_99 : decode cX9_rests 99 = .ok (.istore 7, 2) := by decide +kernel
theorem dX9_rests_101 : decode cX9_rests 101 = .ok (.iload_n 3, 1) := by decide +kernel
theorem dX9_rests_102 : decode cX9_rests 102 = .ok (.iload 7, 2) := by decide +kernel
theorem dX9_rests_104 : decode cX9_rests 104 = .ok (.ifCond .eq 10, 3) := by decide +kernel
theorem dX9_rests_107 : decode cX9_rests 107 = .ok (.iconst 1, 1) := by decide +kernel
theorem dX9_rests_108 : decode cX9_rests 108 = .ok (.iload 4, 2) := by decide +kernel
theorem dX9_rests_110 : decode cX9_rests 110 = .ok (.ishl, 1) := by decide +kernel
theorem dX9_rests_111 : decode cX9_rests 111 = .ok (.goto 4, 3) := by decide +kernel
theorem dX9_rests_114 : decode cX9_rests 114 = .ok (.iconst 0, 1) := by decide +kernel
theorem dX9_rests_115 : decode cX9_rests 115 = .ok (.ior, 1) := by decide +kernel
theorem dX9_rests_116 : decode cX9_rests 116 = .ok (.istore_n 3, 1) := by decide +kernel
theorem dX9_rests_117 : decode cX9_rests 117 = .ok (.iinc 4 1, 3) := by decide +kernel
theorem dX9_rests_120 : decode cX9_rests 120 = .ok (.goto (-98), 3) := by decide +kernel
theorem dX9_rests_123 : decode cX9_rests 123 = .ok (.iload_n 3, 1) := by decide +kernel
theorem dX9_rests_124 : decode cX9_rests 124 = .ok (.ireturn, 1) := by decide +kernel
theorem dX9_rises_0 : decode cX9_rises 0 = .ok (.aload_n 0, 1) := by decide +kernel
theorem dX9_rises_1 : decode cX9_rises 1 = .ok (.iconst 0, 1) := by decide +kernel
theorem dX9_rises_2 : decode cX9_rises 2 = .ok (.putfield 68, 3) := by decide +kernel
theorem dX9_rises_5 : decode cX9_rises 5 = .ok (.aload_n 0, 1) := by decide +kernel
theorem dX9_rises_6 : decode cX9_rises 6 = .ok (.iload_n 1, 1) := by decide +kernel
theorem dX9_rises_7 : decode cX9_rises 7 = .ok (.invokevirtual 216, 3) := by decide +kernel
theorem dX9_rises_10 : decode cX9_rises 10 = .ok (.ifCond .ne 6, 3) := by decide +kernel
theorem dX9_rises_13 : decode cX9_rises 13 = .ok (.bipush (-2), 2) := by decide +kernel
theorem dX9_rises_15 : decode cX9_rises 15 = .ok (.ireturn, 1) := by decide +kernel
theorem dX9_rises_16 : decode cX9_rises 16 = .ok (.aload_n 0, 1) := by decide +kernel
theorem dX9_rises_17 : decode cX9_rises 17 = .ok (.invokevirtual 286, 3) := by decide +kernel
theorem dX9_rises_20 : decode cX9_rises 20 = .ok (.iconst 0, 1) := by decide +kernel
theorem dX9_rises_21 : decode cX9_rises 21 = .ok (.istore_n 2, 1) := by decide +kernel
theorem dX9_rises_22 : decode cX9_rises 22 = .ok (.iconst 1, 1) := by decide +kernel
theorem dX9_rises_23 : decode cX9_rises 23 = .ok (.istore_n 3, 1) := by decide +kernel
theorem dX9_rises_24 : decode cX9_rises 24 = .ok (.iload_n 3, 1) := by decide +kernel
theorem dX9_rises_25 : decode cX9_rises 25 = .ok (.aload_n 0, 1) := by decide +kernel
theorem dX9_rises_26 : decode cX9_rises 26 = .ok (.invokevirtual 222, 3) := by decide +kernel
theorem dX9_rises_29 : decode cX9_rises 29 = .ok (.if_icmp .gt 34, 3) := by decide +kernel
theorem dX9_rises_32 : decode cX9_rises 32 = .ok (.iload_n 2, 1) := by decide +kernel
theorem dX9_rises_33 : decode cX9_rises 33 = .ok (.aload_n 0, 1) := by decide +kernel
theorem dX9_rises_34 : decode cX9_rises 34 = .ok (.iload_n 1, 1) := by decide +kernel
theorem dX9_rises_35 : decode cX9_rises 35 = .ok (.iload_n 3, 1) := by decide +kernel
theorem dX9_rises_36 : decode cX9_rises 36 = .ok (.invokevirtual 256, 3) := by decide +kernel
theorem dX9_rises_39 : decode cX9_rises 39 = .ok (.aload_n 0, 1) := by decide +kernel
theorem dX9_rises_40 : decode cX9_rises 40 = .ok (.iload_n 1, 1) := by decide +kernel
theorem dX9_rises_41 : decode cX9_rises 41 = .ok (.iload_n 3, 1) := by decide +kernel
theorem dX9_rises_42 : decode cX9_rises 42 = .ok (.iconst 1, 1) := by decide +kernel
theorem dX9_rises_43 : decode cX9_rises 43 = .ok (.isub, 1) := by decide +kernel
theorem dX9_rises_44 : decode cX9_rises 44 = .ok (.invokevirtual 256, 3) := by decide +kernel
theorem dX9_rises_47 : decode cX9_rises 47 = .ok (.if_icmp .le 7, 3) := by decide +kernel
theorem dX9_rises_50 : decode cX9_rises 50 = .ok (.iconst 1, 1) := by decide +kernel
theorem dX9_rises_51 : decode cX9_rises 51 = .ok (.goto 4, 3) := by decide +kernel
theorem dX9_rises_54 : decode cX9_rises 54 = .ok (.iconst 0, 1) := by decide +kernel
theorem dX9_rises_55 : decode cX9_rises 55 = .ok (.iadd, 1) := by decide +kernel
theorem dX9_rises_56 : decode cX9_rises 56 = .ok (.istore_n 2, 1) := by decide +kernel
theorem dX9_rises_57 : decode cX9_rises 57 = .ok (.iinc 3 1, 3) := by decide +kernel
theorem dX9_rises_60 : decode cX9_rises 60 = .ok (.goto (-36), 3) := by decide +kernel
theorem dX9_rises_63 : decode cX9_rises 63 = .ok (.iload_n 2, 1) := by decide +kernel
theorem dX9_rises_64 : decode cX9_rises 64 = .ok (.ireturn, 1) := by decide +kernel
theorem dX9_row_0 : decode cX9_row 0 = .ok (.aload_n 0, 1) := by decide +kernel
theorem dX9_row_1 : decode cX9_row 1 = .ok (.iconst 0, 1) := by decide +kernel
theorem dX9_row_2 : decode cX9_row 2 = .ok (.putfield 68, 3) := by decide +kernel
theorem dX9_row_5 : decode cX9_row 5 = .ok (.iload_n 1, 1) := by decide +kernel
theorem dX9_row_6 : decode cX9_row 6 = .ok (.invokestatic 77, 3) := by decide +kernel
theorem dX9_row_9 : decode cX9_row 9 = .ok (.ifCond .eq 21, 3) := by decide +kernel
theorem dX9_row_12 : decode cX9_row 12 = .ok (.iload_n 2, 1) := by decide +kernel
theorem dX9_row_13 : decode cX9_row 13 = .ok (.i2l, 1) := by decide +kernel
theorem dX9_row_14 : decode cX9_row 14 = .ok (.lconst 0, 1) := by decide +kernel
theorem dX9_row_15 : decode cX9_row 15 = .ok (.ldc2_w 71, 3) := by decide +kernel
theorem dX9_row_18 : decode cX9_row 18 = .ok (.invokestatic 73, 3) := by decide +kernel
theorem dX9_row_21 : decode cX9_row 21 = .ok (.ifCond .eq 9, 3) := by decide +kernel
theorem dX9_row_24 : decode cX9_row 24 = .ok (.iload_n 3, 1) := by decide +kernel
theorem dX9_row_25 : decode cX9_row 25 = .ok (.bipush 60, 2) := by decide +kernel
theorem dX9_row_27 : decode cX9_row 27 = .ok (.if_icmp .le 6, 3) := by decide +kernel
theorem dX9_row_30 : decode cX9_row 30 = .ok (.bipush (-2), 2) := by decide +kernel
theorem dX9_row_32 : decode cX9_row 32 = .ok (.ireturn, 1) := by decide +kernel
theorem dX9_row_33 : decode cX9_row 33 = .ok (.iload_n 3, 1) := by decide +kernel
theorem dX9_row_34 : decode cX9_row 34 = .ok (.ifCond .ge 6, 3) := by decide +kernel
theorem dX9_row_37 : decode cX9_row 37 = .ok (.bipush (-3), 2) := by decide +kernel
theorem dX9_row_39 : decode cX9_row 39 = .ok (.ireturn, 1) := by decide +kernel
theorem dX9_row_40 : decode cX9_row 40 = .ok (.aload_n 0, 1) := by decide +kernel
theorem dX9_row_41 : decode cX9_row 41 = .ok (.getfield 7, 3) := by decide +kernel
theorem dX9_row_44 : decode cX9_row 44 = .ok (.iload_n 1, 1) := by decide +kernel
theorem dX9_row_45 : decode cX9_row 45 = .ok (.iload_n 2, 1) := by decide +kernel
theorem dX9_row_46 : decode cX9_row 46 = .ok (.iastore, 1) := by decide +kernel
theorem dX9_row_47 : decode cX9_row 47 = .ok (.aload_n 0, 1) := by decide +kernel
theorem dX9_row_48 : decode cX9_row 48 = .ok (.getfield 13, 3) := by decide +kernel
theorem dX9_row_51 : decode cX9_row 51 = .ok (.iload_n 1, 1) := by decide +kernel
theorem dX9_row_52 : decode cX9_row 52 = .ok (.iload_n 3, 1) := by decide +kernel
theorem dX9_row_53 : decode cX9_row 53 = .ok (.iastore, 1) := by decide +kernel
theorem dX9_row_54 : decode cX9_row 54 = .ok (.iconst 0, 1) := by decide +kernel
theorem dX9_row_55 : decode cX9_row 55 = .ok (.istore 4, 2) := by decide +kernel
theorem dX9_row_57 : decode cX9_row 57 = .ok (.iload 4, 2) := by decide +kernel
theorem dX9_row_59 : decode cX9_row 59 = .ok (.iload_n 3, 1) := by decide +kernel
theorem dX9_row_60 : decode cX9_row 60 = .ok (.if_icmp .ge 22, 3) := by decide +kernel
theorem dX9_row_63 : decode cX9_row 63 = .ok (.aload_n 0, 1) := by decide +kernel
theorem dX9_row_64 : decode cX9_row 64 = .ok (.getfield 16, 3) := by decide +kernel
theorem dX9_row_67 : decode cX9_row 67 = .ok (.bipush 60, 2) := by decide +kernel
theorem dX9_row_69 : decode cX9_row 69 = .ok (.iload_n 1, 1) := by decide +kernel
theorem dX9_row_70 : decode cX9_row 70 = .ok (.imul, 1) := by decide +kernel
theorem dX9_row_71 : decode cX9_row 71 = .ok (.iload 4, 2) := by decide +kernel
theorem dX9_row_73 : decode cX9_row 73 = .ok (.iadd, 1) := by decide +kernel
theorem dX9_row_74 : decode cX9_row 74 = .ok (.lconst 0, 1) := by decide +kernel
theorem dX9_row_75 : decode cX9_row 75 = .ok (.lastore, 1) := by decide +kernel
theorem dX9_row_76 : decode cX9_row 76 = .ok (.iinc 4 1, 3) := by decide +kernel
theorem dX9_row_79 : decode cX9_row 79 = .ok (.goto (-22), 3) := by decide +kernel
theorem dX9_row_82 : decode cX9_row 82 = .ok (.iconst 0, 1) := by decide +kernel
theorem dX9_row_83 : decode cX9_row 83 = .ok (.ireturn, 1) := by decide +kernel
theorem dX9_share_0 : decode cX9_share 0 = .ok (.aload_n 0, 1) := by decide +kernel
theorem dX9_share_1 : decode cX9_share 1 = .ok (.iconst 0, 1) := by decide +kernel
theorem dX9_share_2 : decode cX9_share 2 = .ok (.putfield 68, 3) := by decide +kernel
theorem dX9_share_5 : decode cX9_share 5 = .ok (.aload_n 0, 1) := by decide +kernel
theorem dX9_share_6 : decode cX9_share 6 = .ok (.iload_n 1, 1) := by decide +kernel
theorem dX9_share_7 : decode cX9_share 7 = .ok (.invokevirtual 216, 3) := by decide +kernel
theorem dX9_share_10 : decode cX9_share 10 = .ok (.ifCond .eq 10, 3) := by decide +kernel
theorem dX9_share_13 : decode cX9_share 13 = .ok (.iload_n 2, 1) := by decide +kernel
theorem dX9_share_14 : decode cX9_share 14 = .ok (.invokestatic 292, 3) := by decide +kernel
theorem dX9_share_17 : decode cX9_share 17 = .ok (.ifCond .ne 7, 3) := by decide +kernel
theorem dX9_share_20 : decode cX9_share 20 = .ok (.ldc_w 371, 3) := by decide +kernel
theorem dX9_share_23 : decode cX9_share 23 = .ok (.ireturn, 1) := by decide +kernel
theorem dX9_share_24 : decode cX9_share 24 = .ok (.iconst 0, 1) := by decide +kernel
theorem dX9_share_25 : decode cX9_share 25 = .ok (.istore_n 3, 1) := by decide +kernel
theorem dX9_share_26 : decode cX9_share 26 = .ok (.iconst 0, 1) := by decide +kernel
theorem dX9_share_27 : decode cX9_share 27 = .ok (.istore 4, 2) := by decide +kernel
theorem dX9_share_29 : decode cX9_share 29 = .ok (.iload 4, 2) := by decide +kernel
theorem dX9_share_31 : decode cX9_share 31 = .ok (.iconst 1, 1) := by decide +kernel
theorem dX9_share_32 : decode cX9_share 32 = .ok (.aload_n 0, 1) := by decide +kernel
theorem dX9_share_33 : decode cX9_share 33 = .ok (.invokevirtual 212, 3) := by decide +kernel
theorem dX9_share_36 : decode cX9_share 36 = .ok (.ishl, 1) := by decide +kernel
theorem dX9_share_37 : decode cX9_share 37 = .ok (.if_icmp .ge 67, 3) := by decide +kernel
theorem dX9_share_40 : decode cX9_share 40 = .ok (.iload 4, 2) := by decide +kernel
theorem dX9_share_42 : decode cX9_share 42 = .ok (.iload_n 1, 1) := by decide +kernel
theorem dX9_share_43 : decode cX9_share 43 = .ok (.invokestatic 240, 3) := by decide +kernel
theorem dX9_share_46 : decode cX9_share 46 = .ok (.ifCond .eq 6, 3) := by decide +kernel
theorem dX9_share_49 : decode cX9_share 49 = .ok (.goto 49, 3) := by decide +kernel
theorem dX9_share_52 : decode cX9_share 52 = .ok (.iload 4, 2) := by decide +kernel
theorem dX9_share_54 : decode cX9_share 54 = .ok (.invokestatic 274, 3) := by decide +kernel
theorem dX9_share_57 : decode cX9_share 57 = .ok (.istore 5, 2) := by decide +kernel
theorem dX9_share_59 : decode cX9_share 59 = .ok (.iload_n 3, 1) := by decide +kernel
theorem dX9_share_60 : decode cX9_share 60 = .ok (.iload 5, 2) := by decide +kernel
theorem dX9_share_62 : decode cX9_share 62 = .ok (.invokestatic 368, 3) := by decide +kernel
theorem dX9_share_65 : decode cX9_share 65 = .ok (.aload_n 0, 1) := by decide +kernel
theorem dX9_share_66 : decode cX9_share 66 = .ok (.invokevirtual 212, 3) := by decide +kernel
theorem dX9_share_69 : decode cX9_share 69 = .ok (.iload 5, 2) := by decide +kernel
theorem dX9_share_71 : decode cX9_share 71 = .ok (.isub, 1) := by decide +kernel
theorem dX9_share_72 : decode cX9_share 72 = .ok (.iconst 1, 1) := by decide +kernel
theorem dX9_share_73 : decode cX9_share 73 = .ok (.isub, 1) := by decide +kernel
theorem dX9_share_74 : decode cX9_share 74 = .ok (.invokestatic 368, 3) := by decide +kernel
theorem dX9_share_77 : decode cX9_share 77 = .ok (.imul, 1) := by decide +kernel
theorem dX9_share_78 : decode cX9_share 78 = .ok (.aload_n 0, 1) := by decide +kernel
theorem dX9_share_79 : decode cX9_share 79 = .ok (.iload 4, 2) := by decide +kernel
theorem dX9_share_81 : decode cX9_share 81 = .ok (.iconst 1, 1) := by decide +kernel
theorem dX9_share_82 : decode cX9_share 82 = .ok (.iload_n 1, 1) := by decide +kernel
theorem dX9_share_83 : decode cX9_share 83 = .ok (.ishl, 1) := by decide +kernel
theorem dX9_share_84 : decode cX9_share 84 = .ok (.ior, 1) := by decide +kernel
theorem dX9_share_85 : decode cX9_share 85 = .ok (.invokevirtual 325, 3) := by decide +kernel
theorem dX9_share_88 : decode cX9_share 88 = .ok (.aload_n 0, 1) := by decide +kernel
theorem dX9_share_89 : decode cX9_share 89 = .ok (.iload 4, 2) := by decide +kernel
theorem dX9_share_91 : decode cX9_share 91 = .ok (.invokevirtual 325, 3) := by decide +kernel
theorem dX9_share_94 : decode cX9_share 94 = .ok (.isub, 1) := by decide +kernel
theorem dX9_share_95 : decode cX9_share 95 = .ok (.imul, 1) := by decide +kernel
theorem dX9_share_96 : decode cX9_share 96 = .ok (.iadd, 1) := by decide +kernel
theorem dX9_share_97 : decode cX9_share 97 = .ok (.istore_n 3, 1) := by decide +kernel
theorem dX9_share_98 : decode cX9_share 98 = .ok (.iinc 4 1, 3) := by decide +kernel
theorem dX9_share_101 : decode cX9_share 101 = .ok (.goto (-72), 3) := by decide +kernel
theorem dX9_share_104 : decode cX9_share 104 = .ok (.iload_n 3, 1) := by decide +kernel
theorem dX9_share_105 : decode cX9_share 105 = .ok (.i2l, 1) := by decide +kernel
theorem dX9_share_106 : decode cX9_share 106 = .ok (.aload_n 0, 1) := by decide +kernel
theorem dX9_share_107 : decode cX9_share 107 = .ok (.invokevirtual 212, 3) := by decide +kernel
theorem dX9_share_110 : decode cX9_share 110 = .ok (.invokestatic 368, 3) := by decide +kernel
theorem dX9_share_113 : decode cX9_share 113 = .ok (.i2l, 1) := by decide +kernel
theorem dX9_share_114 : decode cX9_share 114 = .ok (.iload_n 2, 1) := by decide +kernel
theorem dX9_share_115 : decode cX9_share 115 = .ok (.invokestatic 297, 3) := by decide +kernel
theorem dX9_share_118 : decode cX9_share 118 = .ok (.l2i, 1) := by decide +kernel
theorem dX9_share_119 : decode cX9_share 119 = .ok (.ireturn, 1) := by decide +kernel
theorem dX9_silent_0 : decode cX9_silent 0 = .ok (.aload_n 0, 1) := by decide +kernel
theorem dX9_silent_1 : decode cX9_silent 1 = .ok (.iconst 0, 1) := by decide +kernel
theorem dX9_silent_2 : decode cX9_silent 2 = .ok (.putfield 68, 3) := by decide +kernel
theorem dX9_silent_5 : decode cX9_silent 5 = .ok (.aload_n 0, 1) := by decide +kernel
theorem dX9_silent_6 : decode cX9_silent 6 = .ok (.iload_n 1, 1) := by decide +kernel
theorem dX9_silent_7 : decode cX9_silent 7 = .ok (.i2l, 1) := by decide +kernel
theorem dX9_silent_8 : decode cX9_silent 8 = .ok (.invokevirtual 289, 3) := by decide +kernel
theorem dX9_silent_11 : decode cX9_silent 11 = .ok (.ifCond .ne 6, 3) := by decide +kernel
theorem dX9_silent_14 : decode cX9_silent 14 = .ok (.bipush (-2), 2) := by decide +kernel
theorem dX9_silent_16 : decode cX9_silent 16 = .ok (.ireturn, 1) := by decide +kernel
theorem dX9_silent_17 : decode cX9_silent 17 = .ok (.aload_n 0, 1) := by decide +kernel
theorem dX9_silent_18 : decode cX9_silent 18 = .ok (.invokevirtual 286, 3) := by decide +kernel
theorem dX9_silent_21 : decode cX9_silent 21 = .ok (.aload_n 0, 1) := by decide +kernel
theorem dX9_silent_22 : decode cX9_silent 22 = .ok (.invokevirtual 283, 3) := by decide +kernel
theorem dX9_silent_25 : decode cX9_silent 25 = .ok (.aload_n 0, 1) := by decide +kernel
theorem dX9_silent_26 : decode cX9_silent 26 = .ok (.iload_n 1, 1) := by decide +kernel
theorem dX9_silent_27 : decode cX9_silent 27 = .ok (.invokevirtual 271, 3) := by decide +kernel
theorem dX9_silent_30 : decode cX9_silent 30 = .ok (.iconst (-1), 1) := by decide +kernel
theorem dX9_silent_31 : decode cX9_silent 31 = .ok (.ixor, 1) := by decide +kernel
theorem dX9_silent_32 : decode cX9_silent 32 = .ok (.iand, 1) := by decide +kernel
theorem dX9_silent_33 : decode cX9_silent 33 = .ok (.ireturn, 1) := by decide +kernel
theorem dX9_sizeOf_0 : decode cX9_sizeOf 0 = .ok (.iconst 0, 1) := by decide +kernel
theorem dX9_sizeOf_1 : decode cX9_sizeOf 1 = .ok (.istore_n 1, 1) := by decide +kernel
theorem dX9_sizeOf_2 : decode cX9_sizeOf 2 = .ok (.iload_n 0, 1) := by decide +kernel
theorem dX9_sizeOf_3 : decode cX9_sizeOf 3 = .ok (.istore_n 2, 1) := by decide +kernel
theorem dX9_sizeOf_4 : decode cX9_sizeOf 4 = .ok (.iload_n 2, 1) := by decide +kernel
theorem dX9_sizeOf_5 : decode cX9_sizeOf 5 = .ok (.ifCond .eq 15, 3) := by decide +kernel
theorem dX9_sizeOf_8 : decode cX9_sizeOf 8 = .ok (.iinc 1 1, 3) := by decide +kernel
theorem dX9_sizeOf_11 : decode cX9_sizeOf 11 = .ok (.iload_n 2, 1) := by decide +kernel
theorem dX9_sizeOf_12 : decode cX9_sizeOf 12 = .ok (.iload_n 2, 1) := by decide +kernel
theorem dX9_sizeOf_13 : decode cX9_sizeOf 13 = .ok (.iconst 1, 1) := by decide +kernel
theorem dX9_sizeOf_14 : decode cX9_sizeOf 14 = .ok (.isub, 1) := by decide +kernel
theorem dX9_sizeOf_15 : decode cX9_sizeOf 15 = .ok (.iand, 1) := by decide +kernel
theorem dX9_sizeOf_16 : decode cX9_sizeOf 16 = .ok (.istore_n 2, 1) := by decide +kernel
theorem dX9_sizeOf_17 : decode cX9_sizeOf 17 = .ok (.goto (-13), 3) := by decide +kernel
theorem dX9_sizeOf_20 : decode cX9_sizeOf 20 = .ok (.iload_n 1, 1) := by decide +kernel
theorem dX9_sizeOf_21 : decode cX9_sizeOf 21 = .ok (.ireturn, 1) := by decide +kernel
theorem dX9_snapped_0 : decode cX9_snapped 0 = .ok (.aload_n 0, 1) := by decide +kernel
theorem dX9_snapped_1 : decode cX9_snapped 1 = .ok (.iconst 0, 1) := by decide +kernel
theorem dX9_snapped_2 : decode cX9_snapped 2 = .ok (.putfield 68, 3) := by decide +kernel
theorem dX9_snapped_5 : decode cX9_snapped 5 = .ok (.aload_n 0, 1) := by decide +kernel
theorem dX9_snapped_6 : decode cX9_snapped 6 = .ok (.iload_n 1, 1) := by decide +kernel
theorem dX9_snapped_7 : decode cX9_snapped 7 = .ok (.invokevirtual 216, 3) := by decide +kernel
theorem dX9_snapped_10 : decode cX9_snapped 10 = .ok (.ifCond .ne 6, 3) := by decide +kernel
theorem dX9_snapped_13 : decode cX9_snapped 13 = .ok (.bipush (-2), 2) := by decide +kernel
theorem dX9_snapped_15 : decode cX9_snapped 15 = .ok (.ireturn, 1) := by decide +kernel
theorem dX9_snapped_16 : decode cX9_snapped 16 = .ok (.aload_n 0, 1) := by decide +kernel
theorem dX9_snapped_17 : decode cX9_snapped 17 = .ok (.invokevirtual 286, 3) := by decide +kernel
theorem dX9_snapped_20 : decode cX9_snapped 20 = .ok (.iconst 0, 1) := by decide +kernel
theorem dX9_snapped_21 : decode cX9_snapped 21 = .ok (.istore_n 2, 1) := by decide +kernel
theorem dX9_snapped_22 : decode cX9_snapped 22 = .ok (.iload_n 2, 1) := by decide +kernel
theorem dX9_snapped_23 : decode cX9_snapped 23 = .ok (.aload_n 0, 1) := by decide +kernel
theorem dX9_snapped_24 : decode cX9_snapped 24 = .ok (.invokevirtual 222, 3) := by decide +kernel
theorem dX9_snapped_27 : decode cX9_snapped 27 = .ok (.if_icmp .gt 20, 3) := by decide +kernel
theorem dX9_snapped_30 : decode cX9_snapped 30 = .ok (.aload_n 0, 1) := by decide +kernel
theorem dX9_snapped_31 : decode cX9_snapped 31 = .ok (.iload_n 1, 1) := by decide +kernel
theorem dX9_snapped_32 : decode cX9_snapped 32 = .ok (.iload_n 2, 1) := by decide +kernel
theorem dX9_snapped_33 : decode cX9_snapped 33 = .ok (.invokevirtual 253, 3) := by decide +kernel
theorem dX9_snapped_36 : decode cX9_snapped 36 = .ok (.ifCond .eq 5, 3) := by decide +kernel
theorem dX9_snapped_39 : decode cX9_snapped 39 = .ok (.iload_n 2, 1) := by decide +kernel
theorem dX9_snapped_40 : decode cX9_snapped 40 = .ok (.ireturn, 1) := by decide +kernel
theorem dX9_snapped_41 : decode cX9_snapped 41 = .ok (.iinc 2 1, 3) := by decide +kernel
theorem dX9_snapped_44 : decode cX9_snapped 44 = .ok (.goto (-22), 3) := by decide +kernel
theorem dX9_snapped_47 : decode cX9_snapped 47 = .ok (.iconst (-1), 1) := by decide +kernel
theorem dX9_snapped_48 : decode cX9_snapped 48 = .ok (.ireturn, 1) := by decide +kernel
theorem dX9_snaps_0 : decode cX9_snaps 0 = .ok (.aload_n 0, 1) := by decide +kernel
theorem dX9_snaps_1 : decode cX9_snaps 1 = .ok (.iconst 0, 1) := by decide +kernel
theorem dX9_snaps_2 : decode cX9_snaps 2 = .ok (.putfield 68, 3) := by decide +kernel
theorem dX9_snaps_5 : decode cX9_snaps 5 = .ok (.aload_n 0, 1) := by decide +kernel
theorem dX9_snaps_6 : decode cX9_snaps 6 = .ok (.iload_n 1, 1) := by decide +kernel
theorem dX9_snaps_7 : decode cX9_snaps 7 = .ok (.iload_n 2, 1) := by decide +kernel
theorem dX9_snaps_8 : decode cX9_snaps 8 = .ok (.iconst 0, 1) := by decide +kernel
theorem dX9_snaps_9 : decode cX9_snaps 9 = .ok (.invokevirtual 301, 3) := by decide +kernel
theorem dX9_snaps_12 : decode cX9_snaps 12 = .ok (.ifCond .ne 6, 3) := by decide +kernel
theorem dX9_snaps_15 : decode cX9_snaps 15 = .ok (.bipush (-2), 2) := by decide +kernel
theorem dX9_snaps_17 : decode cX9_snaps 17 = .ok (.ireturn, 1) := by decide +kernel
theorem dX9_snaps_18 : decode cX9_snaps 18 = .ok (.aload_n 0, 1) := by decide +kernel
theorem dX9_snaps_19 : decode cX9_snaps 19 = .ok (.getfield 34, 3) := by decide +kernel
theorem dX9_snaps_22 : decode cX9_snaps 22 = .ok (.bipush 6, 2) := by decide +kernel
theorem dX9_snaps_24 : decode cX9_snaps 24 = .ok (.iaload, 1) := by decide +kernel
theorem dX9_snaps_25 : decode cX9_snaps 25 = .ok (.bipush 30, 2) := by decide +kernel
theorem dX9_snaps_27 : decode cX9_snaps 27 = .ok (.if_icmp .ne 6, 3) := by decide +kernel
theorem dX9_snaps_30 : decode cX9_snaps 30 = .ok (.bipush (-5), 2) := by decide +kernel
theorem dX9_snaps_32 : decode cX9_snaps 32 = .ok (.ireturn, 1) := by decide +kernel
theorem dX9_snaps_33 : decode cX9_snaps 33 = .ok (.aload_n 0, 1) := by decide +kernel
theorem dX9_snaps_34 : decode cX9_snaps 34 = .ok (.iconst 1, 1) := by decide +kernel
theorem dX9_snaps_35 : decode cX9_snaps 35 = .ok (.iload_n 1, 1) := by decide +kernel
theorem dX9_snaps_36 : decode cX9_snaps 36 = .ok (.iload_n 2, 1) := by decide +kernel
theorem dX9_snaps_37 : decode cX9_snaps 37 = .ok (.invokevirtual 409, 3) := by decide +kernel
theorem dX9_snaps_40 : decode cX9_snaps 40 = .ok (.aload_n 0, 1) := by decide +kernel
theorem dX9_snaps_41 : decode cX9_snaps 41 = .ok (.invokevirtual 286, 3) := by decide +kernel
theorem dX9_snaps_44 : decode cX9_snaps 44 = .ok (.aload_n 0, 1) := by decide +kernel
theorem dX9_snaps_45 : decode cX9_snaps 45 = .ok (.aload_n 0, 1) := by decide +kernel
theorem dX9_snaps_46 : decode cX9_snaps 46 = .ok (.invokevirtual 222, 3) := by decide +kernel
theorem dX9_snaps_49 : decode cX9_snaps 49 = .ok (.invokevirtual 262, 3) := by decide +kernel
theorem dX9_snaps_52 : decode cX9_snaps 52 = .ok (.aload_n 0, 1) := by decide +kernel
theorem dX9_snaps_53 : decode cX9_snaps 53 = .ok (.getfield 250, 3) := by decide +kernel
theorem dX9_snaps_56 : decode cX9_snaps 56 = .ok (.ireturn, 1) := by decide +kernel
theorem dX9_sore_0 : decode cX9_sore 0 = .ok (.aload_n 0, 1) := by decide +kernel
theorem dX9_sore_1 : decode cX9_sore 1 = .ok (.iconst 0, 1) := by decide +kernel
theorem dX9_sore_2 : decode cX9_sore 2 = .ok (.putfield 68, 3) := by decide +kernel
theorem dX9_sore_5 : decode cX9_sore 5 = .ok (.aload_n 0, 1) := by decide +kernel
theorem dX9_sore_6 : decode cX9_sore 6 = .ok (.iload_n 1, 1) := by decide +kernel
theorem dX9_sore_7 : decode cX9_sore 7 = .ok (.i2l, 1) := by decide +kernel
theorem dX9_sore_8 : decode cX9_sore 8 = .ok (.invokevirtual 289, 3) := by decide +kernel
theorem dX9_sore_11 : decode cX9_sore 11 = .ok (.ifCond .ne 6, 3) := by decide +kernel
theorem dX9_sore_14 : decode cX9_sore 14 = .ok (.bipush (-2), 2) := by decide +kernel
theorem dX9_sore_16 : decode cX9_sore 16 = .ok (.ireturn, 1) := by decide +kernel
theorem dX9_sore_17 : decode cX9_sore 17 = .ok (.aload_n 0, 1) := by decide +kernel
theorem dX9_sore_18 : decode cX9_sore 18 = .ok (.invokevirtual 286, 3) := by decide +kernel
theorem dX9_sore_21 : decode cX9_sore 21 = .ok (.aload_n 0, 1) := by decide +kernel
theorem dX9_sore_22 : decode cX9_sore 22 = .ok (.iload_n 1, 1) := by decide +kernel
theorem dX9_sore_23 : decode cX9_sore 23 = .ok (.invokevirtual 262, 3) := by decide +kernel
theorem dX9_sore_26 : decode cX9_sore 26 = .ok (.iconst (-1), 1) := by decide +kernel
theorem dX9_sore_27 : decode cX9_sore 27 = .ok (.istore_n 2, 1) := by decide +kernel
theorem dX9_sore_28 : decode cX9_sore 28 = .ok (.iconst 0, 1) := by decide +kernel
theorem dX9_sore_29 : decode cX9_sore 29 = .ok (.istore_n 3, 1) := by decide +kernel
theorem dX9_sore_30 : decode cX9_sore 30 = .ok (.iload_n 3, 1) := by decide +kernel
theorem dX9_sore_31 : decode cX9_sore 31 = .ok (.aload_n 0, 1) := by decide +kernel
theorem dX9_sore_32 : decode cX9_sore 32 = .ok (.getfield 250, 3) := by decide +kernel
theorem dX9_sore_35 : decode cX9_sore 35 = .ok (.if_icmp .ge 48, 3) := by decide +kernel
theorem dX9_sore_38 : decode cX9_sore 38 = .ok (.iload_n 2, 1) := by decide +kernel
theorem dX9_sore_39 : decode cX9_sore 39 = .ok (.iconst (-1), 1) := by decide +kernel
theorem dX9_sore_40 : decode cX9_sore 40 = .ok (.if_icmp .eq 35, 3) := by decide +kernel
theorem dX9_sore_43 : decode cX9_sore 43 = .ok (.aload_n 0, 1) := by decide +kernel
theorem dX9_sore_44 : decode cX9_sore 44 = .ok (.getfield 56, 3) := by decide +kernel
theorem dX9_sore_47 : decode cX9_sore 47 = .ok (.iload_n 3, 1) := by decide +kernel
theorem dX9_sore_48 : decode cX9_sore 48 = .ok (.laload, 1) := by decide +kernel
theorem dX9_sore_49 : decode cX9_sore 49 = .ok (.aload_n 0, 1) := by decide +kernel
theorem dX9_sore_50 : decode cX9_sore 50 = .ok (.iload_n 3, 1) := by decide +kernel
theorem dX9_sore_51 : decode cX9_sore 51 = .ok (.iload_n 1, 1) := by decide +kernel
theorem dX9_sore_52 : decode cX9_sore 52 = .ok (.invokevirtual 256, 3) := by decide +kernel
theorem dX9_sore_55 : decode cX9_sore 55 = .ok (.i2l, 1) := by decide +kernel
theorem dX9_sore_56 : decode cX9_sore 56 = .ok (.ldiv, 1) := by decide +kernel
theorem dX9_sore_57 : decode cX9_sore 57 = .ok (.aload_n 0, 1) := by decide +kernel
theorem dX9_sore_58 : decode cX9_sore 58 = .ok (.getfield 56, 3) := by decide +kernel
theorem dX9_sore_61 : decode cX9_sore 61 = .ok (.iload_n 2, 1) := by decide +kernel
theorem dX9_sore_62 : decode cX9_sore 62 = .ok (.laload, 1) := by decide +kernel
theorem dX9_sore_63 : decode cX9_sore 63 = .ok (.aload_n 0, 1) := by decide +kernel
theorem dX9_sore_64 : decode cX9_sore 64 = .ok (.iload_n 2, 1) := by decide +kernel
theorem dX9_sore_65 : decode cX9_sore 65 = .ok (.iload_n 1, 1) := by decide +kernel
theorem dX9_sore_66 : decode cX9_sore 66 = .ok (.invokevirtual 256, 3) := by decide +kernel
theorem dX9_sore_69 : decode cX9_sore 69 = .ok (.i2l, 1) := by decide +kernel
theorem dX9_sore_70 : decode cX9_sore 70 = .ok (.ldiv, 1) := by decide +kernel
theorem dX9_sore_71 : decode cX9_sore 71 = .ok (.lcmp, 1) := by decide +kernel
theorem dX9_sore_72 : decode cX9_sore 72 = .ok (.ifCond .le 5, 3) := by decide +kernel
theorem dX9_sore_75 : decode cX9_sore 75 = .ok (.iload_n 3, 1) := by decide +kernel
