theorem dX8_refusalOfRow_56 : decode cX8_refusalOfRow 56 = .ok (.if_icmp .ge 76, 3) := by decide +kernel
theorem dX8_refusalOfRow_59 : decode cX8_refusalOfRow 59 = .ok (.aload_n 0, 1) := by decide +kernel
theorem dX8_refusalOfRow_60 : decode cX8_refusalOfRow 60 = .ok (.getfield 47, 3) := by decide +kernel
theorem dX8_refusalOfRow_63 : decode cX8_refusalOfRow 63 = .ok (.iload_n 1, 1) := by decide +kernel
theorem dX8_refusalOfRow_64 : decode cX8_refusalOfRow 64 = .ok (.iload_n 3, 1) := by decide +kernel
theorem dX8_refusalOfRow_65 : decode cX8_refusalOfRow 65 = .ok (.invokevirtual 417, 3) := by decide +kernel
theorem dX8_refusalOfRow_68 : decode cX8_refusalOfRow 68 = .ok (.lstore 4, 2) := by decide +kernel
theorem dX8_refusalOfRow_70 : decode cX8_refusalOfRow 70 = .ok (.lload 4, 2) := by decide +kernel
theorem dX8_refusalOfRow_72 : decode cX8_refusalOfRow 72 = .ok (.lconst 0, 1) := by decide +kernel
theorem dX8_refusalOfRow_73 : decode cX8_refusalOfRow 73 = .ok (.lcmp, 1) := by decide +kernel
theorem dX8_refusalOfRow_74 : decode cX8_refusalOfRow 74 = .ok (.ifCond .lt 49, 3) := by decide +kernel
theorem dX8_refusalOfRow_77 : decode cX8_refusalOfRow 77 = .ok (.lload 4, 2) := by decide +kernel
theorem dX8_refusalOfRow_79 : decode cX8_refusalOfRow 79 = .ok (.aload_n 0, 1) := by decide +kernel
theorem dX8_refusalOfRow_80 : decode cX8_refusalOfRow 80 = .ok (.getfield 33, 3) := by decide +kernel
theorem dX8_refusalOfRow_83 : decode cX8_refusalOfRow 83 = .ok (.getfield 242, 3) := by decide +kernel
theorem dX8_refusalOfRow_86 : decode cX8_refusalOfRow 86 = .ok (.i2l, 1) := by decide +kernel
theorem dX8_refusalOfRow_87 : decode cX8_refusalOfRow 87 = .ok (.lcmp, 1) := by decide +kernel
theorem dX8_refusalOfRow_88 : decode cX8_refusalOfRow 88 = .ok (.ifCond .gt 35, 3) := by decide +kernel
theorem dX8_refusalOfRow_91 : decode cX8_refusalOfRow 91 = .ok (.aload_n 0, 1) := by decide +kernel
theorem dX8_refusalOfRow_92 : decode cX8_refusalOfRow 92 = .ok (.getfield 47, 3) := by decide +kernel
theorem dX8_refusalOfRow_95 : decode cX8_refusalOfRow 95 = .ok (.iload_n 1, 1) := by decide +kernel
theorem dX8_refusalOfRow_96 : decode cX8_refusalOfRow 96 = .ok (.iload_n 3, 1) := by decide +kernel
theorem dX8_refusalOfRow_97 : decode cX8_refusalOfRow 97 = .ok (.iconst 1, 1) := by decide +kernel
theorem dX8_refusalOfRow_98 : decode cX8_refusalOfRow 98 = .ok (.iadd, 1) := by decide +kernel
theorem dX8_refusalOfRow_99 : decode cX8_refusalOfRow 99 = .ok (.invokevirtual 417, 3) := by decide +kernel
theorem dX8_refusalOfRow_102 : decode cX8_refusalOfRow 102 = .ok (.lconst 0, 1) := by decide +kernel
theorem dX8_refusalOfRow_103 : decode cX8_refusalOfRow 103 = .ok (.lcmp, 1) := by decide +kernel
theorem dX8_refusalOfRow_104 : decode cX8_refusalOfRow 104 = .ok (.ifCond .lt 19, 3) := by decide +kernel
theorem dX8_refusalOfRow_107 : decode cX8_refusalOfRow 107 = .ok (.aload_n 0, 1) := by decide +kernel
theorem dX8_refusalOfRow_108 : decode cX8_refusalOfRow 108 = .ok (.getfield 47, 3) := by decide +kernel
theorem dX8_refusalOfRow_111 : decode cX8_refusalOfRow 111 = .ok (.iload_n 1, 1) := by decide +kernel
theorem dX8_refusalOfRow_112 : decode cX8_refusalOfRow 112 = .ok (.iload_n 3, 1) := by decide +kernel
theorem dX8_refusalOfRow_113 : decode cX8_refusalOfRow 113 = .ok (.iconst 2, 1) := by decide +kernel
theorem dX8_refusalOfRow_114 : decode cX8_refusalOfRow 114 = .ok (.iadd, 1) := by decide +kernel
theorem dX8_refusalOfRow_115 : decode cX8_refusalOfRow 115 = .ok (.invokevirtual 417, 3) := by decide +kernel
theorem dX8_refusalOfRow_118 : decode cX8_refusalOfRow 118 = .ok (.lconst 0, 1) := by decide +kernel
theorem dX8_refusalOfRow_119 : decode cX8_refusalOfRow 119 = .ok (.lcmp, 1) := by decide +kernel
theorem dX8_refusalOfRow_120 : decode cX8_refusalOfRow 120 = .ok (.ifCond .ge 6, 3) := by decide +kernel
theorem dX8_refusalOfRow_123 : decode cX8_refusalOfRow 123 = .ok (.bipush (-2), 2) := by decide +kernel
theorem dX8_refusalOfRow_125 : decode cX8_refusalOfRow 125 = .ok (.ireturn, 1) := by decide +kernel
theorem dX8_refusalOfRow_126 : decode cX8_refusalOfRow 126 = .ok (.iinc 3 3, 3) := by decide +kernel
theorem dX8_refusalOfRow_129 : decode cX8_refusalOfRow 129 = .ok (.goto (-77), 3) := by decide +kernel
theorem dX8_refusalOfRow_132 : decode cX8_refusalOfRow 132 = .ok (.iconst 0, 1) := by decide +kernel
theorem dX8_refusalOfRow_133 : decode cX8_refusalOfRow 133 = .ok (.ireturn, 1) := by decide +kernel
theorem dX8_refusalOfSeen_0 : decode cX8_refusalOfSeen 0 = .ok (.aload_n 0, 1) := by decide +kernel
theorem dX8_refusalOfSeen_1 : decode cX8_refusalOfSeen 1 = .ok (.iload_n 2, 1) := by decide +kernel
theorem dX8_refusalOfSeen_2 : decode cX8_refusalOfSeen 2 = .ok (.invokevirtual 121, 3) := by decide +kernel
theorem dX8_refusalOfSeen_5 : decode cX8_refusalOfSeen 5 = .ok (.ifCond .eq 11, 3) := by decide +kernel
theorem dX8_refusalOfSeen_8 : decode cX8_refusalOfSeen 8 = .ok (.aload_n 0, 1) := by decide +kernel
theorem dX8_refusalOfSeen_9 : decode cX8_refusalOfSeen 9 = .ok (.iload_n 1, 1) := by decide +kernel
theorem dX8_refusalOfSeen_10 : decode cX8_refusalOfSeen 10 = .ok (.invokevirtual 302, 3) := by decide +kernel
theorem dX8_refusalOfSeen_13 : decode cX8_refusalOfSeen 13 = .ok (.goto 5, 3) := by decide +kernel
theorem dX8_refusalOfSeen_16 : decode cX8_refusalOfSeen 16 = .ok (.bipush (-2), 2) := by decide +kernel
theorem dX8_refusalOfSeen_18 : decode cX8_refusalOfSeen 18 = .ok (.ireturn, 1) := by decide +kernel
theorem dX8_rests_0 : decode cX8_rests 0 = .ok (.aload_n 0, 1) := by decide +kernel
theorem dX8_rests_1 : decode cX8_rests 1 = .ok (.iload_n 1, 1) := by decide +kernel
theorem dX8_rests_2 : decode cX8_rests 2 = .ok (.invokevirtual 121, 3) := by decide +kernel
theorem dX8_rests_5 : decode cX8_rests 5 = .ok (.ifCond .eq 16, 3) := by decide +kernel
theorem dX8_rests_8 : decode cX8_rests 8 = .ok (.aload_n 0, 1) := by decide +kernel
theorem dX8_rests_9 : decode cX8_rests 9 = .ok (.iload_n 2, 1) := by decide +kernel
theorem dX8_rests_10 : decode cX8_rests 10 = .ok (.invokevirtual 121, 3) := by decide +kernel
theorem dX8_rests_13 : decode cX8_rests 13 = .ok (.ifCond .eq 8, 3) := by decide +kernel
theorem dX8_rests_16 : decode cX8_rests 16 = .ok (.iload_n 1, 1) := by decide +kernel
theorem dX8_rests_17 : decode cX8_rests 17 = .ok (.iload_n 2, 1) := by decide +kernel
theorem dX8_rests_18 : decode cX8_rests 18 = .ok (.if_icmp .ne 6, 3) := by decide +kernel
theorem dX8_rests_21 : decode cX8_rests 21 = .ok (.bipush (-2), 2) := by decide +kernel
theorem dX8_rests_23 : decode cX8_rests 23 = .ok (.ireturn, 1) := by decide +kernel
theorem dX8_rests_24 : decode cX8_rests 24 = .ok (.iconst 0, 1) := by decide +kernel
theorem dX8_rests_25 : decode cX8_rests 25 = .ok (.istore_n 3, 1) := by decide +kernel
theorem dX8_rests_26 : decode cX8_rests 26 = .ok (.iconst 0, 1) := by decide +kernel
theorem dX8_rests_27 : decode cX8_rests 27 = .ok (.istore 4, 2) := by decide +kernel
theorem dX8_rests_29 : decode cX8_rests 29 = .ok (.iload 4, 2) := by decide +kernel
theorem dX8_rests_31 : decode cX8_rests 31 = .ok (.iconst 4, 1) := by decide +kernel
theorem dX8_rests_32 : decode cX8_rests 32 = .ok (.if_icmp .ge 97, 3) := by decide +kernel
theorem dX8_rests_35 : decode cX8_rests 35 = .ok (.iload_n 1, 1) := by decide +kernel
theorem dX8_rests_36 : decode cX8_rests 36 = .ok (.iload_n 2, 1) := by decide +kernel
theorem dX8_rests_37 : decode cX8_rests 37 = .ok (.iload 4, 2) := by decide +kernel
theorem dX8_rests_39 : decode cX8_rests 39 = .ok (.iconst 1, 1) := by decide +kernel
theorem dX8_rests_40 : decode cX8_rests 40 = .ok (.iand, 1) := by decide +kernel
theorem dX8_rests_41 : decode cX8_rests 41 = .ok (.iload 4, 2) := by decide +kernel
theorem dX8_rests_43 : decode cX8_rests 43 = .ok (.iconst 1, 1) := by decide +kernel
theorem dX8_rests_44 : decode cX8_rests 44 = .ok (.ishr, 1) := by decide +kernel
theorem dX8_rests_45 : decode cX8_rests 45 = .ok (.invokestatic 318, 3) := by decide +kernel
theorem dX8_rests_48 : decode cX8_rests 48 = .ok (.istore 5, 2) := by decide +kernel
theorem dX8_rests_50 : decode cX8_rests 50 = .ok (.aload_n 0, 1) := by decide +kernel
theorem dX8_rests_51 : decode cX8_rests 51 = .ok (.iload_n 1, 1) := by decide +kernel
theorem dX8_rests_52 : decode cX8_rests 52 = .ok (.iload 5, 2) := by decide +kernel
theorem dX8_rests_54 : decode cX8_rests 54 = .ok (.invokevirtual 322, 3) := by decide +kernel
theorem dX8_rests_57 : decode cX8_rests 57 = .ok (.aload_n 0, 1) := by decide +kernel
theorem dX8_rests_58 : decode cX8_rests 58 = .ok (.iload_n 1, 1) := by decide +kernel
theorem dX8_rests_59 : decode cX8_rests 59 = .ok (.iload 5, 2) := by decide +kernel
theorem dX8_rests_61 : decode cX8_rests 61 = .ok (.iconst 1, 1) := by decide +kernel
theorem dX8_rests_62 : decode cX8_rests 62 = .ok (.iload_n 1, 1) := by decide +kernel
theorem dX8_rests_63 : decode cX8_rests 63 = .ok (.ishl, 1) := by decide +kernel
theorem dX8_rests_64 : decode cX8_rests 64 = .ok (.ixor, 1) := by decide +kernel
theorem dX8_rests_65 : decode cX8_rests 65 = .ok (.invokevirtual 322, 3) := by decide +kernel
theorem dX8_rests_68 : decode cX8_rests 68 = .ok (.if_icmp .lt 7, 3) := by decide +kernel
theorem dX8_rests_71 : decode cX8_rests 71 = .ok (.iconst 1, 1) := by decide +kernel
theorem dX8_rests_72 : decode cX8_rests 72 = .ok (.goto 4, 3) := by decide +kernel
theorem dX8_rests_75 : decode cX8_rests 75 = .ok (.iconst 0, 1) := by decide +kernel
theorem dX8_rests_76 : decode cX8_rests 76 = .ok (.istore 6, 2) := by decide +kernel
theorem dX8_rests_78 : decode cX8_rests 78 = .ok (.aload_n 0, 1) := by decide +kernel
theorem dX8_rests_79 : decode cX8_rests 79 = .ok (.iload_n 2, 1) := by decide +kernel
theorem dX8_rests_80 : decode cX8_rests 80 = .ok (.iload 5, 2) := by decide +kernel
theorem dX8_rests_82 : decode cX8_rests 82 = .ok (.invokevirtual 322, 3) := by decide +kernel
theorem dX8_rests_85 : decode cX8_rests 85 = .ok (.aload_n 0, 1) := by decide +kernel
theorem dX8_rests_86 : decode cX8_rests 86 = .ok (.iload_n 2, 1) := by decide +kernel
theorem dX8_rests_87 : decode cX8_rests 87 = .ok (.iload 5, 2) := by decide +kernel
theorem dX8_rests_89 : decode cX8_rests 89 = .ok (.iconst 1, 1) := by decide +kernel
theorem dX8_rests_90 : decode cX8_rests 90 = .ok (.iload_n 2, 1) := by decide +kernel
theorem dX8_rests_91 : decode cX8_rests 91 = .ok (.ishl, 1) := by decide +kernel
theorem dX8_rests_92 : decode cX8_rests 92 = .ok (.ixor, 1) := by decide +kernel
theorem dX8_rests_93 : decode cX8_rests 93 = .ok (.invokevirtual 322, 3) := by decide +kernel
theorem dX8_rests_96 : decode cX8_rests 96 = .ok (.if_icmp .lt 7, 3) := by decide +kernel
theorem dX8_rests_99 : decode cX8_rests 99 = .ok (.iconst 1, 1) := by decide +kernel
theorem dX8_rests_100 : decode cX8_rests 100 = .ok (.goto 4, 3) := by decide +kernel
theorem dX8_rests_103 : decode cX8_rests 103 = .ok (.iconst 0, 1) := by decide +kernel
theorem dX8_rests_104 : decode cX8_rests 104 = .ok (.istore 7, 2) := by decide +kernel
theorem dX8_rests_106 : decode cX8_rests 106 = .ok (.iload 6, 2) := by decide +kernel
theorem dX8_rests_108 : decode cX8_rests 108 = .ok (.ifCond .eq 15, 3) := by decide +kernel
theorem dX8_rests_111 : decode cX8_rests 111 = .ok (.iload 7, 2) := by decide +kernel
theorem dX8_rests_113 : decode cX8_rests 113 = .ok (.ifCond .eq 10, 3) := by decide +kernel
theorem dX8_rests_116 : decode cX8_rests 116 = .ok (.iload_n 3, 1) := by decide +kernel
theorem dX8_rests_117 : decode cX8_rests 117 = .ok (.iconst 1, 1) := by decide +kernel
theorem dX8_rests_118 : decode cX8_rests 118 = .ok (.iload 4, 2) := by decide +kernel
theorem dX8_rests_120 : decode cX8_rests 120 = .ok (.ishl, 1) := by decide +kernel
theorem dX8_rests_121 : decode cX8_rests 121 = .ok (.ior, 1) := by decide +kernel
theorem dX8_rests_122 : decode cX8_rests 122 = .ok (.istore_n 3, 1) := by decide +kernel
theorem dX8_rests_123 : decode cX8_rests 123 = .ok (.iinc 4 1, 3) := by decide +kernel
theorem dX8_rests_126 : decode cX8_rests 126 = .ok (.goto (-97), 3) := by decide +kernel
theorem dX8_rests_129 : decode cX8_rests 129 = .ok (.iload_n 3, 1) := by decide +kernel
theorem dX8_rests_130 : decode cX8_rests 130 = .ok (.ireturn, 1) := by decide +kernel
theorem dX8_rises_0 : decode cX8_rises 0 = .ok (.aload_n 0, 1) := by decide +kernel
theorem dX8_rises_1 : decode cX8_rises 1 = .ok (.iload_n 1, 1) := by decide +kernel
theorem dX8_rises_2 : decode cX8_rises 2 = .ok (.invokevirtual 121, 3) := by decide +kernel
theorem dX8_rises_5 : decode cX8_rises 5 = .ok (.ifCond .ne 6, 3) := by decide +kernel
theorem dX8_rises_8 : decode cX8_rises 8 = .ok (.bipush (-2), 2) := by decide +kernel
theorem dX8_rises_10 : decode cX8_rises 10 = .ok (.ireturn, 1) := by decide +kernel
theorem dX8_rises_11 : decode cX8_rises 11 = .ok (.aload_n 0, 1) := by decide +kernel
theorem dX8_rises_12 : decode cX8_rises 12 = .ok (.getfield 54, 3) := by decide +kernel
theorem dX8_rises_15 : decode cX8_rises 15 = .ok (.aload_n 0, 1) := by decide +kernel
theorem dX8_rises_16 : decode cX8_rises 16 = .ok (.getfield 33, 3) := by decide +kernel
theorem dX8_rises_19 : decode cX8_rises 19 = .ok (.invokevirtual 148, 3) := by decide +kernel
theorem dX8_rises_22 : decode cX8_rises 22 = .ok (.iconst 0, 1) := by decide +kernel
theorem dX8_rises_23 : decode cX8_rises 23 = .ok (.istore_n 2, 1) := by decide +kernel
theorem dX8_rises_24 : decode cX8_rises 24 = .ok (.iconst 1, 1) := by decide +kernel
theorem dX8_rises_25 : decode cX8_rises 25 = .ok (.istore_n 3, 1) := by decide +kernel
theorem dX8_rises_26 : decode cX8_rises 26 = .ok (.iload_n 3, 1) := by decide +kernel
theorem dX8_rises_27 : decode cX8_rises 27 = .ok (.aload_n 0, 1) := by decide +kernel
theorem dX8_rises_28 : decode cX8_rises 28 = .ok (.getfield 33, 3) := by decide +kernel
theorem dX8_rises_31 : decode cX8_rises 31 = .ok (.getfield 242, 3) := by decide +kernel
theorem dX8_rises_34 : decode cX8_rises 34 = .ok (.if_icmp .gt 43, 3) := by decide +kernel
theorem dX8_rises_37 : decode cX8_rises 37 = .ok (.aload_n 0, 1) := by decide +kernel
theorem dX8_rises_38 : decode cX8_rises 38 = .ok (.getfield 54, 3) := by decide +kernel
theorem dX8_rises_41 : decode cX8_rises 41 = .ok (.aload_n 0, 1) := by decide +kernel
theorem dX8_rises_42 : decode cX8_rises 42 = .ok (.getfield 33, 3) := by decide +kernel
theorem dX8_rises_45 : decode cX8_rises 45 = .ok (.iload_n 1, 1) := by decide +kernel
theorem dX8_rises_46 : decode cX8_rises 46 = .ok (.iload_n 3, 1) := by decide +kernel
theorem dX8_rises_47 : decode cX8_rises 47 = .ok (.invokevirtual 151, 3) := by decide +kernel
theorem dX8_rises_50 : decode cX8_rises 50 = .ok (.aload_n 0, 1) := by decide +kernel
theorem dX8_rises_51 : decode cX8_rises 51 = .ok (.getfield 54, 3) := by decide +kernel
theorem dX8_rises_54 : decode cX8_rises 54 = .ok (.aload_n 0, 1) := by decide +kernel
theorem dX8_rises_55 : decode cX8_rises 55 = .ok (.getfield 33, 3) := by decide +kernel
theorem dX8_rises_58 : decode cX8_rises 58 = .ok (.iload_n 1, 1) := by decide +kernel
theorem dX8_rises_59 : decode cX8_rises 59 = .ok (.iload_n 3, 1) := by decide +kernel
theorem dX8_rises_60 : decode cX8_rises 60 = .ok (.iconst 1, 1) := by decide +kernel
theorem dX8_rises_61 : decode cX8_rises 61 = .ok (.isub, 1) := by decide +kernel
theorem dX8_rises_62 : decode cX8_rises 62 = .ok (.invokevirtual 151, 3) := by decide +kernel
theorem dX8_rises_65 : decode cX8_rises 65 = .ok (.if_icmp .le 6, 3) := by decide +kernel
theorem dX8_rises_68 : decode cX8_rises 68 = .ok (.iinc 2 1, 3) := by decide +kernel
theorem dX8_rises_71 : decode cX8_rises 71 = .ok (.iinc 3 1, 3) := by decide +kernel
theorem dX8_rises_74 : decode cX8_rises 74 = .ok (.goto (-48), 3) := by decide +kernel
theorem dX8_rises_77 : decode cX8_rises 77 = .ok (.iload_n 2, 1) := by decide +kernel
theorem dX8_rises_78 : decode cX8_rises 78 = .ok (.ireturn, 1) := by decide +kernel
theorem dX8_row_0 : decode cX8_row 0 = .ok (.iload_n 1, 1) := by decide +kernel
theorem dX8_row_1 : decode cX8_row 1 = .ok (.invokestatic 364, 3) := by decide +kernel
theorem dX8_row_4 : decode cX8_row 4 = .ok (.ifCond .eq 18, 3) := by decide +kernel
theorem dX8_row_7 : decode cX8_row 7 = .ok (.iload_n 2, 1) := by decide +kernel
theorem dX8_row_8 : decode cX8_row 8 = .ok (.ifCond .lt 14, 3) := by decide +kernel
theorem dX8_row_11 : decode cX8_row 11 = .ok (.iload_n 2, 1) := by decide +kernel
theorem dX8_row_12 : decode cX8_row 12 = .ok (.iconst 3, 1) := by decide +kernel
theorem dX8_row_13 : decode cX8_row 13 = .ok (.if_icmp .gt 9, 3) := by decide +kernel
theorem dX8_row_16 : decode cX8_row 16 = .ok (.iload_n 3, 1) := by decide +kernel
theorem dX8_row_17 : decode cX8_row 17 = .ok (.bipush 60, 2) := by decide +kernel
theorem dX8_row_19 : decode cX8_row 19 = .ok (.if_icmp .le 6, 3) := by decide +kernel
theorem dX8_row_22 : decode cX8_row 22 = .ok (.bipush (-2), 2) := by decide +kernel
theorem dX8_row_24 : decode cX8_row 24 = .ok (.ireturn, 1) := by decide +kernel
theorem dX8_row_25 : decode cX8_row 25 = .ok (.iload_n 3, 1) := by decide +kernel
theorem dX8_row_26 : decode cX8_row 26 = .ok (.ifCond .ge 6, 3) := by decide +kernel
theorem dX8_row_29 : decode cX8_row 29 = .ok (.bipush (-3), 2) := by decide +kernel
theorem dX8_row_31 : decode cX8_row 31 = .ok (.ireturn, 1) := by decide +kernel
theorem dX8_row_32 : decode cX8_row 32 = .ok (.aload_n 0, 1) := by decide +kernel
theorem dX8_row_33 : decode cX8_row 33 = .ok (.getfield 47, 3) := by decide +kernel
theorem dX8_row_36 : decode cX8_row 36 = .ok (.iload_n 1, 1) := by decide +kernel
theorem dX8_row_37 : decode cX8_row 37 = .ok (.iload_n 2, 1) := by decide +kernel
theorem dX8_row_38 : decode cX8_row 38 = .ok (.iload_n 3, 1) := by decide +kernel
theorem dX8_row_39 : decode cX8_row 39 = .ok (.invokevirtual 367, 3) := by decide +kernel
theorem dX8_row_42 : decode cX8_row 42 = .ok (.iconst 0, 1) := by decide +kernel
theorem dX8_row_43 : decode cX8_row 43 = .ok (.ireturn, 1) := by decide +kernel
theorem dX8_settleAsTold_0 : decode cX8_settleAsTold 0 = .ok (.aload_n 0, 1) := by decide +kernel
theorem dX8_settleAsTold_1 : decode cX8_settleAsTold 1 = .ok (.getfield 54, 3) := by decide +kernel
theorem dX8_settleAsTold_4 : decode cX8_settleAsTold 4 = .ok (.aload_n 0, 1) := by decide +kernel
theorem dX8_settleAsTold_5 : decode cX8_settleAsTold 5 = .ok (.getfield 33, 3) := by decide +kernel
theorem dX8_settleAsTold_8 : decode cX8_settleAsTold 8 = .ok (.invokevirtual 148, 3) := by decide +kernel
theorem dX8_settleAsTold_11 : decode cX8_settleAsTold 11 = .ok (.aload_n 0, 1) := by decide +kernel
theorem dX8_settleAsTold_12 : decode cX8_settleAsTold 12 = .ok (.getfield 61, 3) := by decide +kernel
theorem dX8_settleAsTold_15 : decode cX8_settleAsTold 15 = .ok (.aload_n 0, 1) := by decide +kernel
theorem dX8_settleAsTold_16 : decode cX8_settleAsTold 16 = .ok (.getfield 33, 3) := by decide +kernel
theorem dX8_settleAsTold_19 : decode cX8_settleAsTold 19 = .ok (.aload_n 0, 1) := by decide +kernel
theorem dX8_settleAsTold_20 : decode cX8_settleAsTold 20 = .ok (.getfield 54, 3) := by decide +kernel
theorem dX8_settleAsTold_23 : decode cX8_settleAsTold 23 = .ok (.iload_n 1, 1) := by decide +kernel
theorem dX8_settleAsTold_24 : decode cX8_settleAsTold 24 = .ok (.invokevirtual 281, 3) := by decide +kernel
theorem dX8_settleAsTold_27 : decode cX8_settleAsTold 27 = .ok (.return_, 1) := by decide +kernel
theorem dX8_share_0 : decode cX8_share 0 = .ok (.aload_n 0, 1) := by decide +kernel
theorem dX8_share_1 : decode cX8_share 1 = .ok (.iload_n 1, 1) := by decide +kernel
theorem dX8_share_2 : decode cX8_share 2 = .ok (.invokevirtual 121, 3) := by decide +kernel
theorem dX8_share_5 : decode cX8_share 5 = .ok (.ifCond .eq 10, 3) := by decide +kernel
theorem dX8_share_8 : decode cX8_share 8 = .ok (.iload_n 2, 1) := by decide +kernel
theorem dX8_share_9 : decode cX8_share 9 = .ok (.invokestatic 159, 3) := by decide +kernel
theorem dX8_share_12 : decode cX8_share 12 = .ok (.ifCond .ne 7, 3) := by decide +kernel
theorem dX8_share_15 : decode cX8_share 15 = .ok (.ldc_w 314, 3) := by decide +kernel
theorem dX8_share_18 : decode cX8_share 18 = .ok (.ireturn, 1) := by decide +kernel
theorem dX8_share_19 : decode cX8_share 19 = .ok (.iconst 0, 1) := by decide +kernel
theorem dX8_share_20 : decode cX8_share 20 = .ok (.istore_n 3, 1) := by decide +kernel
theorem dX8_share_21 : decode cX8_share 21 = .ok (.iload_n 3, 1) := by decide +kernel
theorem dX8_share_22 : decode cX8_share 22 = .ok (.aload_n 0, 1) := by decide +kernel
theorem dX8_share_23 : decode cX8_share 23 = .ok (.invokevirtual 257, 3) := by decide +kernel
theorem dX8_share_26 : decode cX8_share 26 = .ok (.if_icmp .gt 20, 3) := by decide +kernel
theorem dX8_share_29 : decode cX8_share 29 = .ok (.aload_n 0, 1) := by decide +kernel
theorem dX8_share_30 : decode cX8_share 30 = .ok (.getfield 76, 3) := by decide +kernel
theorem dX8_share_33 : decode cX8_share 33 = .ok (.iload_n 3, 1) := by decide +kernel
theorem dX8_share_34 : decode cX8_share 34 = .ok (.aload_n 0, 1) := by decide +kernel
theorem dX8_share_35 : decode cX8_share 35 = .ok (.iload_n 3, 1) := by decide +kernel
theorem dX8_share_36 : decode cX8_share 36 = .ok (.invokevirtual 260, 3) := by decide +kernel
theorem dX8_share_39 : decode cX8_share 39 = .ok (.iastore, 1) := by decide +kernel
theorem dX8_share_40 : decode cX8_share 40 = .ok (.iinc 3 1, 3) := by decide +kernel
theorem dX8_share_43 : decode cX8_share 43 = .ok (.goto (-22), 3) := by decide +kernel
theorem dX8_share_46 : decode cX8_share 46 = .ok (.lconst 0, 1) := by decide +kernel
theorem dX8_share_47 : decode cX8_share 47 = .ok (.lstore_n 3, 1) := by decide +kernel
theorem dX8_share_48 : decode cX8_share 48 = .ok (.iconst 0, 1) := by decide +kernel
theorem dX8_share_49 : decode cX8_share 49 = .ok (.istore 5, 2) := by decide +kernel
theorem dX8_share_51 : decode cX8_share 51 = .ok (.iload 5, 2) := by decide +kernel
theorem dX8_share_53 : decode cX8_share 53 = .ok (.aload_n 0, 1) := by decide +kernel
theorem dX8_share_54 : decode cX8_share 54 = .ok (.invokevirtual 257, 3) := by decide +kernel
theorem dX8_share_57 : decode cX8_share 57 = .ok (.if_icmp .gt 74, 3) := by decide +kernel
theorem dX8_share_60 : decode cX8_share 60 = .ok (.iload 5, 2) := by decide +kernel
theorem dX8_share_62 : decode cX8_share 62 = .ok (.iload_n 1, 1) := by decide +kernel
theorem dX8_share_63 : decode cX8_share 63 = .ok (.invokestatic 272, 3) := by decide +kernel
theorem dX8_share_66 : decode cX8_share 66 = .ok (.ifCond .ne 59, 3) := by decide +kernel
theorem dX8_share_69 : decode cX8_share 69 = .ok (.iload 5, 2) := by decide +kernel
theorem dX8_share_71 : decode cX8_share 71 = .ok (.invokestatic 227, 3) := by decide +kernel
theorem dX8_share_74 : decode cX8_share 74 = .ok (.istore 6, 2) := by decide +kernel
theorem dX8_share_76 : decode cX8_share 76 = .ok (.iload 6, 2) := by decide +kernel
theorem dX8_share_78 : decode cX8_share 78 = .ok (.invokestatic 315, 3) := by decide +kernel
theorem dX8_share_81 : decode cX8_share 81 = .ok (.aload_n 0, 1) := by decide +kernel
theorem dX8_share_82 : decode cX8_share 82 = .ok (.getfield 33, 3) := by decide +kernel
theorem dX8_share_85 : decode cX8_share 85 = .ok (.getfield 210, 3) := by decide +kernel
theorem dX8_share_88 : decode cX8_share 88 = .ok (.iconst 1, 1) := by decide +kernel
theorem dX8_share_89 : decode cX8_share 89 = .ok (.isub, 1) := by decide +kernel
theorem dX8_share_90 : decode cX8_share 90 = .ok (.iload 6, 2) := by decide +kernel
theorem dX8_share_92 : decode cX8_share 92 = .ok (.isub, 1) := by decide +kernel
theorem dX8_share_93 : decode cX8_share 93 = .ok (.invokestatic 315, 3) := by decide +kernel
theorem dX8_share_96 : decode cX8_share 96 = .ok (.lmul, 1) := by decide +kernel
theorem dX8_share_97 : decode cX8_share 97 = .ok (.lstore 7, 2) := by decide +kernel
theorem dX8_share_99 : decode cX8_share 99 = .ok (.lload_n 3, 1) := by decide +kernel
theorem dX8_share_100 : decode cX8_share 100 = .ok (.lload 7, 2) := by decide +kernel
theorem dX8_share_102 : decode cX8_share 102 = .ok (.aload_n 0, 1) := by decide +kernel
theorem dX8_share_103 : decode cX8_share 103 = .ok (.getfield 76, 3) := by decide +kernel
theorem dX8_share_106 : decode cX8_share 106 = .ok (.iload 5, 2) := by decide +kernel
theorem dX8_share_108 : decode cX8_share 108 = .ok (.iconst 1, 1) := by decide +kernel
theorem dX8_share_109 : decode cX8_share 109 = .ok (.iload_n 1, 1) := by decide +kernel
theorem dX8_share_110 : decode cX8_share 110 = .ok (.ishl, 1) := by decide +kernel
theorem dX8_share_111 : decode cX8_share 111 = .ok (.ior, 1) := by decide +kernel
theorem dX8_share_112 : decode cX8_share 112 = .ok (.iaload, 1) := by decide +kernel
theorem dX8_share_113 : decode cX8_share 113 = .ok (.aload_n 0, 1) := by decide +kernel
theorem dX8_share_114 : decode cX8_share 114 = .ok (.getfield 76, 3) := by decide +kernel
theorem dX8_share_117 : decode cX8_share 117 = .ok (.iload 5, 2) := by decide +kernel
theorem dX8_share_119 : decode cX8_share 119 = .ok (.iaload, 1) := by decide +kernel
theorem dX8_share_120 : decode cX8_share 120 = .ok (.isub, 1) := by decide +kernel
theorem dX8_share_121 : decode cX8_share 121 = .ok (.i2l, 1) := by decide +kernel
theorem dX8_share_122 : decode cX8_share 122 = .ok (.lmul, 1) := by decide +kernel
theorem dX8_share_123 : decode cX8_share 123 = .ok (.ladd, 1) := by decide +kernel
theorem dX8_share_124 : decode cX8_share 124 = .ok (.lstore_n 3, 1) := by decide +kernel
theorem dX8_share_125 : decode cX8_share 125 = .ok (.iinc 5 1, 3) := by decide +kernel
theorem dX8_share_128 : decode cX8_share 128 = .ok (.goto (-77), 3) := by decide +kernel
theorem dX8_share_131 : decode cX8_share 131 = .ok (.aload_n 0, 1) := by decide +kernel
theorem dX8_share_132 : decode cX8_share 132 = .ok (.lload_n 3, 1) := by decide +kernel
theorem dX8_share_133 : decode cX8_share 133 = .ok (.aload_n 0, 1) := by decide +kernel
theorem dX8_share_134 : decode cX8_share 134 = .ok (.getfield 33, 3) := by decide +kernel
theorem dX8_share_137 : decode cX8_share 137 = .ok (.getfield 210, 3) := by decide +kernel
theorem dX8_share_140 : decode cX8_share 140 = .ok (.invokestatic 315, 3) := by decide +kernel
theorem dX8_share_143 : decode cX8_share 143 = .ok (.iload_n 2, 1) := by decide +kernel
theorem dX8_share_144 : decode cX8_share 144 = .ok (.invokevirtual 186, 3) := by decide +kernel
theorem dX8_share_147 : decode cX8_share 147 = .ok (.l2i, 1) := by decide +kernel
theorem dX8_share_148 : decode cX8_share 148 = .ok (.ireturn, 1) := by decide +kernel
theorem dX8_silent_0 : decode cX8_silent 0 = .ok (.aload_n 0, 1) := by decide +kernel
theorem dX8_silent_1 : decode cX8_silent 1 = .ok (.iload_n 1, 1) := by decide +kernel
theorem dX8_silent_2 : decode cX8_silent 2 = .ok (.invokevirtual 145, 3) := by decide +kernel
theorem dX8_silent_5 : decode cX8_silent 5 = .ok (.ifCond .ne 6, 3) := by decide +kernel
theorem dX8_silent_8 : decode cX8_silent 8 = .ok (.bipush (-2), 2) := by decide +kernel
theorem dX8_silent_10 : decode cX8_silent 10 = .ok (.ireturn, 1) := by decide +kernel
theorem dX8_silent_11 : decode cX8_silent 11 = .ok (.aload_n 0, 1) := by decide +kernel
theorem dX8_silent_12 : decode cX8_silent 12 = .ok (.getfield 54, 3) := by decide +kernel
theorem dX8_silent_15 : decode cX8_silent 15 = .ok (.aload_n 0, 1) := by decide +kernel
theorem dX8_silent_16 : decode cX8_silent 16 = .ok (.getfield 33, 3) := by decide +kernel
theorem dX8_silent_19 : decode cX8_silent 19 = .ok (.invokevirtual 148, 3) := by decide +kernel
theorem dX8_silent_22 : decode cX8_silent 22 = .ok (.aload_n 0, 1) := by decide +kernel
theorem dX8_silent_23 : decode cX8_silent 23 = .ok (.getfield 33, 3) := by decide +kernel
theorem dX8_silent_26 : decode cX8_silent 26 = .ok (.invokevirtual 138, 3) := by decide +kernel
theorem dX8_silent_29 : decode cX8_silent 29 = .ok (.aload_n 0, 1) := by decide +kernel
theorem dX8_silent_30 : decode cX8_silent 30 = .ok (.iload_n 1, 1) := by decide +kernel
theorem dX8_silent_31 : decode cX8_silent 31 = .ok (.invokevirtual 207, 3) := by decide +kernel
theorem dX8_silent_34 : decode cX8_silent 34 = .ok (.iconst (-1), 1) := by decide +kernel
theorem dX8_silent_35 : decode cX8_silent 35 = .ok (.ixor, 1) := by decide +kernel
theorem dX8_silent_36 : decode cX8_silent 36 = .ok (.iand, 1) := by decide +kernel
theorem dX8_silent_37 : decode cX8_silent 37 = .ok (.ireturn, 1) := by decide +kernel
theorem dX8_snapped_0 : decode cX8_snapped 0 = .ok (.aload_n 0, 1) := by decide +kernel
theorem dX8_snapped_1 : decode cX8_snapped 1 = .ok (.iload_n 1, 1) := by decide +kernel
theorem dX8_snapped_2 : decode cX8_snapped 2 = .ok (.invokevirtual 121, 3) := by decide +kernel
theorem dX8_snapped_5 : decode cX8_snapped 5 = .ok (.ifCond .eq 14, 3) := by decide +kernel
theorem dX8_snapped_8 : decode cX8_snapped 8 = .ok (.aload_n 0, 1) := by decide +kernel
theorem dX8_snapped_9 : decode cX8_snapped 9 = .ok (.getfield 33, 3) := by decide +kernel
theorem dX8_snapped_12 : decode cX8_snapped 12 = .ok (.iload_n 1, 1) := by decide +kernel
theorem dX8_snapped_13 : decode cX8_snapped 13 = .ok (.invokevirtual 269, 3) := by decide +kernel
theorem dX8_snapped_16 : decode cX8_snapped 16 = .ok (.goto 5, 3) := by decide +kernel
theorem dX8_snapped_19 : decode cX8_snapped 19 = .ok (.bipush (-2), 2) := by decide +kernel
theorem dX8_snapped_21 : decode cX8_snapped 21 = .ok (.ireturn, 1) := by decide +kernel
theorem dX8_snaps_0 : decode cX8_snaps 0 = .ok (.aload_n 0, 1) := by decide +kernel
theorem dX8_snaps_1 : decode cX8_snaps 1 = .ok (.iload_n 1, 1) := by decide +kernel
theorem dX8_snaps_2 : decode cX8_snaps 2 = .ok (.invokevirtual 121, 3) := by decide +kernel
theorem dX8_snaps_5 : decode cX8_snaps 5 = .ok (.ifCond .eq 11, 3) := by decide +kernel
theorem dX8_snaps_8 : decode cX8_snaps 8 = .ok (.aload_n 0, 1) := by decide +kernel
theorem dX8_snaps_9 : decode cX8_snaps 9 = .ok (.iload_n 2, 1) := by decide +kernel
theorem dX8_snaps_10 : decode cX8_snaps 10 = .ok (.invokevirtual 145, 3) := by decide +kernel
theorem dX8_snaps_13 : decode cX8_snaps 13 = .ok (.ifCond .ne 6, 3) := by decide +kernel
theorem dX8_snaps_16 : decode cX8_snaps 16 = .ok (.bipush (-2), 2) := by decide +kernel
theorem dX8_snaps_18 : decode cX8_snaps 18 = .ok (.ireturn, 1) := by decide +kernel
theorem dX8_snaps_19 : decode cX8_snaps 19 = .ok (.aload_n 0, 1) := by decide +kernel
theorem dX8_snaps_20 : decode cX8_snaps 20 = .ok (.getfield 33, 3) := by decide +kernel
theorem dX8_snaps_23 : decode cX8_snaps 23 = .ok (.getfield 335, 3) := by decide +kernel
theorem dX8_snaps_26 : decode cX8_snaps 26 = .ok (.bipush 30, 2) := by decide +kernel
theorem dX8_snaps_28 : decode cX8_snaps 28 = .ok (.if_icmp .lt 6, 3) := by decide +kernel
theorem dX8_snaps_31 : decode cX8_snaps 31 = .ok (.bipush (-5), 2) := by decide +kernel
theorem dX8_snaps_33 : decode cX8_snaps 33 = .ok (.ireturn, 1) := by decide +kernel
theorem dX8_snaps_34 : decode cX8_snaps 34 = .ok (.aload_n 0, 1) := by decide +kernel
theorem dX8_snaps_35 : decode cX8_snaps 35 = .ok (.getfield 33, 3) := by decide +kernel
theorem dX8_snaps_38 : decode cX8_snaps 38 = .ok (.iconst 1, 1) := by decide +kernel
theorem dX8_snaps_39 : decode cX8_snaps 39 = .ok (.iload_n 1, 1) := by decide +kernel
theorem dX8_snaps_40 : decode cX8_snaps 40 = .ok (.iload_n 2, 1) := by decide +kernel
theorem dX8_snaps_41 : decode cX8_snaps 41 = .ok (.invokevirtual 338, 3) := by decide +kernel
theorem dX8_snaps_44 : decode cX8_snaps 44 = .ok (.aload_n 0, 1) := by decide +kernel
theorem dX8_snaps_45 : decode cX8_snaps 45 = .ok (.getfield 54, 3) := by decide +kernel
theorem dX8_snaps_48 : decode cX8_snaps 48 = .ok (.aload_n 0, 1) := by decide +kernel
theorem dX8_snaps_49 : decode cX8_snaps 49 = .ok (.getfield 33, 3) := by decide +kernel
theorem dX8_snaps_52 : decode cX8_snaps 52 = .ok (.invokevirtual 148, 3) := by decide +kernel
theorem dX8_snaps_55 : decode cX8_snaps 55 = .ok (.aload_n 0, 1) := by decide +kernel
theorem dX8_snaps_56 : decode cX8_snaps 56 = .ok (.getfield 54, 3) := by decide +kernel
theorem dX8_snaps_59 : decode cX8_snaps 59 = .ok (.aload_n 0, 1) := by decide +kernel
theorem dX8_snaps_60 : decode cX8_snaps 60 = .ok (.getfield 33, 3) := by decide +kernel
theorem dX8_snaps_63 : decode cX8_snaps 63 = .ok (.aload_n 0, 1) := by decide +kernel
theorem dX8_snaps_64 : decode cX8_snaps 64 = .ok (.getfield 33, 3) := by decide +kernel
theorem dX8_snaps_67 : decode cX8_snaps 67 = .ok (.getfield 242, 3) := by decide +kernel
theorem dX8_snaps_70 : decode cX8_snaps 70 = .ok (.invokevirtual 155, 3) := by decide +kernel
theorem dX8_snaps_73 : decode cX8_snaps 73 = .ok (.ireturn, 1) := by decide +kernel
theorem dX8_sore_0 : decode cX8_sore 0 = .ok (.aload_n 0, 1) := by decide +kernel
theorem dX8_sore_1 : decode cX8_sore 1 = .ok (.iload_n 1, 1) := by decide +kernel
theorem dX8_sore_2 : decode cX8_sore 2 = .ok (.invokevirtual 145, 3) := by decide +kernel
theorem dX8_sore_5 : decode cX8_sore 5 = .ok (.ifCond .ne 6, 3) := by decide +kernel
theorem dX8_sore_8 : decode cX8_sore 8 = .ok (.bipush (-2), 2) := by decide +kernel
theorem dX8_sore_10 : decode cX8_sore 10 = .ok (.ireturn, 1) := by decide +kernel
theorem dX8_sore_11 : decode cX8_sore 11 = .ok (.aload_n 0, 1) := by decide +kernel
theorem dX8_sore_12 : decode cX8_sore 12 = .ok (.iload_n 1, 1) := by decide +kernel
theorem dX8_sore_13 : decode cX8_sore 13 = .ok (.invokevirtual 164, 3) := by decide +kernel
theorem dX8_sore_16 : decode cX8_sore 16 = .ok (.iconst (-1), 1) := by decide +kernel
theorem dX8_sore_17 : decode cX8_sore 17 = .ok (.istore_n 2, 1) := by decide +kernel
theorem dX8_sore_18 : decode cX8_sore 18 = .ok (.iconst 0, 1) := by decide +kernel
theorem dX8_sore_19 : decode cX8_sore 19 = .ok (.istore_n 3, 1) := by decide +kernel
theorem dX8_sore_20 : decode cX8_sore 20 = .ok (.iload_n 3, 1) := by decide +kernel
theorem dX8_sore_21 : decode cX8_sore 21 = .ok (.aload_n 0, 1) := by decide +kernel
theorem dX8_sore_22 : decode cX8_sore 22 = .ok (.getfield 61, 3) := by decide +kernel
theorem dX8_sore_25 : decode cX8_sore 25 = .ok (.getfield 200, 3) := by decide +kernel
theorem dX8_sore_28 : decode cX8_sore 28 = .ok (.if_icmp .ge 28, 3) := by decide +kernel
theorem dX8_sore_31 : decode cX8_sore 31 = .ok (.iload_n 2, 1) := by decide +kernel
theorem dX8_sore_32 : decode cX8_sore 32 = .ok (.iconst (-1), 1) := by decide +kernel
theorem dX8_sore_33 : decode cX8_sore 33 = .ok (.if_icmp .eq 15, 3) := by decide +kernel
theorem dX8_sore_36 : decode cX8_sore 36 = .ok (.aload_n 0, 1) := by decide +kernel
theorem dX8_sore_37 : decode cX8_sore 37 = .ok (.getfield 61, 3) := by decide +kernel
theorem dX8_sore_40 : decode cX8_sore 40 = .ok (.iload_n 3, 1) := by decide +kernel
theorem dX8_sore_41 : decode cX8_sore 41 = .ok (.iload_n 2, 1) := by decide +kernel
theorem dX8_sore_42 : decode cX8_sore 42 = .ok (.invokevirtual 203, 3) := by decide +kernel
theorem dX8_sore_45 : decode cX8_sore 45 = .ok (.ifCond .eq 5, 3) := by decide +kernel
theorem dX8_sore_48 : decode cX8_sore 48 = .ok (.iload_n 3, 1) := by decide +kernel
theorem dX8_sore_49 : decode cX8_sore 49 = .ok (.istore_n 2, 1) := by decide +kernel
theorem dX8_sore_50 : decode cX8_sore 50 = .ok (.iinc 3 1, 3) := by decide +kernel
theorem dX8_sore_53 : decode cX8_sore 53 = .ok (.goto (-33), 3) := by decide +kernel
theorem dX8_sore_56 : decode cX8_sore 56 = .ok (.iload_n 2, 1) := by decide +kernel
theorem dX8_sore_57 : decode cX8_sore 57 = .ok (.ireturn, 1) := by decide +kernel
theorem dX8_span_0 : decode cX8_span 0 = .ok (.aload_n 0, 1) := by decide +kernel
theorem dX8_span_1 : decode cX8_span 1 = .ok (.iload_n 1, 1) := by decide +kernel
theorem dX8_span_2 : decode cX8_span 2 = .ok (.invokevirtual 121, 3) := by decide +kernel
