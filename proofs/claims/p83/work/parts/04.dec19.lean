theorem dX9_laws_12 : decode cX9_laws 12 = .ok (.iload_n 2, 1) := by decide +kernel
theorem dX9_laws_13 : decode cX9_laws 13 = .ok (.ifCond .eq 5, 3) := by decide +kernel
theorem dX9_laws_16 : decode cX9_laws 16 = .ok (.iload_n 2, 1) := by decide +kernel
theorem dX9_laws_17 : decode cX9_laws 17 = .ok (.ireturn, 1) := by decide +kernel
theorem dX9_laws_18 : decode cX9_laws 18 = .ok (.iconst 0, 1) := by decide +kernel
theorem dX9_laws_19 : decode cX9_laws 19 = .ok (.istore_n 3, 1) := by decide +kernel
theorem dX9_laws_20 : decode cX9_laws 20 = .ok (.iconst 0, 1) := by decide +kernel
theorem dX9_laws_21 : decode cX9_laws 21 = .ok (.istore 4, 2) := by decide +kernel
theorem dX9_laws_23 : decode cX9_laws 23 = .ok (.iload 4, 2) := by decide +kernel
theorem dX9_laws_25 : decode cX9_laws 25 = .ok (.iconst 4, 1) := by decide +kernel
theorem dX9_laws_26 : decode cX9_laws 26 = .ok (.if_icmp .ge 38, 3) := by decide +kernel
theorem dX9_laws_29 : decode cX9_laws 29 = .ok (.aload_n 0, 1) := by decide +kernel
theorem dX9_laws_30 : decode cX9_laws 30 = .ok (.invokevirtual 286, 3) := by decide +kernel
theorem dX9_laws_33 : decode cX9_laws 33 = .ok (.aload_n 0, 1) := by decide +kernel
theorem dX9_laws_34 : decode cX9_laws 34 = .ok (.iload 4, 2) := by decide +kernel
theorem dX9_laws_36 : decode cX9_laws 36 = .ok (.putfield 225, 3) := by decide +kernel
theorem dX9_laws_39 : decode cX9_laws 39 = .ok (.iload_n 3, 1) := by decide +kernel
theorem dX9_laws_40 : decode cX9_laws 40 = .ok (.aload_n 0, 1) := by decide +kernel
theorem dX9_laws_41 : decode cX9_laws 41 = .ok (.iload_n 1, 1) := by decide +kernel
theorem dX9_laws_42 : decode cX9_laws 42 = .ok (.invokevirtual 340, 3) := by decide +kernel
theorem dX9_laws_45 : decode cX9_laws 45 = .ok (.ifCond .eq 10, 3) := by decide +kernel
theorem dX9_laws_48 : decode cX9_laws 48 = .ok (.iconst 1, 1) := by decide +kernel
theorem dX9_laws_49 : decode cX9_laws 49 = .ok (.iload 4, 2) := by decide +kernel
theorem dX9_laws_51 : decode cX9_laws 51 = .ok (.ishl, 1) := by decide +kernel
theorem dX9_laws_52 : decode cX9_laws 52 = .ok (.goto 4, 3) := by decide +kernel
theorem dX9_laws_55 : decode cX9_laws 55 = .ok (.iconst 0, 1) := by decide +kernel
theorem dX9_laws_56 : decode cX9_laws 56 = .ok (.ior, 1) := by decide +kernel
theorem dX9_laws_57 : decode cX9_laws 57 = .ok (.istore_n 3, 1) := by decide +kernel
theorem dX9_laws_58 : decode cX9_laws 58 = .ok (.iinc 4 1, 3) := by decide +kernel
theorem dX9_laws_61 : decode cX9_laws 61 = .ok (.goto (-38), 3) := by decide +kernel
theorem dX9_laws_64 : decode cX9_laws 64 = .ok (.iload_n 3, 1) := by decide +kernel
theorem dX9_laws_65 : decode cX9_laws 65 = .ok (.ireturn, 1) := by decide +kernel
theorem dX9_lays_0 : decode cX9_lays 0 = .ok (.aload_n 0, 1) := by decide +kernel
theorem dX9_lays_1 : decode cX9_lays 1 = .ok (.aload_n 0, 1) := by decide +kernel
theorem dX9_lays_2 : decode cX9_lays 2 = .ok (.getfield 34, 3) := by decide +kernel
theorem dX9_lays_5 : decode cX9_lays 5 = .ok (.iconst 1, 1) := by decide +kernel
theorem dX9_lays_6 : decode cX9_lays 6 = .ok (.iaload, 1) := by decide +kernel
theorem dX9_lays_7 : decode cX9_lays 7 = .ok (.putfield 225, 3) := by decide +kernel
theorem dX9_lays_10 : decode cX9_lays 10 = .ok (.aload_n 0, 1) := by decide +kernel
theorem dX9_lays_11 : decode cX9_lays 11 = .ok (.iconst 0, 1) := by decide +kernel
theorem dX9_lays_12 : decode cX9_lays 12 = .ok (.putfield 228, 3) := by decide +kernel
theorem dX9_lays_15 : decode cX9_lays 15 = .ok (.aload_n 0, 1) := by decide +kernel
theorem dX9_lays_16 : decode cX9_lays 16 = .ok (.iconst 0, 1) := by decide +kernel
theorem dX9_lays_17 : decode cX9_lays 17 = .ok (.putfield 231, 3) := by decide +kernel
theorem dX9_lays_20 : decode cX9_lays 20 = .ok (.aload_n 0, 1) := by decide +kernel
theorem dX9_lays_21 : decode cX9_lays 21 = .ok (.iconst 0, 1) := by decide +kernel
theorem dX9_lays_22 : decode cX9_lays 22 = .ok (.putfield 234, 3) := by decide +kernel
theorem dX9_lays_25 : decode cX9_lays 25 = .ok (.aload_n 0, 1) := by decide +kernel
theorem dX9_lays_26 : decode cX9_lays 26 = .ok (.aload_n 0, 1) := by decide +kernel
theorem dX9_lays_27 : decode cX9_lays 27 = .ok (.getfield 34, 3) := by decide +kernel
theorem dX9_lays_30 : decode cX9_lays 30 = .ok (.iconst 3, 1) := by decide +kernel
theorem dX9_lays_31 : decode cX9_lays 31 = .ok (.iaload, 1) := by decide +kernel
theorem dX9_lays_32 : decode cX9_lays 32 = .ok (.putfield 237, 3) := by decide +kernel
theorem dX9_lays_35 : decode cX9_lays 35 = .ok (.iconst 0, 1) := by decide +kernel
theorem dX9_lays_36 : decode cX9_lays 36 = .ok (.istore_n 1, 1) := by decide +kernel
theorem dX9_lays_37 : decode cX9_lays 37 = .ok (.iload_n 1, 1) := by decide +kernel
theorem dX9_lays_38 : decode cX9_lays 38 = .ok (.aload_n 0, 1) := by decide +kernel
theorem dX9_lays_39 : decode cX9_lays 39 = .ok (.getfield 34, 3) := by decide +kernel
theorem dX9_lays_42 : decode cX9_lays 42 = .ok (.iconst 5, 1) := by decide +kernel
theorem dX9_lays_43 : decode cX9_lays 43 = .ok (.iaload, 1) := by decide +kernel
theorem dX9_lays_44 : decode cX9_lays 44 = .ok (.if_icmp .ge 43, 3) := by decide +kernel
theorem dX9_lays_47 : decode cX9_lays 47 = .ok (.aload_n 0, 1) := by decide +kernel
theorem dX9_lays_48 : decode cX9_lays 48 = .ok (.dup, 1) := by decide +kernel
theorem dX9_lays_49 : decode cX9_lays 49 = .ok (.getfield 228, 3) := by decide +kernel
theorem dX9_lays_52 : decode cX9_lays 52 = .ok (.aload_n 0, 1) := by decide +kernel
theorem dX9_lays_53 : decode cX9_lays 53 = .ok (.getfield 40, 3) := by decide +kernel
theorem dX9_lays_56 : decode cX9_lays 56 = .ok (.iload_n 1, 1) := by decide +kernel
theorem dX9_lays_57 : decode cX9_lays 57 = .ok (.iaload, 1) := by decide +kernel
theorem dX9_lays_58 : decode cX9_lays 58 = .ok (.aload_n 0, 1) := by decide +kernel
theorem dX9_lays_59 : decode cX9_lays 59 = .ok (.invokevirtual 222, 3) := by decide +kernel
theorem dX9_lays_62 : decode cX9_lays 62 = .ok (.if_icmp .gt 14, 3) := by decide +kernel
theorem dX9_lays_65 : decode cX9_lays 65 = .ok (.iconst 1, 1) := by decide +kernel
theorem dX9_lays_66 : decode cX9_lays 66 = .ok (.aload_n 0, 1) := by decide +kernel
theorem dX9_lays_67 : decode cX9_lays 67 = .ok (.getfield 40, 3) := by decide +kernel
theorem dX9_lays_70 : decode cX9_lays 70 = .ok (.iload_n 1, 1) := by decide +kernel
theorem dX9_lays_71 : decode cX9_lays 71 = .ok (.iaload, 1) := by decide +kernel
theorem dX9_lays_72 : decode cX9_lays 72 = .ok (.ishl, 1) := by decide +kernel
theorem dX9_lays_73 : decode cX9_lays 73 = .ok (.goto 4, 3) := by decide +kernel
theorem dX9_lays_76 : decode cX9_lays 76 = .ok (.iconst 0, 1) := by decide +kernel
theorem dX9_lays_77 : decode cX9_lays 77 = .ok (.ior, 1) := by decide +kernel
theorem dX9_lays_78 : decode cX9_lays 78 = .ok (.putfield 228, 3) := by decide +kernel
theorem dX9_lays_81 : decode cX9_lays 81 = .ok (.iinc 1 1, 3) := by decide +kernel
theorem dX9_lays_84 : decode cX9_lays 84 = .ok (.goto (-47), 3) := by decide +kernel
theorem dX9_lays_87 : decode cX9_lays 87 = .ok (.iconst 0, 1) := by decide +kernel
theorem dX9_lays_88 : decode cX9_lays 88 = .ok (.istore_n 1, 1) := by decide +kernel
theorem dX9_lays_89 : decode cX9_lays 89 = .ok (.iload_n 1, 1) := by decide +kernel
theorem dX9_lays_90 : decode cX9_lays 90 = .ok (.aload_n 0, 1) := by decide +kernel
theorem dX9_lays_91 : decode cX9_lays 91 = .ok (.invokevirtual 212, 3) := by decide +kernel
theorem dX9_lays_94 : decode cX9_lays 94 = .ok (.if_icmp .ge 39, 3) := by decide +kernel
theorem dX9_lays_97 : decode cX9_lays 97 = .ok (.aload_n 0, 1) := by decide +kernel
theorem dX9_lays_98 : decode cX9_lays 98 = .ok (.getfield 50, 3) := by decide +kernel
theorem dX9_lays_101 : decode cX9_lays 101 = .ok (.iload_n 1, 1) := by decide +kernel
theorem dX9_lays_102 : decode cX9_lays 102 = .ok (.aload_n 0, 1) := by decide +kernel
theorem dX9_lays_103 : decode cX9_lays 103 = .ok (.getfield 37, 3) := by decide +kernel
theorem dX9_lays_106 : decode cX9_lays 106 = .ok (.iconst 3, 1) := by decide +kernel
theorem dX9_lays_107 : decode cX9_lays 107 = .ok (.iload_n 1, 1) := by decide +kernel
theorem dX9_lays_108 : decode cX9_lays 108 = .ok (.imul, 1) := by decide +kernel
theorem dX9_lays_109 : decode cX9_lays 109 = .ok (.iaload, 1) := by decide +kernel
theorem dX9_lays_110 : decode cX9_lays 110 = .ok (.iastore, 1) := by decide +kernel
theorem dX9_lays_111 : decode cX9_lays 111 = .ok (.aload_n 0, 1) := by decide +kernel
theorem dX9_lays_112 : decode cX9_lays 112 = .ok (.getfield 53, 3) := by decide +kernel
theorem dX9_lays_115 : decode cX9_lays 115 = .ok (.iload_n 1, 1) := by decide +kernel
theorem dX9_lays_116 : decode cX9_lays 116 = .ok (.aload_n 0, 1) := by decide +kernel
theorem dX9_lays_117 : decode cX9_lays 117 = .ok (.getfield 37, 3) := by decide +kernel
theorem dX9_lays_120 : decode cX9_lays 120 = .ok (.iconst 3, 1) := by decide +kernel
theorem dX9_lays_121 : decode cX9_lays 121 = .ok (.iload_n 1, 1) := by decide +kernel
theorem dX9_lays_122 : decode cX9_lays 122 = .ok (.imul, 1) := by decide +kernel
theorem dX9_lays_123 : decode cX9_lays 123 = .ok (.iconst 1, 1) := by decide +kernel
theorem dX9_lays_124 : decode cX9_lays 124 = .ok (.iadd, 1) := by decide +kernel
theorem dX9_lays_125 : decode cX9_lays 125 = .ok (.iaload, 1) := by decide +kernel
theorem dX9_lays_126 : decode cX9_lays 126 = .ok (.iastore, 1) := by decide +kernel
theorem dX9_lays_127 : decode cX9_lays 127 = .ok (.iinc 1 1, 3) := by decide +kernel
theorem dX9_lays_130 : decode cX9_lays 130 = .ok (.goto (-41), 3) := by decide +kernel
theorem dX9_lays_133 : decode cX9_lays 133 = .ok (.return_, 1) := by decide +kernel
theorem dX9_laysDay_0 : decode cX9_laysDay 0 = .ok (.aload_n 0, 1) := by decide +kernel
theorem dX9_laysDay_1 : decode cX9_laysDay 1 = .ok (.iconst 0, 1) := by decide +kernel
theorem dX9_laysDay_2 : decode cX9_laysDay 2 = .ok (.putfield 250, 3) := by decide +kernel
theorem dX9_laysDay_5 : decode cX9_laysDay 5 = .ok (.aload_n 0, 1) := by decide +kernel
theorem dX9_laysDay_6 : decode cX9_laysDay 6 = .ok (.getfield 250, 3) := by decide +kernel
theorem dX9_laysDay_9 : decode cX9_laysDay 9 = .ok (.aload_n 0, 1) := by decide +kernel
theorem dX9_laysDay_10 : decode cX9_laysDay 10 = .ok (.invokevirtual 212, 3) := by decide +kernel
theorem dX9_laysDay_13 : decode cX9_laysDay 13 = .ok (.if_icmp .ge 28, 3) := by decide +kernel
theorem dX9_laysDay_16 : decode cX9_laysDay 16 = .ok (.aload_n 0, 1) := by decide +kernel
theorem dX9_laysDay_17 : decode cX9_laysDay 17 = .ok (.aload_n 0, 1) := by decide +kernel
theorem dX9_laysDay_18 : decode cX9_laysDay 18 = .ok (.getfield 250, 3) := by decide +kernel
theorem dX9_laysDay_21 : decode cX9_laysDay 21 = .ok (.iload_n 1, 1) := by decide +kernel
theorem dX9_laysDay_22 : decode cX9_laysDay 22 = .ok (.invokevirtual 253, 3) := by decide +kernel
theorem dX9_laysDay_25 : decode cX9_laysDay 25 = .ok (.ifCond .ne 16, 3) := by decide +kernel
theorem dX9_laysDay_28 : decode cX9_laysDay 28 = .ok (.aload_n 0, 1) := by decide +kernel
theorem dX9_laysDay_29 : decode cX9_laysDay 29 = .ok (.dup, 1) := by decide +kernel
theorem dX9_laysDay_30 : decode cX9_laysDay 30 = .ok (.getfield 250, 3) := by decide +kernel
theorem dX9_laysDay_33 : decode cX9_laysDay 33 = .ok (.iconst 1, 1) := by decide +kernel
theorem dX9_laysDay_34 : decode cX9_laysDay 34 = .ok (.iadd, 1) := by decide +kernel
theorem dX9_laysDay_35 : decode cX9_laysDay 35 = .ok (.putfield 250, 3) := by decide +kernel
theorem dX9_laysDay_38 : decode cX9_laysDay 38 = .ok (.goto (-33), 3) := by decide +kernel
theorem dX9_laysDay_41 : decode cX9_laysDay 41 = .ok (.lconst 1, 1) := by decide +kernel
theorem dX9_laysDay_42 : decode cX9_laysDay 42 = .ok (.lstore_n 2, 1) := by decide +kernel
theorem dX9_laysDay_43 : decode cX9_laysDay 43 = .ok (.iconst 0, 1) := by decide +kernel
theorem dX9_laysDay_44 : decode cX9_laysDay 44 = .ok (.istore 4, 2) := by decide +kernel
theorem dX9_laysDay_46 : decode cX9_laysDay 46 = .ok (.iload 4, 2) := by decide +kernel
theorem dX9_laysDay_48 : decode cX9_laysDay 48 = .ok (.aload_n 0, 1) := by decide +kernel
theorem dX9_laysDay_49 : decode cX9_laysDay 49 = .ok (.getfield 250, 3) := by decide +kernel
theorem dX9_laysDay_52 : decode cX9_laysDay 52 = .ok (.if_icmp .ge 20, 3) := by decide +kernel
theorem dX9_laysDay_55 : decode cX9_laysDay 55 = .ok (.lload_n 2, 1) := by decide +kernel
theorem dX9_laysDay_56 : decode cX9_laysDay 56 = .ok (.aload_n 0, 1) := by decide +kernel
theorem dX9_laysDay_57 : decode cX9_laysDay 57 = .ok (.iload 4, 2) := by decide +kernel
theorem dX9_laysDay_59 : decode cX9_laysDay 59 = .ok (.iload_n 1, 1) := by decide +kernel
theorem dX9_laysDay_60 : decode cX9_laysDay 60 = .ok (.invokevirtual 256, 3) := by decide +kernel
theorem dX9_laysDay_63 : decode cX9_laysDay 63 = .ok (.i2l, 1) := by decide +kernel
theorem dX9_laysDay_64 : decode cX9_laysDay 64 = .ok (.lmul, 1) := by decide +kernel
theorem dX9_laysDay_65 : decode cX9_laysDay 65 = .ok (.lstore_n 2, 1) := by decide +kernel
theorem dX9_laysDay_66 : decode cX9_laysDay 66 = .ok (.iinc 4 1, 3) := by decide +kernel
theorem dX9_laysDay_69 : decode cX9_laysDay 69 = .ok (.goto (-23), 3) := by decide +kernel
theorem dX9_laysDay_72 : decode cX9_laysDay 72 = .ok (.lconst 0, 1) := by decide +kernel
theorem dX9_laysDay_73 : decode cX9_laysDay 73 = .ok (.lstore 4, 2) := by decide +kernel
theorem dX9_laysDay_75 : decode cX9_laysDay 75 = .ok (.aload_n 0, 1) := by decide +kernel
theorem dX9_laysDay_76 : decode cX9_laysDay 76 = .ok (.getfield 250, 3) := by decide +kernel
theorem dX9_laysDay_79 : decode cX9_laysDay 79 = .ok (.iconst 1, 1) := by decide +kernel
theorem dX9_laysDay_80 : decode cX9_laysDay 80 = .ok (.isub, 1) := by decide +kernel
theorem dX9_laysDay_81 : decode cX9_laysDay 81 = .ok (.istore 6, 2) := by decide +kernel
theorem dX9_laysDay_83 : decode cX9_laysDay 83 = .ok (.iload 6, 2) := by decide +kernel
theorem dX9_laysDay_85 : decode cX9_laysDay 85 = .ok (.ifCond .lt 55, 3) := by decide +kernel
theorem dX9_laysDay_88 : decode cX9_laysDay 88 = .ok (.aload_n 0, 1) := by decide +kernel
theorem dX9_laysDay_89 : decode cX9_laysDay 89 = .ok (.getfield 56, 3) := by decide +kernel
theorem dX9_laysDay_92 : decode cX9_laysDay 92 = .ok (.iload 6, 2) := by decide +kernel
theorem dX9_laysDay_94 : decode cX9_laysDay 94 = .ok (.lload_n 2, 1) := by decide +kernel
theorem dX9_laysDay_95 : decode cX9_laysDay 95 = .ok (.lastore, 1) := by decide +kernel
theorem dX9_laysDay_96 : decode cX9_laysDay 96 = .ok (.lload 4, 2) := by decide +kernel
theorem dX9_laysDay_98 : decode cX9_laysDay 98 = .ok (.lload_n 2, 1) := by decide +kernel
theorem dX9_laysDay_99 : decode cX9_laysDay 99 = .ok (.aload_n 0, 1) := by decide +kernel
theorem dX9_laysDay_100 : decode cX9_laysDay 100 = .ok (.iload 6, 2) := by decide +kernel
theorem dX9_laysDay_102 : decode cX9_laysDay 102 = .ok (.iload_n 1, 1) := by decide +kernel
theorem dX9_laysDay_103 : decode cX9_laysDay 103 = .ok (.invokevirtual 256, 3) := by decide +kernel
theorem dX9_laysDay_106 : decode cX9_laysDay 106 = .ok (.i2l, 1) := by decide +kernel
theorem dX9_laysDay_107 : decode cX9_laysDay 107 = .ok (.ldiv, 1) := by decide +kernel
theorem dX9_laysDay_108 : decode cX9_laysDay 108 = .ok (.ladd, 1) := by decide +kernel
theorem dX9_laysDay_109 : decode cX9_laysDay 109 = .ok (.lstore 4, 2) := by decide +kernel
theorem dX9_laysDay_111 : decode cX9_laysDay 111 = .ok (.aload_n 0, 1) := by decide +kernel
theorem dX9_laysDay_112 : decode cX9_laysDay 112 = .ok (.getfield 59, 3) := by decide +kernel
theorem dX9_laysDay_115 : decode cX9_laysDay 115 = .ok (.iload 6, 2) := by decide +kernel
theorem dX9_laysDay_117 : decode cX9_laysDay 117 = .ok (.lload 4, 2) := by decide +kernel
theorem dX9_laysDay_119 : decode cX9_laysDay 119 = .ok (.lastore, 1) := by decide +kernel
theorem dX9_laysDay_120 : decode cX9_laysDay 120 = .ok (.lload_n 2, 1) := by decide +kernel
theorem dX9_laysDay_121 : decode cX9_laysDay 121 = .ok (.aload_n 0, 1) := by decide +kernel
theorem dX9_laysDay_122 : decode cX9_laysDay 122 = .ok (.getfield 50, 3) := by decide +kernel
theorem dX9_laysDay_125 : decode cX9_laysDay 125 = .ok (.iload 6, 2) := by decide +kernel
theorem dX9_laysDay_127 : decode cX9_laysDay 127 = .ok (.iaload, 1) := by decide +kernel
theorem dX9_laysDay_128 : decode cX9_laysDay 128 = .ok (.i2l, 1) := by decide +kernel
theorem dX9_laysDay_129 : decode cX9_laysDay 129 = .ok (.lload 4, 2) := by decide +kernel
theorem dX9_laysDay_131 : decode cX9_laysDay 131 = .ok (.lmul, 1) := by decide +kernel
theorem dX9_laysDay_132 : decode cX9_laysDay 132 = .ok (.ladd, 1) := by decide +kernel
theorem dX9_laysDay_133 : decode cX9_laysDay 133 = .ok (.lstore_n 2, 1) := by decide +kernel
theorem dX9_laysDay_134 : decode cX9_laysDay 134 = .ok (.iinc 6 (-1), 3) := by decide +kernel
theorem dX9_laysDay_137 : decode cX9_laysDay 137 = .ok (.goto (-54), 3) := by decide +kernel
theorem dX9_laysDay_140 : decode cX9_laysDay 140 = .ok (.aload_n 0, 1) := by decide +kernel
theorem dX9_laysDay_141 : decode cX9_laysDay 141 = .ok (.lload_n 2, 1) := by decide +kernel
theorem dX9_laysDay_142 : decode cX9_laysDay 142 = .ok (.putfield 259, 3) := by decide +kernel
theorem dX9_laysDay_145 : decode cX9_laysDay 145 = .ok (.return_, 1) := by decide +kernel
theorem dX9_laysSeen_0 : decode cX9_laysSeen 0 = .ok (.aload_n 0, 1) := by decide +kernel
theorem dX9_laysSeen_1 : decode cX9_laysSeen 1 = .ok (.iconst 0, 1) := by decide +kernel
theorem dX9_laysSeen_2 : decode cX9_laysSeen 2 = .ok (.putfield 343, 3) := by decide +kernel
theorem dX9_laysSeen_5 : decode cX9_laysSeen 5 = .ok (.iconst 1, 1) := by decide +kernel
theorem dX9_laysSeen_6 : decode cX9_laysSeen 6 = .ok (.istore_n 3, 1) := by decide +kernel
theorem dX9_laysSeen_7 : decode cX9_laysSeen 7 = .ok (.iload_n 3, 1) := by decide +kernel
theorem dX9_laysSeen_8 : decode cX9_laysSeen 8 = .ok (.bipush 30, 2) := by decide +kernel
theorem dX9_laysSeen_10 : decode cX9_laysSeen 10 = .ok (.if_icmp .gt 133, 3) := by decide +kernel
theorem dX9_laysSeen_13 : decode cX9_laysSeen 13 = .ok (.aload_n 0, 1) := by decide +kernel
theorem dX9_laysSeen_14 : decode cX9_laysSeen 14 = .ok (.dup, 1) := by decide +kernel
theorem dX9_laysSeen_15 : decode cX9_laysSeen 15 = .ok (.getfield 343, 3) := by decide +kernel
theorem dX9_laysSeen_18 : decode cX9_laysSeen 18 = .ok (.aload_n 0, 1) := by decide +kernel
theorem dX9_laysSeen_19 : decode cX9_laysSeen 19 = .ok (.iload_n 1, 1) := by decide +kernel
theorem dX9_laysSeen_20 : decode cX9_laysSeen 20 = .ok (.iload_n 2, 1) := by decide +kernel
theorem dX9_laysSeen_21 : decode cX9_laysSeen 21 = .ok (.iload_n 3, 1) := by decide +kernel
theorem dX9_laysSeen_22 : decode cX9_laysSeen 22 = .ok (.invokevirtual 346, 3) := by decide +kernel
theorem dX9_laysSeen_25 : decode cX9_laysSeen 25 = .ok (.ifCond .eq 9, 3) := by decide +kernel
theorem dX9_laysSeen_28 : decode cX9_laysSeen 28 = .ok (.iconst 1, 1) := by decide +kernel
theorem dX9_laysSeen_29 : decode cX9_laysSeen 29 = .ok (.iload_n 3, 1) := by decide +kernel
theorem dX9_laysSeen_30 : decode cX9_laysSeen 30 = .ok (.ishl, 1) := by decide +kernel
theorem dX9_laysSeen_31 : decode cX9_laysSeen 31 = .ok (.goto 4, 3) := by decide +kernel
theorem dX9_laysSeen_34 : decode cX9_laysSeen 34 = .ok (.iconst 0, 1) := by decide +kernel
theorem dX9_laysSeen_35 : decode cX9_laysSeen 35 = .ok (.ior, 1) := by decide +kernel
theorem dX9_laysSeen_36 : decode cX9_laysSeen 36 = .ok (.putfield 343, 3) := by decide +kernel
theorem dX9_laysSeen_39 : decode cX9_laysSeen 39 = .ok (.iconst 0, 1) := by decide +kernel
theorem dX9_laysSeen_40 : decode cX9_laysSeen 40 = .ok (.istore 4, 2) := by decide +kernel
theorem dX9_laysSeen_42 : decode cX9_laysSeen 42 = .ok (.iload 4, 2) := by decide +kernel
theorem dX9_laysSeen_44 : decode cX9_laysSeen 44 = .ok (.aload_n 0, 1) := by decide +kernel
theorem dX9_laysSeen_45 : decode cX9_laysSeen 45 = .ok (.invokevirtual 222, 3) := by decide +kernel
theorem dX9_laysSeen_48 : decode cX9_laysSeen 48 = .ok (.if_icmp .gt 89, 3) := by decide +kernel
theorem dX9_laysSeen_51 : decode cX9_laysSeen 51 = .ok (.aload_n 0, 1) := by decide +kernel
theorem dX9_laysSeen_52 : decode cX9_laysSeen 52 = .ok (.iload 4, 2) := by decide +kernel
theorem dX9_laysSeen_54 : decode cX9_laysSeen 54 = .ok (.invokevirtual 262, 3) := by decide +kernel
theorem dX9_laysSeen_57 : decode cX9_laysSeen 57 = .ok (.aload_n 0, 1) := by decide +kernel
theorem dX9_laysSeen_58 : decode cX9_laysSeen 58 = .ok (.getfield 62, 3) := by decide +kernel
theorem dX9_laysSeen_61 : decode cX9_laysSeen 61 = .ok (.bipush 14, 2) := by decide +kernel
theorem dX9_laysSeen_63 : decode cX9_laysSeen 63 = .ok (.iload_n 3, 1) := by decide +kernel
theorem dX9_laysSeen_64 : decode cX9_laysSeen 64 = .ok (.imul, 1) := by decide +kernel
theorem dX9_laysSeen_65 : decode cX9_laysSeen 65 = .ok (.iload 4, 2) := by decide +kernel
theorem dX9_laysSeen_67 : decode cX9_laysSeen 67 = .ok (.iadd, 1) := by decide +kernel
theorem dX9_laysSeen_68 : decode cX9_laysSeen 68 = .ok (.aload_n 0, 1) := by decide +kernel
theorem dX9_laysSeen_69 : decode cX9_laysSeen 69 = .ok (.getfield 250, 3) := by decide +kernel
theorem dX9_laysSeen_72 : decode cX9_laysSeen 72 = .ok (.ifCond .ne 7, 3) := by decide +kernel
theorem dX9_laysSeen_75 : decode cX9_laysSeen 75 = .ok (.lconst 1, 1) := by decide +kernel
theorem dX9_laysSeen_76 : decode cX9_laysSeen 76 = .ok (.goto 17, 3) := by decide +kernel
theorem dX9_laysSeen_79 : decode cX9_laysSeen 79 = .ok (.aload_n 0, 1) := by decide +kernel
theorem dX9_laysSeen_80 : decode cX9_laysSeen 80 = .ok (.getfield 259, 3) := by decide +kernel
theorem dX9_laysSeen_83 : decode cX9_laysSeen 83 = .ok (.aload_n 0, 1) := by decide +kernel
theorem dX9_laysSeen_84 : decode cX9_laysSeen 84 = .ok (.getfield 59, 3) := by decide +kernel
theorem dX9_laysSeen_87 : decode cX9_laysSeen 87 = .ok (.iconst 0, 1) := by decide +kernel
theorem dX9_laysSeen_88 : decode cX9_laysSeen 88 = .ok (.laload, 1) := by decide +kernel
theorem dX9_laysSeen_89 : decode cX9_laysSeen 89 = .ok (.iconst 0, 1) := by decide +kernel
theorem dX9_laysSeen_90 : decode cX9_laysSeen 90 = .ok (.invokestatic 297, 3) := by decide +kernel
theorem dX9_laysSeen_93 : decode cX9_laysSeen 93 = .ok (.lastore, 1) := by decide +kernel
theorem dX9_laysSeen_94 : decode cX9_laysSeen 94 = .ok (.aload_n 0, 1) := by decide +kernel
theorem dX9_laysSeen_95 : decode cX9_laysSeen 95 = .ok (.getfield 65, 3) := by decide +kernel
theorem dX9_laysSeen_98 : decode cX9_laysSeen 98 = .ok (.bipush 14, 2) := by decide +kernel
theorem dX9_laysSeen_100 : decode cX9_laysSeen 100 = .ok (.iload_n 3, 1) := by decide +kernel
theorem dX9_laysSeen_101 : decode cX9_laysSeen 101 = .ok (.imul, 1) := by decide +kernel
theorem dX9_laysSeen_102 : decode cX9_laysSeen 102 = .ok (.iload 4, 2) := by decide +kernel
theorem dX9_laysSeen_104 : decode cX9_laysSeen 104 = .ok (.iadd, 1) := by decide +kernel
theorem dX9_laysSeen_105 : decode cX9_laysSeen 105 = .ok (.aload_n 0, 1) := by decide +kernel
theorem dX9_laysSeen_106 : decode cX9_laysSeen 106 = .ok (.getfield 250, 3) := by decide +kernel
theorem dX9_laysSeen_109 : decode cX9_laysSeen 109 = .ok (.ifCond .ne 7, 3) := by decide +kernel
theorem dX9_laysSeen_112 : decode cX9_laysSeen 112 = .ok (.lconst 0, 1) := by decide +kernel
theorem dX9_laysSeen_113 : decode cX9_laysSeen 113 = .ok (.goto 17, 3) := by decide +kernel
theorem dX9_laysSeen_116 : decode cX9_laysSeen 116 = .ok (.aload_n 0, 1) := by decide +kernel
theorem dX9_laysSeen_117 : decode cX9_laysSeen 117 = .ok (.getfield 259, 3) := by decide +kernel
theorem dX9_laysSeen_120 : decode cX9_laysSeen 120 = .ok (.aload_n 0, 1) := by decide +kernel
theorem dX9_laysSeen_121 : decode cX9_laysSeen 121 = .ok (.getfield 59, 3) := by decide +kernel
theorem dX9_laysSeen_124 : decode cX9_laysSeen 124 = .ok (.iconst 0, 1) := by decide +kernel
theorem dX9_laysSeen_125 : decode cX9_laysSeen 125 = .ok (.laload, 1) := by decide +kernel
theorem dX9_laysSeen_126 : decode cX9_laysSeen 126 = .ok (.iconst 1, 1) := by decide +kernel
theorem dX9_laysSeen_127 : decode cX9_laysSeen 127 = .ok (.invokestatic 297, 3) := by decide +kernel
theorem dX9_laysSeen_130 : decode cX9_laysSeen 130 = .ok (.lastore, 1) := by decide +kernel
theorem dX9_laysSeen_131 : decode cX9_laysSeen 131 = .ok (.iinc 4 1, 3) := by decide +kernel
theorem dX9_laysSeen_134 : decode cX9_laysSeen 134 = .ok (.goto (-92), 3) := by decide +kernel
theorem dX9_laysSeen_137 : decode cX9_laysSeen 137 = .ok (.iinc 3 1, 3) := by decide +kernel
theorem dX9_laysSeen_140 : decode cX9_laysSeen 140 = .ok (.goto (-133), 3) := by decide +kernel
theorem dX9_laysSeen_143 : decode cX9_laysSeen 143 = .ok (.aload_n 0, 1) := by decide +kernel
theorem dX9_laysSeen_144 : decode cX9_laysSeen 144 = .ok (.iconst (-1), 1) := by decide +kernel
theorem dX9_laysSeen_145 : decode cX9_laysSeen 145 = .ok (.putfield 349, 3) := by decide +kernel
theorem dX9_laysSeen_148 : decode cX9_laysSeen 148 = .ok (.aload_n 0, 1) := by decide +kernel
theorem dX9_laysSeen_149 : decode cX9_laysSeen 149 = .ok (.aload_n 0, 1) := by decide +kernel
theorem dX9_laysSeen_150 : decode cX9_laysSeen 150 = .ok (.getfield 343, 3) := by decide +kernel
theorem dX9_laysSeen_153 : decode cX9_laysSeen 153 = .ok (.invokestatic 274, 3) := by decide +kernel
theorem dX9_laysSeen_156 : decode cX9_laysSeen 156 = .ok (.putfield 352, 3) := by decide +kernel
theorem dX9_laysSeen_159 : decode cX9_laysSeen 159 = .ok (.iconst 0, 1) := by decide +kernel
theorem dX9_laysSeen_160 : decode cX9_laysSeen 160 = .ok (.istore_n 3, 1) := by decide +kernel
theorem dX9_laysSeen_161 : decode cX9_laysSeen 161 = .ok (.iload_n 3, 1) := by decide +kernel
theorem dX9_laysSeen_162 : decode cX9_laysSeen 162 = .ok (.aload_n 0, 1) := by decide +kernel
theorem dX9_laysSeen_163 : decode cX9_laysSeen 163 = .ok (.invokevirtual 222, 3) := by decide +kernel
theorem dX9_laysSeen_166 : decode cX9_laysSeen 166 = .ok (.if_icmp .gt 39, 3) := by decide +kernel
theorem dX9_laysSeen_169 : decode cX9_laysSeen 169 = .ok (.aload_n 0, 1) := by decide +kernel
theorem dX9_laysSeen_170 : decode cX9_laysSeen 170 = .ok (.iload_n 3, 1) := by decide +kernel
theorem dX9_laysSeen_171 : decode cX9_laysSeen 171 = .ok (.invokevirtual 355, 3) := by decide +kernel
theorem dX9_laysSeen_174 : decode cX9_laysSeen 174 = .ok (.istore 4, 2) := by decide +kernel
theorem dX9_laysSeen_176 : decode cX9_laysSeen 176 = .ok (.iload 4, 2) := by decide +kernel
theorem dX9_laysSeen_178 : decode cX9_laysSeen 178 = .ok (.aload_n 0, 1) := by decide +kernel
theorem dX9_laysSeen_179 : decode cX9_laysSeen 179 = .ok (.getfield 352, 3) := by decide +kernel
theorem dX9_laysSeen_182 : decode cX9_laysSeen 182 = .ok (.if_icmp .lt 6, 3) := by decide +kernel
theorem dX9_laysSeen_185 : decode cX9_laysSeen 185 = .ok (.goto 14, 3) := by decide +kernel
theorem dX9_laysSeen_188 : decode cX9_laysSeen 188 = .ok (.aload_n 0, 1) := by decide +kernel
theorem dX9_laysSeen_189 : decode cX9_laysSeen 189 = .ok (.iload_n 3, 1) := by decide +kernel
theorem dX9_laysSeen_190 : decode cX9_laysSeen 190 = .ok (.putfield 349, 3) := by decide +kernel
theorem dX9_laysSeen_193 : decode cX9_laysSeen 193 = .ok (.aload_n 0, 1) := by decide +kernel
theorem dX9_laysSeen_194 : decode cX9_laysSeen 194 = .ok (.iload 4, 2) := by decide +kernel
theorem dX9_laysSeen_196 : decode cX9_laysSeen 196 = .ok (.putfield 352, 3) := by decide +kernel
theorem dX9_laysSeen_199 : decode cX9_laysSeen 199 = .ok (.iinc 3 1, 3) := by decide +kernel
theorem dX9_laysSeen_202 : decode cX9_laysSeen 202 = .ok (.goto (-41), 3) := by decide +kernel
theorem dX9_laysSeen_205 : decode cX9_laysSeen 205 = .ok (.return_, 1) := by decide +kernel
theorem dX9_leak_0 : decode cX9_leak 0 = .ok (.aload_n 0, 1) := by decide +kernel
theorem dX9_leak_1 : decode cX9_leak 1 = .ok (.iconst 0, 1) := by decide +kernel
theorem dX9_leak_2 : decode cX9_leak 2 = .ok (.putfield 68, 3) := by decide +kernel
theorem dX9_leak_5 : decode cX9_leak 5 = .ok (.aload_n 0, 1) := by decide +kernel
theorem dX9_leak_6 : decode cX9_leak 6 = .ok (.iload_n 1, 1) := by decide +kernel
theorem dX9_leak_7 : decode cX9_leak 7 = .ok (.invokevirtual 216, 3) := by decide +kernel
theorem dX9_leak_10 : decode cX9_leak 10 = .ok (.ifCond .eq 12, 3) := by decide +kernel
theorem dX9_leak_13 : decode cX9_leak 13 = .ok (.aload_n 0, 1) := by decide +kernel
theorem dX9_leak_14 : decode cX9_leak 14 = .ok (.iload_n 2, 1) := by decide +kernel
theorem dX9_leak_15 : decode cX9_leak 15 = .ok (.i2l, 1) := by decide +kernel
theorem dX9_leak_16 : decode cX9_leak 16 = .ok (.invokevirtual 289, 3) := by decide +kernel
theorem dX9_leak_19 : decode cX9_leak 19 = .ok (.ifCond .ne 6, 3) := by decide +kernel
theorem dX9_leak_22 : decode cX9_leak 22 = .ok (.bipush (-2), 2) := by decide +kernel
theorem dX9_leak_24 : decode cX9_leak 24 = .ok (.ireturn, 1) := by decide +kernel
theorem dX9_leak_25 : decode cX9_leak 25 = .ok (.aload_n 0, 1) := by decide +kernel
theorem dX9_leak_26 : decode cX9_leak 26 = .ok (.invokevirtual 286, 3) := by decide +kernel
theorem dX9_leak_29 : decode cX9_leak 29 = .ok (.aload_n 0, 1) := by decide +kernel
theorem dX9_leak_30 : decode cX9_leak 30 = .ok (.iload_n 1, 1) := by decide +kernel
theorem dX9_leak_31 : decode cX9_leak 31 = .ok (.iload_n 2, 1) := by decide +kernel
theorem dX9_leak_32 : decode cX9_leak 32 = .ok (.invokevirtual 256, 3) := by decide +kernel
theorem dX9_leak_35 : decode cX9_leak 35 = .ok (.ireturn, 1) := by decide +kernel
theorem dX9_leakOf_0 : decode cX9_leakOf 0 = .ok (.aload_n 0, 1) := by decide +kernel
theorem dX9_leakOf_1 : decode cX9_leakOf 1 = .ok (.iload_n 1, 1) := by decide +kernel
theorem dX9_leakOf_2 : decode cX9_leakOf 2 = .ok (.iload_n 2, 1) := by decide +kernel
theorem dX9_leakOf_3 : decode cX9_leakOf 3 = .ok (.invokevirtual 247, 3) := by decide +kernel
theorem dX9_leakOf_6 : decode cX9_leakOf 6 = .ok (.istore_n 3, 1) := by decide +kernel
theorem dX9_leakOf_7 : decode cX9_leakOf 7 = .ok (.iload_n 3, 1) := by decide +kernel
theorem dX9_leakOf_8 : decode cX9_leakOf 8 = .ok (.iconst (-1), 1) := by decide +kernel
theorem dX9_leakOf_9 : decode cX9_leakOf 9 = .ok (.if_icmp .ne 12, 3) := by decide +kernel
theorem dX9_leakOf_12 : decode cX9_leakOf 12 = .ok (.aload_n 0, 1) := by decide +kernel
theorem dX9_leakOf_13 : decode cX9_leakOf 13 = .ok (.getfield 53, 3) := by decide +kernel
theorem dX9_leakOf_16 : decode cX9_leakOf 16 = .ok (.iload_n 1, 1) := by decide +kernel
theorem dX9_leakOf_17 : decode cX9_leakOf 17 = .ok (.iaload, 1) := by decide +kernel
theorem dX9_leakOf_18 : decode cX9_leakOf 18 = .ok (.goto 5, 3) := by decide +kernel
theorem dX9_leakOf_21 : decode cX9_leakOf 21 = .ok (.bipush 30, 2) := by decide +kernel
theorem dX9_leakOf_23 : decode cX9_leakOf 23 = .ok (.istore 4, 2) := by decide +kernel
theorem dX9_leakOf_25 : decode cX9_leakOf 25 = .ok (.aload_n 0, 1) := by decide +kernel
theorem dX9_leakOf_26 : decode cX9_leakOf 26 = .ok (.getfield 225, 3) := by decide +kernel
theorem dX9_leakOf_29 : decode cX9_leakOf 29 = .ok (.iconst 1, 1) := by decide +kernel
theorem dX9_leakOf_30 : decode cX9_leakOf 30 = .ok (.if_icmp .ne 28, 3) := by decide +kernel
theorem dX9_leakOf_33 : decode cX9_leakOf 33 = .ok (.aload_n 0, 1) := by decide +kernel
theorem dX9_leakOf_34 : decode cX9_leakOf 34 = .ok (.getfield 228, 3) := by decide +kernel
theorem dX9_leakOf_37 : decode cX9_leakOf 37 = .ok (.iload_n 2, 1) := by decide +kernel
theorem dX9_leakOf_38 : decode cX9_leakOf 38 = .ok (.invokestatic 240, 3) := by decide +kernel
theorem dX9_leakOf_41 : decode cX9_leakOf 41 = .ok (.ifCond .eq 14, 3) := by decide +kernel
theorem dX9_leakOf_44 : decode cX9_leakOf 44 = .ok (.iconst 1, 1) := by decide +kernel
theorem dX9_leakOf_45 : decode cX9_leakOf 45 = .ok (.iload 4, 2) := by decide +kernel
theorem dX9_leakOf_47 : decode cX9_leakOf 47 = .ok (.iconst 2, 1) := by decide +kernel
theorem dX9_leakOf_48 : decode cX9_leakOf 48 = .ok (.idiv, 1) := by decide +kernel
theorem dX9_leakOf_49 : decode cX9_leakOf 49 = .ok (.invokestatic 244, 3) := by decide +kernel
theorem dX9_leakOf_52 : decode cX9_leakOf 52 = .ok (.goto 5, 3) := by decide +kernel
theorem dX9_leakOf_55 : decode cX9_leakOf 55 = .ok (.iload 4, 2) := by decide +kernel
theorem dX9_leakOf_57 : decode cX9_leakOf 57 = .ok (.ireturn, 1) := by decide +kernel
theorem dX9_leakOf_58 : decode cX9_leakOf 58 = .ok (.aload_n 0, 1) := by decide +kernel
theorem dX9_leakOf_59 : decode cX9_leakOf 59 = .ok (.getfield 225, 3) := by decide +kernel
theorem dX9_leakOf_62 : decode cX9_leakOf 62 = .ok (.iconst 2, 1) := by decide +kernel
theorem dX9_leakOf_63 : decode cX9_leakOf 63 = .ok (.if_icmp .ne 45, 3) := by decide +kernel
theorem dX9_leakOf_66 : decode cX9_leakOf 66 = .ok (.aload_n 0, 1) := by decide +kernel
theorem dX9_leakOf_67 : decode cX9_leakOf 67 = .ok (.getfield 228, 3) := by decide +kernel
theorem dX9_leakOf_70 : decode cX9_leakOf 70 = .ok (.iload_n 2, 1) := by decide +kernel
theorem dX9_leakOf_71 : decode cX9_leakOf 71 = .ok (.invokestatic 240, 3) := by decide +kernel
theorem dX9_leakOf_74 : decode cX9_leakOf 74 = .ok (.ifCond .ne 20, 3) := by decide +kernel
theorem dX9_leakOf_77 : decode cX9_leakOf 77 = .ok (.iload_n 2, 1) := by decide +kernel
theorem dX9_leakOf_78 : decode cX9_leakOf 78 = .ok (.ifCond .le 27, 3) := by decide +kernel
theorem dX9_leakOf_81 : decode cX9_leakOf 81 = .ok (.aload_n 0, 1) := by decide +kernel
theorem dX9_leakOf_82 : decode cX9_leakOf 82 = .ok (.getfield 228, 3) := by decide +kernel
theorem dX9_leakOf_85 : decode cX9_leakOf 85 = .ok (.iload_n 2, 1) := by decide +kernel
theorem dX9_leakOf_86 : decode cX9_leakOf 86 = .ok (.iconst 1, 1) := by decide +kernel
theorem dX9_leakOf_87 : decode cX9_leakOf 87 = .ok (.isub, 1) := by decide +kernel
theorem dX9_leakOf_88 : decode cX9_leakOf 88 = .ok (.invokestatic 240, 3) := by decide +kernel
theorem dX9_leakOf_91 : decode cX9_leakOf 91 = .ok (.ifCond .eq 14, 3) := by decide +kernel
theorem dX9_leakOf_94 : decode cX9_leakOf 94 = .ok (.iconst 1, 1) := by decide +kernel
theorem dX9_leakOf_95 : decode cX9_leakOf 95 = .ok (.iload 4, 2) := by decide +kernel
theorem dX9_leakOf_97 : decode cX9_leakOf 97 = .ok (.iconst 2, 1) := by decide +kernel
theorem dX9_leakOf_98 : decode cX9_leakOf 98 = .ok (.idiv, 1) := by decide +kernel
theorem dX9_leakOf_99 : decode cX9_leakOf 99 = .ok (.invokestatic 244, 3) := by decide +kernel
theorem dX9_leakOf_102 : decode cX9_leakOf 102 = .ok (.goto 5, 3) := by decide +kernel
theorem dX9_leakOf_105 : decode cX9_leakOf 105 = .ok (.iload 4, 2) := by decide +kernel
theorem dX9_leakOf_107 : decode cX9_leakOf 107 = .ok (.ireturn, 1) := by decide +kernel
theorem dX9_leakOf_108 : decode cX9_leakOf 108 = .ok (.aload_n 0, 1) := by decide +kernel
theorem dX9_leakOf_109 : decode cX9_leakOf 109 = .ok (.getfield 225, 3) := by decide +kernel
theorem dX9_leakOf_112 : decode cX9_leakOf 112 = .ok (.ifCond .ne 6, 3) := by decide +kernel
theorem dX9_leakOf_115 : decode cX9_leakOf 115 = .ok (.iload 4, 2) := by decide +kernel
theorem dX9_leakOf_117 : decode cX9_leakOf 117 = .ok (.ireturn, 1) := by decide +kernel
theorem dX9_leakOf_118 : decode cX9_leakOf 118 = .ok (.iconst 0, 1) := by decide +kernel
theorem dX9_leakOf_119 : decode cX9_leakOf 119 = .ok (.istore 5, 2) := by decide +kernel
theorem dX9_leakOf_121 : decode cX9_leakOf 121 = .ok (.iconst 0, 1) := by decide +kernel
theorem dX9_leakOf_122 : decode cX9_leakOf 122 = .ok (.iload_n 3, 1) := by decide +kernel
theorem dX9_leakOf_123 : decode cX9_leakOf 123 = .ok (.invokestatic 244, 3) := by decide +kernel
theorem dX9_leakOf_126 : decode cX9_leakOf 126 = .ok (.istore 6, 2) := by decide +kernel
theorem dX9_leakOf_128 : decode cX9_leakOf 128 = .ok (.iload 6, 2) := by decide +kernel
