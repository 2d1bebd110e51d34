theorem dX1_leaksMore_24 : decode cX1_leaksMore 24 = .ok (.iload_n 1, 1) := by decide +kernel
theorem dX1_leaksMore_25 : decode cX1_leaksMore 25 = .ok (.iaload, 1) := by decide +kernel
theorem dX1_leaksMore_26 : decode cX1_leaksMore 26 = .ok (.i2l, 1) := by decide +kernel
theorem dX1_leaksMore_27 : decode cX1_leaksMore 27 = .ok (.lmul, 1) := by decide +kernel
theorem dX1_leaksMore_28 : decode cX1_leaksMore 28 = .ok (.lcmp, 1) := by decide +kernel
theorem dX1_leaksMore_29 : decode cX1_leaksMore 29 = .ok (.ifCond .le 7, 3) := by decide +kernel
theorem dX1_leaksMore_32 : decode cX1_leaksMore 32 = .ok (.iconst 1, 1) := by decide +kernel
theorem dX1_leaksMore_33 : decode cX1_leaksMore 33 = .ok (.goto 4, 3) := by decide +kernel
theorem dX1_leaksMore_36 : decode cX1_leaksMore 36 = .ok (.iconst 0, 1) := by decide +kernel
theorem dX1_leaksMore_37 : decode cX1_leaksMore 37 = .ok (.ireturn, 1) := by decide +kernel
theorem dX1_readsInto_0 : decode cX1_readsInto 0 = .ok (.aload_n 1, 1) := by decide +kernel
theorem dX1_readsInto_1 : decode cX1_readsInto 1 = .ok (.aload_n 0, 1) := by decide +kernel
theorem dX1_readsInto_2 : decode cX1_readsInto 2 = .ok (.getfield 15, 3) := by decide +kernel
theorem dX1_readsInto_5 : decode cX1_readsInto 5 = .ok (.aload_n 0, 1) := by decide +kernel
theorem dX1_readsInto_6 : decode cX1_readsInto 6 = .ok (.invokevirtual 54, 3) := by decide +kernel
theorem dX1_readsInto_9 : decode cX1_readsInto 9 = .ok (.invokevirtual 58, 3) := by decide +kernel
theorem dX1_readsInto_12 : decode cX1_readsInto 12 = .ok (.return_, 1) := by decide +kernel
theorem dX1_settle_0 : decode cX1_settle 0 = .ok (.aload_n 0, 1) := by decide +kernel
theorem dX1_settle_1 : decode cX1_settle 1 = .ok (.aload_n 2, 1) := by decide +kernel
theorem dX1_settle_2 : decode cX1_settle 2 = .ok (.aload_n 1, 1) := by decide +kernel
theorem dX1_settle_3 : decode cX1_settle 3 = .ok (.iload_n 3, 1) := by decide +kernel
theorem dX1_settle_4 : decode cX1_settle 4 = .ok (.invokevirtual 30, 3) := by decide +kernel
theorem dX1_settle_7 : decode cX1_settle 7 = .ok (.putfield 9, 3) := by decide +kernel
theorem dX1_settle_10 : decode cX1_settle 10 = .ok (.lconst 1, 1) := by decide +kernel
theorem dX1_settle_11 : decode cX1_settle 11 = .ok (.lstore 4, 2) := by decide +kernel
theorem dX1_settle_13 : decode cX1_settle 13 = .ok (.iconst 0, 1) := by decide +kernel
theorem dX1_settle_14 : decode cX1_settle 14 = .ok (.istore 6, 2) := by decide +kernel
theorem dX1_settle_16 : decode cX1_settle 16 = .ok (.iload 6, 2) := by decide +kernel
theorem dX1_settle_18 : decode cX1_settle 18 = .ok (.aload_n 1, 1) := by decide +kernel
theorem dX1_settle_19 : decode cX1_settle 19 = .ok (.getfield 36, 3) := by decide +kernel
theorem dX1_settle_22 : decode cX1_settle 22 = .ok (.if_icmp .ge 71, 3) := by decide +kernel
theorem dX1_settle_25 : decode cX1_settle 25 = .ok (.aload_n 0, 1) := by decide +kernel
theorem dX1_settle_26 : decode cX1_settle 26 = .ok (.getfield 19, 3) := by decide +kernel
theorem dX1_settle_29 : decode cX1_settle 29 = .ok (.iload 6, 2) := by decide +kernel
theorem dX1_settle_31 : decode cX1_settle 31 = .ok (.iconst 1, 1) := by decide +kernel
theorem dX1_settle_32 : decode cX1_settle 32 = .ok (.aload_n 2, 1) := by decide +kernel
theorem dX1_settle_33 : decode cX1_settle 33 = .ok (.aload_n 1, 1) := by decide +kernel
theorem dX1_settle_34 : decode cX1_settle 34 = .ok (.iload 6, 2) := by decide +kernel
theorem dX1_settle_36 : decode cX1_settle 36 = .ok (.iload_n 3, 1) := by decide +kernel
theorem dX1_settle_37 : decode cX1_settle 37 = .ok (.invokevirtual 41, 3) := by decide +kernel
theorem dX1_settle_40 : decode cX1_settle 40 = .ok (.invokestatic 45, 3) := by decide +kernel
theorem dX1_settle_43 : decode cX1_settle 43 = .ok (.iastore, 1) := by decide +kernel
theorem dX1_settle_44 : decode cX1_settle 44 = .ok (.aload_n 0, 1) := by decide +kernel
theorem dX1_settle_45 : decode cX1_settle 45 = .ok (.getfield 23, 3) := by decide +kernel
theorem dX1_settle_48 : decode cX1_settle 48 = .ok (.iload 6, 2) := by decide +kernel
theorem dX1_settle_50 : decode cX1_settle 50 = .ok (.lconst 0, 1) := by decide +kernel
theorem dX1_settle_51 : decode cX1_settle 51 = .ok (.lastore, 1) := by decide +kernel
theorem dX1_settle_52 : decode cX1_settle 52 = .ok (.aload_n 0, 1) := by decide +kernel
theorem dX1_settle_53 : decode cX1_settle 53 = .ok (.getfield 27, 3) := by decide +kernel
theorem dX1_settle_56 : decode cX1_settle 56 = .ok (.iload 6, 2) := by decide +kernel
theorem dX1_settle_58 : decode cX1_settle 58 = .ok (.lconst 0, 1) := by decide +kernel
theorem dX1_settle_59 : decode cX1_settle 59 = .ok (.lastore, 1) := by decide +kernel
theorem dX1_settle_60 : decode cX1_settle 60 = .ok (.iload 6, 2) := by decide +kernel
theorem dX1_settle_62 : decode cX1_settle 62 = .ok (.aload_n 0, 1) := by decide +kernel
theorem dX1_settle_63 : decode cX1_settle 63 = .ok (.getfield 9, 3) := by decide +kernel
theorem dX1_settle_66 : decode cX1_settle 66 = .ok (.if_icmp .ge 17, 3) := by decide +kernel
theorem dX1_settle_69 : decode cX1_settle 69 = .ok (.lload 4, 2) := by decide +kernel
theorem dX1_settle_71 : decode cX1_settle 71 = .ok (.aload_n 0, 1) := by decide +kernel
theorem dX1_settle_72 : decode cX1_settle 72 = .ok (.getfield 19, 3) := by decide +kernel
theorem dX1_settle_75 : decode cX1_settle 75 = .ok (.iload 6, 2) := by decide +kernel
theorem dX1_settle_77 : decode cX1_settle 77 = .ok (.iaload, 1) := by decide +kernel
theorem dX1_settle_78 : decode cX1_settle 78 = .ok (.i2l, 1) := by decide +kernel
theorem dX1_settle_79 : decode cX1_settle 79 = .ok (.lmul, 1) := by decide +kernel
theorem dX1_settle_80 : decode cX1_settle 80 = .ok (.goto 5, 3) := by decide +kernel
theorem dX1_settle_83 : decode cX1_settle 83 = .ok (.lload 4, 2) := by decide +kernel
theorem dX1_settle_85 : decode cX1_settle 85 = .ok (.lstore 4, 2) := by decide +kernel
theorem dX1_settle_87 : decode cX1_settle 87 = .ok (.iinc 6 1, 3) := by decide +kernel
theorem dX1_settle_90 : decode cX1_settle 90 = .ok (.goto (-74), 3) := by decide +kernel
theorem dX1_settle_93 : decode cX1_settle 93 = .ok (.lload 4, 2) := by decide +kernel
theorem dX1_settle_95 : decode cX1_settle 95 = .ok (.lstore 6, 2) := by decide +kernel
theorem dX1_settle_97 : decode cX1_settle 97 = .ok (.lconst 0, 1) := by decide +kernel
theorem dX1_settle_98 : decode cX1_settle 98 = .ok (.lstore 8, 2) := by decide +kernel
theorem dX1_settle_100 : decode cX1_settle 100 = .ok (.aload_n 0, 1) := by decide +kernel
theorem dX1_settle_101 : decode cX1_settle 101 = .ok (.getfield 9, 3) := by decide +kernel
theorem dX1_settle_104 : decode cX1_settle 104 = .ok (.iconst 1, 1) := by decide +kernel
theorem dX1_settle_105 : decode cX1_settle 105 = .ok (.isub, 1) := by decide +kernel
theorem dX1_settle_106 : decode cX1_settle 106 = .ok (.istore 10, 2) := by decide +kernel
theorem dX1_settle_108 : decode cX1_settle 108 = .ok (.iload 10, 2) := by decide +kernel
theorem dX1_settle_110 : decode cX1_settle 110 = .ok (.ifCond .lt 73, 3) := by decide +kernel
theorem dX1_settle_113 : decode cX1_settle 113 = .ok (.aload_n 0, 1) := by decide +kernel
theorem dX1_settle_114 : decode cX1_settle 114 = .ok (.getfield 23, 3) := by decide +kernel
theorem dX1_settle_117 : decode cX1_settle 117 = .ok (.iload 10, 2) := by decide +kernel
theorem dX1_settle_119 : decode cX1_settle 119 = .ok (.lload 6, 2) := by decide +kernel
theorem dX1_settle_121 : decode cX1_settle 121 = .ok (.lastore, 1) := by decide +kernel
theorem dX1_settle_122 : decode cX1_settle 122 = .ok (.lload 8, 2) := by decide +kernel
theorem dX1_settle_124 : decode cX1_settle 124 = .ok (.aload_n 0, 1) := by decide +kernel
theorem dX1_settle_125 : decode cX1_settle 125 = .ok (.getfield 19, 3) := by decide +kernel
theorem dX1_settle_128 : decode cX1_settle 128 = .ok (.iload 10, 2) := by decide +kernel
theorem dX1_settle_130 : decode cX1_settle 130 = .ok (.iaload, 1) := by decide +kernel
theorem dX1_settle_131 : decode cX1_settle 131 = .ok (.ifCond .le 17, 3) := by decide +kernel
theorem dX1_settle_134 : decode cX1_settle 134 = .ok (.lload 6, 2) := by decide +kernel
theorem dX1_settle_136 : decode cX1_settle 136 = .ok (.aload_n 0, 1) := by decide +kernel
theorem dX1_settle_137 : decode cX1_settle 137 = .ok (.getfield 19, 3) := by decide +kernel
theorem dX1_settle_140 : decode cX1_settle 140 = .ok (.iload 10, 2) := by decide +kernel
theorem dX1_settle_142 : decode cX1_settle 142 = .ok (.iaload, 1) := by decide +kernel
theorem dX1_settle_143 : decode cX1_settle 143 = .ok (.i2l, 1) := by decide +kernel
theorem dX1_settle_144 : decode cX1_settle 144 = .ok (.ldiv, 1) := by decide +kernel
theorem dX1_settle_145 : decode cX1_settle 145 = .ok (.goto 4, 3) := by decide +kernel
theorem dX1_settle_148 : decode cX1_settle 148 = .ok (.lconst 0, 1) := by decide +kernel
theorem dX1_settle_149 : decode cX1_settle 149 = .ok (.ladd, 1) := by decide +kernel
theorem dX1_settle_150 : decode cX1_settle 150 = .ok (.lstore 8, 2) := by decide +kernel
theorem dX1_settle_152 : decode cX1_settle 152 = .ok (.aload_n 0, 1) := by decide +kernel
theorem dX1_settle_153 : decode cX1_settle 153 = .ok (.getfield 27, 3) := by decide +kernel
theorem dX1_settle_156 : decode cX1_settle 156 = .ok (.iload 10, 2) := by decide +kernel
theorem dX1_settle_158 : decode cX1_settle 158 = .ok (.lload 8, 2) := by decide +kernel
theorem dX1_settle_160 : decode cX1_settle 160 = .ok (.lastore, 1) := by decide +kernel
theorem dX1_settle_161 : decode cX1_settle 161 = .ok (.lload 6, 2) := by decide +kernel
theorem dX1_settle_163 : decode cX1_settle 163 = .ok (.aload_n 2, 1) := by decide +kernel
theorem dX1_settle_164 : decode cX1_settle 164 = .ok (.getfield 51, 3) := by decide +kernel
theorem dX1_settle_167 : decode cX1_settle 167 = .ok (.iload 10, 2) := by decide +kernel
theorem dX1_settle_169 : decode cX1_settle 169 = .ok (.iaload, 1) := by decide +kernel
theorem dX1_settle_170 : decode cX1_settle 170 = .ok (.i2l, 1) := by decide +kernel
theorem dX1_settle_171 : decode cX1_settle 171 = .ok (.lload 8, 2) := by decide +kernel
theorem dX1_settle_173 : decode cX1_settle 173 = .ok (.lmul, 1) := by decide +kernel
theorem dX1_settle_174 : decode cX1_settle 174 = .ok (.ladd, 1) := by decide +kernel
theorem dX1_settle_175 : decode cX1_settle 175 = .ok (.lstore 6, 2) := by decide +kernel
theorem dX1_settle_177 : decode cX1_settle 177 = .ok (.iinc 10 (-1), 3) := by decide +kernel
theorem dX1_settle_180 : decode cX1_settle 180 = .ok (.goto (-72), 3) := by decide +kernel
theorem dX1_settle_183 : decode cX1_settle 183 = .ok (.aload_n 0, 1) := by decide +kernel
theorem dX1_settle_184 : decode cX1_settle 184 = .ok (.lload 6, 2) := by decide +kernel
theorem dX1_settle_186 : decode cX1_settle 186 = .ok (.putfield 15, 3) := by decide +kernel
theorem dX1_settle_189 : decode cX1_settle 189 = .ok (.return_, 1) := by decide +kernel
theorem dX2_act_0 : decode cX2_act 0 = .ok (.aload_n 0, 1) := by decide +kernel
theorem dX2_act_1 : decode cX2_act 1 = .ok (.getfield 36, 3) := by decide +kernel
theorem dX2_act_4 : decode cX2_act 4 = .ok (.bipush 30, 2) := by decide +kernel
theorem dX2_act_6 : decode cX2_act 6 = .ok (.if_icmp .ge 43, 3) := by decide +kernel
theorem dX2_act_9 : decode cX2_act 9 = .ok (.aload_n 0, 1) := by decide +kernel
theorem dX2_act_10 : decode cX2_act 10 = .ok (.getfield 49, 3) := by decide +kernel
theorem dX2_act_13 : decode cX2_act 13 = .ok (.aload_n 0, 1) := by decide +kernel
theorem dX2_act_14 : decode cX2_act 14 = .ok (.getfield 36, 3) := by decide +kernel
theorem dX2_act_17 : decode cX2_act 17 = .ok (.iload_n 1, 1) := by decide +kernel
theorem dX2_act_18 : decode cX2_act 18 = .ok (.iastore, 1) := by decide +kernel
theorem dX2_act_19 : decode cX2_act 19 = .ok (.aload_n 0, 1) := by decide +kernel
theorem dX2_act_20 : decode cX2_act 20 = .ok (.getfield 52, 3) := by decide +kernel
theorem dX2_act_23 : decode cX2_act 23 = .ok (.aload_n 0, 1) := by decide +kernel
theorem dX2_act_24 : decode cX2_act 24 = .ok (.getfield 36, 3) := by decide +kernel
theorem dX2_act_27 : decode cX2_act 27 = .ok (.iload_n 2, 1) := by decide +kernel
theorem dX2_act_28 : decode cX2_act 28 = .ok (.iastore, 1) := by decide +kernel
theorem dX2_act_29 : decode cX2_act 29 = .ok (.aload_n 0, 1) := by decide +kernel
theorem dX2_act_30 : decode cX2_act 30 = .ok (.getfield 55, 3) := by decide +kernel
theorem dX2_act_33 : decode cX2_act 33 = .ok (.aload_n 0, 1) := by decide +kernel
theorem dX2_act_34 : decode cX2_act 34 = .ok (.getfield 36, 3) := by decide +kernel
theorem dX2_act_37 : decode cX2_act 37 = .ok (.iload_n 3, 1) := by decide +kernel
theorem dX2_act_38 : decode cX2_act 38 = .ok (.iastore, 1) := by decide +kernel
theorem dX2_act_39 : decode cX2_act 39 = .ok (.aload_n 0, 1) := by decide +kernel
theorem dX2_act_40 : decode cX2_act 40 = .ok (.aload_n 0, 1) := by decide +kernel
theorem dX2_act_41 : decode cX2_act 41 = .ok (.getfield 36, 3) := by decide +kernel
theorem dX2_act_44 : decode cX2_act 44 = .ok (.iconst 1, 1) := by decide +kernel
theorem dX2_act_45 : decode cX2_act 45 = .ok (.iadd, 1) := by decide +kernel
theorem dX2_act_46 : decode cX2_act 46 = .ok (.invokevirtual 64, 3) := by decide +kernel
theorem dX2_act_49 : decode cX2_act 49 = .ok (.return_, 1) := by decide +kernel
theorem dX2_firstSnap_0 : decode cX2_firstSnap 0 = .ok (.aload_n 0, 1) := by decide +kernel
theorem dX2_firstSnap_1 : decode cX2_firstSnap 1 = .ok (.getfield 61, 3) := by decide +kernel
theorem dX2_firstSnap_4 : decode cX2_firstSnap 4 = .ok (.iload_n 1, 1) := by decide +kernel
theorem dX2_firstSnap_5 : decode cX2_firstSnap 5 = .ok (.iaload, 1) := by decide +kernel
theorem dX2_firstSnap_6 : decode cX2_firstSnap 6 = .ok (.ifCond .ne 7, 3) := by decide +kernel
theorem dX2_firstSnap_9 : decode cX2_firstSnap 9 = .ok (.iconst (-1), 1) := by decide +kernel
theorem dX2_firstSnap_10 : decode cX2_firstSnap 10 = .ok (.goto 12, 3) := by decide +kernel
theorem dX2_firstSnap_13 : decode cX2_firstSnap 13 = .ok (.aload_n 0, 1) := by decide +kernel
theorem dX2_firstSnap_14 : decode cX2_firstSnap 14 = .ok (.getfield 61, 3) := by decide +kernel
theorem dX2_firstSnap_17 : decode cX2_firstSnap 17 = .ok (.iload_n 1, 1) := by decide +kernel
theorem dX2_firstSnap_18 : decode cX2_firstSnap 18 = .ok (.iaload, 1) := by decide +kernel
theorem dX2_firstSnap_19 : decode cX2_firstSnap 19 = .ok (.invokestatic 92, 3) := by decide +kernel
theorem dX2_firstSnap_22 : decode cX2_firstSnap 22 = .ok (.ireturn, 1) := by decide +kernel
theorem dX2_init_0 : decode cX2_init 0 = .ok (.aload_n 0, 1) := by decide +kernel
theorem dX2_init_1 : decode cX2_init 1 = .ok (.invokespecial 3, 3) := by decide +kernel
theorem dX2_init_4 : decode cX2_init 4 = .ok (.aload_n 0, 1) := by decide +kernel
theorem dX2_init_5 : decode cX2_init 5 = .ok (.iconst 0, 1) := by decide +kernel
theorem dX2_init_6 : decode cX2_init 6 = .ok (.putfield 9, 3) := by decide +kernel
theorem dX2_init_9 : decode cX2_init 9 = .ok (.aload_n 0, 1) := by decide +kernel
theorem dX2_init_10 : decode cX2_init 10 = .ok (.iconst 0, 1) := by decide +kernel
theorem dX2_init_11 : decode cX2_init 11 = .ok (.putfield 15, 3) := by decide +kernel
theorem dX2_init_14 : decode cX2_init 14 = .ok (.aload_n 0, 1) := by decide +kernel
theorem dX2_init_15 : decode cX2_init 15 = .ok (.iconst 0, 1) := by decide +kernel
theorem dX2_init_16 : decode cX2_init 16 = .ok (.putfield 18, 3) := by decide +kernel
theorem dX2_init_19 : decode cX2_init 19 = .ok (.aload_n 0, 1) := by decide +kernel
theorem dX2_init_20 : decode cX2_init 20 = .ok (.iconst 0, 1) := by decide +kernel
theorem dX2_init_21 : decode cX2_init 21 = .ok (.putfield 21, 3) := by decide +kernel
theorem dX2_init_24 : decode cX2_init 24 = .ok (.aload_n 0, 1) := by decide +kernel
theorem dX2_init_25 : decode cX2_init 25 = .ok (.iconst 0, 1) := by decide +kernel
theorem dX2_init_26 : decode cX2_init 26 = .ok (.putfield 24, 3) := by decide +kernel
theorem dX2_init_29 : decode cX2_init 29 = .ok (.aload_n 0, 1) := by decide +kernel
theorem dX2_init_30 : decode cX2_init 30 = .ok (.iconst 0, 1) := by decide +kernel
theorem dX2_init_31 : decode cX2_init 31 = .ok (.putfield 27, 3) := by decide +kernel
theorem dX2_init_34 : decode cX2_init 34 = .ok (.aload_n 0, 1) := by decide +kernel
theorem dX2_init_35 : decode cX2_init 35 = .ok (.iconst 0, 1) := by decide +kernel
theorem dX2_init_36 : decode cX2_init 36 = .ok (.putfield 30, 3) := by decide +kernel
theorem dX2_init_39 : decode cX2_init 39 = .ok (.aload_n 0, 1) := by decide +kernel
theorem dX2_init_40 : decode cX2_init 40 = .ok (.iconst 0, 1) := by decide +kernel
theorem dX2_init_41 : decode cX2_init 41 = .ok (.putfield 33, 3) := by decide +kernel
theorem dX2_init_44 : decode cX2_init 44 = .ok (.aload_n 0, 1) := by decide +kernel
theorem dX2_init_45 : decode cX2_init 45 = .ok (.iconst 0, 1) := by decide +kernel
theorem dX2_init_46 : decode cX2_init 46 = .ok (.putfield 36, 3) := by decide +kernel
theorem dX2_init_49 : decode cX2_init 49 = .ok (.aload_n 0, 1) := by decide +kernel
theorem dX2_init_50 : decode cX2_init 50 = .ok (.iconst 5, 1) := by decide +kernel
theorem dX2_init_51 : decode cX2_init 51 = .ok (.newarray .int, 2) := by decide +kernel
theorem dX2_init_53 : decode cX2_init 53 = .ok (.putfield 39, 3) := by decide +kernel
theorem dX2_init_56 : decode cX2_init 56 = .ok (.aload_n 0, 1) := by decide +kernel
theorem dX2_init_57 : decode cX2_init 57 = .ok (.iconst 5, 1) := by decide +kernel
theorem dX2_init_58 : decode cX2_init 58 = .ok (.newarray .int, 2) := by decide +kernel
theorem dX2_init_60 : decode cX2_init 60 = .ok (.putfield 43, 3) := by decide +kernel
theorem dX2_init_63 : decode cX2_init 63 = .ok (.aload_n 0, 1) := by decide +kernel
theorem dX2_init_64 : decode cX2_init 64 = .ok (.iconst 5, 1) := by decide +kernel
theorem dX2_init_65 : decode cX2_init 65 = .ok (.newarray .int, 2) := by decide +kernel
theorem dX2_init_67 : decode cX2_init 67 = .ok (.putfield 46, 3) := by decide +kernel
theorem dX2_init_70 : decode cX2_init 70 = .ok (.aload_n 0, 1) := by decide +kernel
theorem dX2_init_71 : decode cX2_init 71 = .ok (.bipush 30, 2) := by decide +kernel
theorem dX2_init_73 : decode cX2_init 73 = .ok (.newarray .int, 2) := by decide +kernel
theorem dX2_init_75 : decode cX2_init 75 = .ok (.putfield 49, 3) := by decide +kernel
theorem dX2_init_78 : decode cX2_init 78 = .ok (.aload_n 0, 1) := by decide +kernel
theorem dX2_init_79 : decode cX2_init 79 = .ok (.bipush 30, 2) := by decide +kernel
theorem dX2_init_81 : decode cX2_init 81 = .ok (.newarray .int, 2) := by decide +kernel
theorem dX2_init_83 : decode cX2_init 83 = .ok (.putfield 52, 3) := by decide +kernel
theorem dX2_init_86 : decode cX2_init 86 = .ok (.aload_n 0, 1) := by decide +kernel
theorem dX2_init_87 : decode cX2_init 87 = .ok (.bipush 30, 2) := by decide +kernel
theorem dX2_init_89 : decode cX2_init 89 = .ok (.newarray .int, 2) := by decide +kernel
theorem dX2_init_91 : decode cX2_init 91 = .ok (.putfield 55, 3) := by decide +kernel
theorem dX2_init_94 : decode cX2_init 94 = .ok (.aload_n 0, 1) := by decide +kernel
theorem dX2_init_95 : decode cX2_init 95 = .ok (.iconst 5, 1) := by decide +kernel
theorem dX2_init_96 : decode cX2_init 96 = .ok (.newarray .int, 2) := by decide +kernel
theorem dX2_init_98 : decode cX2_init 98 = .ok (.putfield 58, 3) := by decide +kernel
theorem dX2_init_101 : decode cX2_init 101 = .ok (.aload_n 0, 1) := by decide +kernel
theorem dX2_init_102 : decode cX2_init 102 = .ok (.iconst 5, 1) := by decide +kernel
theorem dX2_init_103 : decode cX2_init 103 = .ok (.newarray .int, 2) := by decide +kernel
theorem dX2_init_105 : decode cX2_init 105 = .ok (.putfield 61, 3) := by decide +kernel
theorem dX2_init_108 : decode cX2_init 108 = .ok (.return_, 1) := by decide +kernel
theorem dX2_isBroken_0 : decode cX2_isBroken 0 = .ok (.aload_n 0, 1) := by decide +kernel
theorem dX2_isBroken_1 : decode cX2_isBroken 1 = .ok (.getfield 61, 3) := by decide +kernel
theorem dX2_isBroken_4 : decode cX2_isBroken 4 = .ok (.iload_n 1, 1) := by decide +kernel
theorem dX2_isBroken_5 : decode cX2_isBroken 5 = .ok (.iaload, 1) := by decide +kernel
theorem dX2_isBroken_6 : decode cX2_isBroken 6 = .ok (.iconst 2, 1) := by decide +kernel
theorem dX2_isBroken_7 : decode cX2_isBroken 7 = .ok (.iload_n 2, 1) := by decide +kernel
theorem dX2_isBroken_8 : decode cX2_isBroken 8 = .ok (.ishl, 1) := by decide +kernel
theorem dX2_isBroken_9 : decode cX2_isBroken 9 = .ok (.iconst 1, 1) := by decide +kernel
theorem dX2_isBroken_10 : decode cX2_isBroken 10 = .ok (.isub, 1) := by decide +kernel
theorem dX2_isBroken_11 : decode cX2_isBroken 11 = .ok (.iand, 1) := by decide +kernel
theorem dX2_isBroken_12 : decode cX2_isBroken 12 = .ok (.ifCond .eq 7, 3) := by decide +kernel
theorem dX2_isBroken_15 : decode cX2_isBroken 15 = .ok (.iconst 1, 1) := by decide +kernel
theorem dX2_isBroken_16 : decode cX2_isBroken 16 = .ok (.goto 4, 3) := by decide +kernel
theorem dX2_isBroken_19 : decode cX2_isBroken 19 = .ok (.iconst 0, 1) := by decide +kernel
theorem dX2_isBroken_20 : decode cX2_isBroken 20 = .ok (.ireturn, 1) := by decide +kernel
theorem dX2_keepActs_0 : decode cX2_keepActs 0 = .ok (.aload_n 0, 1) := by decide +kernel
theorem dX2_keepActs_1 : decode cX2_keepActs 1 = .ok (.iload_n 1, 1) := by decide +kernel
theorem dX2_keepActs_2 : decode cX2_keepActs 2 = .ok (.bipush 30, 2) := by decide +kernel
theorem dX2_keepActs_4 : decode cX2_keepActs 4 = .ok (.invokestatic 74, 3) := by decide +kernel
theorem dX2_keepActs_7 : decode cX2_keepActs 7 = .ok (.putfield 36, 3) := by decide +kernel
theorem dX2_keepActs_10 : decode cX2_keepActs 10 = .ok (.aload_n 0, 1) := by decide +kernel
theorem dX2_keepActs_11 : decode cX2_keepActs 11 = .ok (.getfield 58, 3) := by decide +kernel
theorem dX2_keepActs_14 : decode cX2_keepActs 14 = .ok (.iconst 0, 1) := by decide +kernel
theorem dX2_keepActs_15 : decode cX2_keepActs 15 = .ok (.invokestatic 80, 3) := by decide +kernel
theorem dX2_keepActs_18 : decode cX2_keepActs 18 = .ok (.aload_n 0, 1) := by decide +kernel
theorem dX2_keepActs_19 : decode cX2_keepActs 19 = .ok (.getfield 61, 3) := by decide +kernel
theorem dX2_keepActs_22 : decode cX2_keepActs 22 = .ok (.iconst 0, 1) := by decide +kernel
theorem dX2_keepActs_23 : decode cX2_keepActs 23 = .ok (.invokestatic 80, 3) := by decide +kernel
theorem dX2_keepActs_26 : decode cX2_keepActs 26 = .ok (.iconst 0, 1) := by decide +kernel
theorem dX2_keepActs_27 : decode cX2_keepActs 27 = .ok (.istore_n 2, 1) := by decide +kernel
theorem dX2_keepActs_28 : decode cX2_keepActs 28 = .ok (.iload_n 2, 1) := by decide +kernel
theorem dX2_keepActs_29 : decode cX2_keepActs 29 = .ok (.aload_n 0, 1) := by decide +kernel
theorem dX2_keepActs_30 : decode cX2_keepActs 30 = .ok (.getfield 36, 3) := by decide +kernel
theorem dX2_keepActs_33 : decode cX2_keepActs 33 = .ok (.if_icmp .ge 49, 3) := by decide +kernel
theorem dX2_keepActs_36 : decode cX2_keepActs 36 = .ok (.aload_n 0, 1) := by decide +kernel
theorem dX2_keepActs_37 : decode cX2_keepActs 37 = .ok (.getfield 49, 3) := by decide +kernel
theorem dX2_keepActs_40 : decode cX2_keepActs 40 = .ok (.iload_n 2, 1) := by decide +kernel
theorem dX2_keepActs_41 : decode cX2_keepActs 41 = .ok (.iaload, 1) := by decide +kernel
theorem dX2_keepActs_42 : decode cX2_keepActs 42 = .ok (.ifCond .ne 10, 3) := by decide +kernel
theorem dX2_keepActs_45 : decode cX2_keepActs 45 = .ok (.aload_n 0, 1) := by decide +kernel
theorem dX2_keepActs_46 : decode cX2_keepActs 46 = .ok (.getfield 58, 3) := by decide +kernel
theorem dX2_keepActs_49 : decode cX2_keepActs 49 = .ok (.goto 7, 3) := by decide +kernel
theorem dX2_keepActs_52 : decode cX2_keepActs 52 = .ok (.aload_n 0, 1) := by decide +kernel
theorem dX2_keepActs_53 : decode cX2_keepActs 53 = .ok (.getfield 61, 3) := by decide +kernel
theorem dX2_keepActs_56 : decode cX2_keepActs 56 = .ok (.astore_n 3, 1) := by decide +kernel
theorem dX2_keepActs_57 : decode cX2_keepActs 57 = .ok (.aload_n 3, 1) := by decide +kernel
theorem dX2_keepActs_58 : decode cX2_keepActs 58 = .ok (.aload_n 0, 1) := by decide +kernel
theorem dX2_keepActs_59 : decode cX2_keepActs 59 = .ok (.getfield 52, 3) := by decide +kernel
theorem dX2_keepActs_62 : decode cX2_keepActs 62 = .ok (.iload_n 2, 1) := by decide +kernel
theorem dX2_keepActs_63 : decode cX2_keepActs 63 = .ok (.iaload, 1) := by decide +kernel
theorem dX2_keepActs_64 : decode cX2_keepActs 64 = .ok (.dup2, 1) := by decide +kernel
theorem dX2_keepActs_65 : decode cX2_keepActs 65 = .ok (.iaload, 1) := by decide +kernel
theorem dX2_keepActs_66 : decode cX2_keepActs 66 = .ok (.iconst 1, 1) := by decide +kernel
theorem dX2_keepActs_67 : decode cX2_keepActs 67 = .ok (.aload_n 0, 1) := by decide +kernel
theorem dX2_keepActs_68 : decode cX2_keepActs 68 = .ok (.getfield 55, 3) := by decide +kernel
theorem dX2_keepActs_71 : decode cX2_keepActs 71 = .ok (.iload_n 2, 1) := by decide +kernel
theorem dX2_keepActs_72 : decode cX2_keepActs 72 = .ok (.iaload, 1) := by decide +kernel
theorem dX2_keepActs_73 : decode cX2_keepActs 73 = .ok (.ishl, 1) := by decide +kernel
theorem dX2_keepActs_74 : decode cX2_keepActs 74 = .ok (.ior, 1) := by decide +kernel
theorem dX2_keepActs_75 : decode cX2_keepActs 75 = .ok (.iastore, 1) := by decide +kernel
theorem dX2_keepActs_76 : decode cX2_keepActs 76 = .ok (.iinc 2 1, 3) := by decide +kernel
theorem dX2_keepActs_79 : decode cX2_keepActs 79 = .ok (.goto (-51), 3) := by decide +kernel
theorem dX2_keepActs_82 : decode cX2_keepActs 82 = .ok (.return_, 1) := by decide +kernel
theorem dX2_latestCup_0 : decode cX2_latestCup 0 = .ok (.aload_n 0, 1) := by decide +kernel
theorem dX2_latestCup_1 : decode cX2_latestCup 1 = .ok (.getfield 58, 3) := by decide +kernel
theorem dX2_latestCup_4 : decode cX2_latestCup 4 = .ok (.iload_n 1, 1) := by decide +kernel
theorem dX2_latestCup_5 : decode cX2_latestCup 5 = .ok (.iaload, 1) := by decide +kernel
theorem dX2_latestCup_6 : decode cX2_latestCup 6 = .ok (.iconst 2, 1) := by decide +kernel
theorem dX2_latestCup_7 : decode cX2_latestCup 7 = .ok (.iload_n 2, 1) := by decide +kernel
theorem dX2_latestCup_8 : decode cX2_latestCup 8 = .ok (.ishl, 1) := by decide +kernel
theorem dX2_latestCup_9 : decode cX2_latestCup 9 = .ok (.iconst 1, 1) := by decide +kernel
theorem dX2_latestCup_10 : decode cX2_latestCup 10 = .ok (.isub, 1) := by decide +kernel
theorem dX2_latestCup_11 : decode cX2_latestCup 11 = .ok (.iand, 1) := by decide +kernel
theorem dX2_latestCup_12 : decode cX2_latestCup 12 = .ok (.istore_n 3, 1) := by decide +kernel
theorem dX2_latestCup_13 : decode cX2_latestCup 13 = .ok (.iload_n 3, 1) := by decide +kernel
theorem dX2_latestCup_14 : decode cX2_latestCup 14 = .ok (.ifCond .ne 7, 3) := by decide +kernel
theorem dX2_latestCup_17 : decode cX2_latestCup 17 = .ok (.iconst (-1), 1) := by decide +kernel
theorem dX2_latestCup_18 : decode cX2_latestCup 18 = .ok (.goto 10, 3) := by decide +kernel
theorem dX2_latestCup_21 : decode cX2_latestCup 21 = .ok (.bipush 31, 2) := by decide +kernel
theorem dX2_latestCup_23 : decode cX2_latestCup 23 = .ok (.iload_n 3, 1) := by decide +kernel
theorem dX2_latestCup_24 : decode cX2_latestCup 24 = .ok (.invokestatic 86, 3) := by decide +kernel
theorem dX2_latestCup_27 : decode cX2_latestCup 27 = .ok (.isub, 1) := by decide +kernel
theorem dX2_latestCup_28 : decode cX2_latestCup 28 = .ok (.ireturn, 1) := by decide +kernel
theorem dX2_stationBits_0 : decode cX2_stationBits 0 = .ok (.iconst 0, 1) := by decide +kernel
theorem dX2_stationBits_1 : decode cX2_stationBits 1 = .ok (.istore_n 1, 1) := by decide +kernel
theorem dX2_stationBits_2 : decode cX2_stationBits 2 = .ok (.iconst 0, 1) := by decide +kernel
theorem dX2_stationBits_3 : decode cX2_stationBits 3 = .ok (.istore_n 2, 1) := by decide +kernel
theorem dX2_stationBits_4 : decode cX2_stationBits 4 = .ok (.iload_n 2, 1) := by decide +kernel
theorem dX2_stationBits_5 : decode cX2_stationBits 5 = .ok (.aload_n 0, 1) := by decide +kernel
theorem dX2_stationBits_6 : decode cX2_stationBits 6 = .ok (.getfield 27, 3) := by decide +kernel
theorem dX2_stationBits_9 : decode cX2_stationBits 9 = .ok (.if_icmp .ge 25, 3) := by decide +kernel
theorem dX2_stationBits_12 : decode cX2_stationBits 12 = .ok (.aload_n 0, 1) := by decide +kernel
theorem dX2_stationBits_13 : decode cX2_stationBits 13 = .ok (.getfield 46, 3) := by decide +kernel
theorem dX2_stationBits_16 : decode cX2_stationBits 16 = .ok (.iload_n 2, 1) := by decide +kernel
theorem dX2_stationBits_17 : decode cX2_stationBits 17 = .ok (.iaload, 1) := by decide +kernel
theorem dX2_stationBits_18 : decode cX2_stationBits 18 = .ok (.iconst (-1), 1) := by decide +kernel
theorem dX2_stationBits_19 : decode cX2_stationBits 19 = .ok (.if_icmp .eq 9, 3) := by decide +kernel
theorem dX2_stationBits_22 : decode cX2_stationBits 22 = .ok (.iload_n 1, 1) := by decide +kernel
theorem dX2_stationBits_23 : decode cX2_stationBits 23 = .ok (.iconst 1, 1) := by decide +kernel
theorem dX2_stationBits_24 : decode cX2_stationBits 24 = .ok (.iload_n 2, 1) := by decide +kernel
theorem dX2_stationBits_25 : decode cX2_stationBits 25 = .ok (.ishl, 1) := by decide +kernel
theorem dX2_stationBits_26 : decode cX2_stationBits 26 = .ok (.ior, 1) := by decide +kernel
theorem dX2_stationBits_27 : decode cX2_stationBits 27 = .ok (.istore_n 1, 1) := by decide +kernel
theorem dX2_stationBits_28 : decode cX2_stationBits 28 = .ok (.iinc 2 1, 3) := by decide +kernel
theorem dX2_stationBits_31 : decode cX2_stationBits 31 = .ok (.goto (-27), 3) := by decide +kernel
theorem dX2_stationBits_34 : decode cX2_stationBits 34 = .ok (.iload_n 1, 1) := by decide +kernel
theorem dX2_stationBits_35 : decode cX2_stationBits 35 = .ok (.ireturn, 1) := by decide +kernel
theorem dX2_take_0 : decode cX2_take 0 = .ok (.aload_n 0, 1) := by decide +kernel
theorem dX2_take_1 : decode cX2_take 1 = .ok (.aload_n 1, 1) := by decide +kernel
theorem dX2_take_2 : decode cX2_take 2 = .ok (.getfield 9, 3) := by decide +kernel
theorem dX2_take_5 : decode cX2_take 5 = .ok (.putfield 9, 3) := by decide +kernel
theorem dX2_take_8 : decode cX2_take 8 = .ok (.aload_n 0, 1) := by decide +kernel
theorem dX2_take_9 : decode cX2_take 9 = .ok (.aload_n 1, 1) := by decide +kernel
theorem dX2_take_10 : decode cX2_take 10 = .ok (.getfield 15, 3) := by decide +kernel
theorem dX2_take_13 : decode cX2_take 13 = .ok (.putfield 15, 3) := by decide +kernel
theorem dX2_take_16 : decode cX2_take 16 = .ok (.aload_n 0, 1) := by decide +kernel
theorem dX2_take_17 : decode cX2_take 17 = .ok (.aload_n 1, 1) := by decide +kernel
theorem dX2_take_18 : decode cX2_take 18 = .ok (.getfield 18, 3) := by decide +kernel
theorem dX2_take_21 : decode cX2_take 21 = .ok (.putfield 18, 3) := by decide +kernel
theorem dX2_take_24 : decode cX2_take 24 = .ok (.aload_n 0, 1) := by decide +kernel
theorem dX2_take_25 : decode cX2_take 25 = .ok (.aload_n 1, 1) := by decide +kernel
theorem dX2_take_26 : decode cX2_take 26 = .ok (.getfield 21, 3) := by decide +kernel
theorem dX2_take_29 : decode cX2_take 29 = .ok (.putfield 21, 3) := by decide +kernel
theorem dX2_take_32 : decode cX2_take 32 = .ok (.aload_n 0, 1) := by decide +kernel
theorem dX2_take_33 : decode cX2_take 33 = .ok (.aload_n 1, 1) := by decide +kernel
theorem dX2_take_34 : decode cX2_take 34 = .ok (.getfield 24, 3) := by decide +kernel
theorem dX2_take_37 : decode cX2_take 37 = .ok (.putfield 24, 3) := by decide +kernel
theorem dX2_take_40 : decode cX2_take 40 = .ok (.aload_n 0, 1) := by decide +kernel
theorem dX2_take_41 : decode cX2_take 41 = .ok (.aload_n 1, 1) := by decide +kernel
theorem dX2_take_42 : decode cX2_take 42 = .ok (.getfield 27, 3) := by decide +kernel
theorem dX2_take_45 : decode cX2_take 45 = .ok (.putfield 27, 3) := by decide +kernel
theorem dX2_take_48 : decode cX2_take 48 = .ok (.aload_n 0, 1) := by decide +kernel
theorem dX2_take_49 : decode cX2_take 49 = .ok (.aload_n 1, 1) := by decide +kernel
theorem dX2_take_50 : decode cX2_take 50 = .ok (.getfield 30, 3) := by decide +kernel
theorem dX2_take_53 : decode cX2_take 53 = .ok (.putfield 30, 3) := by decide +kernel
theorem dX2_take_56 : decode cX2_take 56 = .ok (.aload_n 0, 1) := by decide +kernel
theorem dX2_take_57 : decode cX2_take 57 = .ok (.aload_n 1, 1) := by decide +kernel
theorem dX2_take_58 : decode cX2_take 58 = .ok (.getfield 33, 3) := by decide +kernel
theorem dX2_take_61 : decode cX2_take 61 = .ok (.putfield 33, 3) := by decide +kernel
theorem dX2_take_64 : decode cX2_take 64 = .ok (.aload_n 1, 1) := by decide +kernel
theorem dX2_take_65 : decode cX2_take 65 = .ok (.getfield 39, 3) := by decide +kernel
theorem dX2_take_68 : decode cX2_take 68 = .ok (.iconst 0, 1) := by decide +kernel
theorem dX2_take_69 : decode cX2_take 69 = .ok (.aload_n 0, 1) := by decide +kernel
theorem dX2_take_70 : decode cX2_take 70 = .ok (.getfield 39, 3) := by decide +kernel
theorem dX2_take_73 : decode cX2_take 73 = .ok (.iconst 0, 1) := by decide +kernel
theorem dX2_take_74 : decode cX2_take 74 = .ok (.iconst 5, 1) := by decide +kernel
theorem dX2_take_75 : decode cX2_take 75 = .ok (.invokestatic 68, 3) := by decide +kernel
theorem dX2_take_78 : decode cX2_take 78 = .ok (.aload_n 1, 1) := by decide +kernel
theorem dX2_take_79 : decode cX2_take 79 = .ok (.getfield 43, 3) := by decide +kernel
theorem dX2_take_82 : decode cX2_take 82 = .ok (.iconst 0, 1) := by decide +kernel
theorem dX2_take_83 : decode cX2_take 83 = .ok (.aload_n 0, 1) := by decide +kernel
theorem dX2_take_84 : decode cX2_take 84 = .ok (.getfield 43, 3) := by decide +kernel
theorem dX2_take_87 : decode cX2_take 87 = .ok (.iconst 0, 1) := by decide +kernel
theorem dX2_take_88 : decode cX2_take 88 = .ok (.iconst 5, 1) := by decide +kernel
theorem dX2_take_89 : decode cX2_take 89 = .ok (.invokestatic 68, 3) := by decide +kernel
theorem dX2_take_92 : decode cX2_take 92 = .ok (.aload_n 1, 1) := by decide +kernel
theorem dX2_take_93 : decode cX2_take 93 = .ok (.getfield 46, 3) := by decide +kernel
theorem dX2_take_96 : decode cX2_take 96 = .ok (.iconst 0, 1) := by decide +kernel
theorem dX2_take_97 : decode cX2_take 97 = .ok (.aload_n 0, 1) := by decide +kernel
theorem dX2_take_98 : decode cX2_take 98 = .ok (.getfield 46, 3) := by decide +kernel
theorem dX2_take_101 : decode cX2_take 101 = .ok (.iconst 0, 1) := by decide +kernel
theorem dX2_take_102 : decode cX2_take 102 = .ok (.iconst 5, 1) := by decide +kernel
theorem dX2_take_103 : decode cX2_take 103 = .ok (.invokestatic 68, 3) := by decide +kernel
theorem dX2_take_106 : decode cX2_take 106 = .ok (.aload_n 1, 1) := by decide +kernel
theorem dX2_take_107 : decode cX2_take 107 = .ok (.getfield 49, 3) := by decide +kernel
theorem dX2_take_110 : decode cX2_take 110 = .ok (.iconst 0, 1) := by decide +kernel
theorem dX2_take_111 : decode cX2_take 111 = .ok (.aload_n 0, 1) := by decide +kernel
theorem dX2_take_112 : decode cX2_take 112 = .ok (.getfield 49, 3) := by decide +kernel
theorem dX2_take_115 : decode cX2_take 115 = .ok (.iconst 0, 1) := by decide +kernel
theorem dX2_take_116 : decode cX2_take 116 = .ok (.bipush 30, 2) := by decide +kernel
theorem dX2_take_118 : decode cX2_take 118 = .ok (.invokestatic 68, 3) := by decide +kernel
theorem dX2_take_121 : decode cX2_take 121 = .ok (.aload_n 1, 1) := by decide +kernel
theorem dX2_take_122 : decode cX2_take 122 = .ok (.getfield 52, 3) := by decide +kernel
theorem dX2_take_125 : decode cX2_take 125 = .ok (.iconst 0, 1) := by decide +kernel
