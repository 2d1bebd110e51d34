theorem dX9_init_12 : decode cX9_init 12 = .ok (.iconst 4, 1) := by decide +kernel
theorem dX9_init_13 : decode cX9_init 13 = .ok (.newarray .int, 2) := by decide +kernel
theorem dX9_init_15 : decode cX9_init 15 = .ok (.putfield 13, 3) := by decide +kernel
theorem dX9_init_18 : decode cX9_init 18 = .ok (.aload_n 0, 1) := by decide +kernel
theorem dX9_init_19 : decode cX9_init 19 = .ok (.sipush 240, 3) := by decide +kernel
theorem dX9_init_22 : decode cX9_init 22 = .ok (.newarray .long, 2) := by decide +kernel
theorem dX9_init_24 : decode cX9_init 24 = .ok (.putfield 16, 3) := by decide +kernel
theorem dX9_init_27 : decode cX9_init 27 = .ok (.aload_n 0, 1) := by decide +kernel
theorem dX9_init_28 : decode cX9_init 28 = .ok (.bipush 60, 2) := by decide +kernel
theorem dX9_init_30 : decode cX9_init 30 = .ok (.newarray .long, 2) := by decide +kernel
theorem dX9_init_32 : decode cX9_init 32 = .ok (.putfield 20, 3) := by decide +kernel
theorem dX9_init_35 : decode cX9_init 35 = .ok (.aload_n 0, 1) := by decide +kernel
theorem dX9_init_36 : decode cX9_init 36 = .ok (.sipush 500, 3) := by decide +kernel
theorem dX9_init_39 : decode cX9_init 39 = .ok (.newarray .byte, 2) := by decide +kernel
theorem dX9_init_41 : decode cX9_init 41 = .ok (.putfield 23, 3) := by decide +kernel
theorem dX9_init_44 : decode cX9_init 44 = .ok (.aload_n 0, 1) := by decide +kernel
theorem dX9_init_45 : decode cX9_init 45 = .ok (.iconst (-1), 1) := by decide +kernel
theorem dX9_init_46 : decode cX9_init 46 = .ok (.putfield 27, 3) := by decide +kernel
theorem dX9_init_49 : decode cX9_init 49 = .ok (.aload_n 0, 1) := by decide +kernel
theorem dX9_init_50 : decode cX9_init 50 = .ok (.iconst 5, 1) := by decide +kernel
theorem dX9_init_51 : decode cX9_init 51 = .ok (.newarray .int, 2) := by decide +kernel
theorem dX9_init_53 : decode cX9_init 53 = .ok (.putfield 31, 3) := by decide +kernel
theorem dX9_init_56 : decode cX9_init 56 = .ok (.aload_n 0, 1) := by decide +kernel
theorem dX9_init_57 : decode cX9_init 57 = .ok (.bipush 35, 2) := by decide +kernel
theorem dX9_init_59 : decode cX9_init 59 = .ok (.newarray .int, 2) := by decide +kernel
theorem dX9_init_61 : decode cX9_init 61 = .ok (.putfield 34, 3) := by decide +kernel
theorem dX9_init_64 : decode cX9_init 64 = .ok (.aload_n 0, 1) := by decide +kernel
theorem dX9_init_65 : decode cX9_init 65 = .ok (.bipush 75, 2) := by decide +kernel
theorem dX9_init_67 : decode cX9_init 67 = .ok (.newarray .int, 2) := by decide +kernel
theorem dX9_init_69 : decode cX9_init 69 = .ok (.putfield 37, 3) := by decide +kernel
theorem dX9_init_72 : decode cX9_init 72 = .ok (.aload_n 0, 1) := by decide +kernel
theorem dX9_init_73 : decode cX9_init 73 = .ok (.bipush 40, 2) := by decide +kernel
theorem dX9_init_75 : decode cX9_init 75 = .ok (.newarray .int, 2) := by decide +kernel
theorem dX9_init_77 : decode cX9_init 77 = .ok (.putfield 40, 3) := by decide +kernel
theorem dX9_init_80 : decode cX9_init 80 = .ok (.aload_n 0, 1) := by decide +kernel
theorem dX9_init_81 : decode cX9_init 81 = .ok (.sipush 450, 3) := by decide +kernel
theorem dX9_init_84 : decode cX9_init 84 = .ok (.newarray .int, 2) := by decide +kernel
theorem dX9_init_86 : decode cX9_init 86 = .ok (.putfield 43, 3) := by decide +kernel
theorem dX9_init_89 : decode cX9_init 89 = .ok (.aload_n 0, 1) := by decide +kernel
theorem dX9_init_90 : decode cX9_init 90 = .ok (.iconst 3, 1) := by decide +kernel
theorem dX9_init_91 : decode cX9_init 91 = .ok (.newarray .boolean, 2) := by decide +kernel
theorem dX9_init_93 : decode cX9_init 93 = .ok (.putfield 46, 3) := by decide +kernel
theorem dX9_init_96 : decode cX9_init 96 = .ok (.aload_n 0, 1) := by decide +kernel
theorem dX9_init_97 : decode cX9_init 97 = .ok (.iconst 5, 1) := by decide +kernel
theorem dX9_init_98 : decode cX9_init 98 = .ok (.newarray .int, 2) := by decide +kernel
theorem dX9_init_100 : decode cX9_init 100 = .ok (.putfield 50, 3) := by decide +kernel
theorem dX9_init_103 : decode cX9_init 103 = .ok (.aload_n 0, 1) := by decide +kernel
theorem dX9_init_104 : decode cX9_init 104 = .ok (.iconst 5, 1) := by decide +kernel
theorem dX9_init_105 : decode cX9_init 105 = .ok (.newarray .int, 2) := by decide +kernel
theorem dX9_init_107 : decode cX9_init 107 = .ok (.putfield 53, 3) := by decide +kernel
theorem dX9_init_110 : decode cX9_init 110 = .ok (.aload_n 0, 1) := by decide +kernel
theorem dX9_init_111 : decode cX9_init 111 = .ok (.bipush 6, 2) := by decide +kernel
theorem dX9_init_113 : decode cX9_init 113 = .ok (.newarray .long, 2) := by decide +kernel
theorem dX9_init_115 : decode cX9_init 115 = .ok (.putfield 56, 3) := by decide +kernel
theorem dX9_init_118 : decode cX9_init 118 = .ok (.aload_n 0, 1) := by decide +kernel
theorem dX9_init_119 : decode cX9_init 119 = .ok (.iconst 5, 1) := by decide +kernel
theorem dX9_init_120 : decode cX9_init 120 = .ok (.newarray .long, 2) := by decide +kernel
theorem dX9_init_122 : decode cX9_init 122 = .ok (.putfield 59, 3) := by decide +kernel
theorem dX9_init_125 : decode cX9_init 125 = .ok (.aload_n 0, 1) := by decide +kernel
theorem dX9_init_126 : decode cX9_init 126 = .ok (.sipush 434, 3) := by decide +kernel
theorem dX9_init_129 : decode cX9_init 129 = .ok (.newarray .long, 2) := by decide +kernel
theorem dX9_init_131 : decode cX9_init 131 = .ok (.putfield 62, 3) := by decide +kernel
theorem dX9_init_134 : decode cX9_init 134 = .ok (.aload_n 0, 1) := by decide +kernel
theorem dX9_init_135 : decode cX9_init 135 = .ok (.sipush 434, 3) := by decide +kernel
theorem dX9_init_138 : decode cX9_init 138 = .ok (.newarray .long, 2) := by decide +kernel
theorem dX9_init_140 : decode cX9_init 140 = .ok (.putfield 65, 3) := by decide +kernel
theorem dX9_init_143 : decode cX9_init 143 = .ok (.iconst 0, 1) := by decide +kernel
theorem dX9_init_144 : decode cX9_init 144 = .ok (.istore_n 1, 1) := by decide +kernel
theorem dX9_init_145 : decode cX9_init 145 = .ok (.iload_n 1, 1) := by decide +kernel
theorem dX9_init_146 : decode cX9_init 146 = .ok (.iconst 4, 1) := by decide +kernel
theorem dX9_init_147 : decode cX9_init 147 = .ok (.if_icmp .ge 16, 3) := by decide +kernel
theorem dX9_init_150 : decode cX9_init 150 = .ok (.aload_n 0, 1) := by decide +kernel
theorem dX9_init_151 : decode cX9_init 151 = .ok (.getfield 7, 3) := by decide +kernel
theorem dX9_init_154 : decode cX9_init 154 = .ok (.iload_n 1, 1) := by decide +kernel
theorem dX9_init_155 : decode cX9_init 155 = .ok (.iconst (-1), 1) := by decide +kernel
theorem dX9_init_156 : decode cX9_init 156 = .ok (.iastore, 1) := by decide +kernel
theorem dX9_init_157 : decode cX9_init 157 = .ok (.iinc 1 1, 3) := by decide +kernel
theorem dX9_init_160 : decode cX9_init 160 = .ok (.goto (-15), 3) := by decide +kernel
theorem dX9_init_163 : decode cX9_init 163 = .ok (.return_, 1) := by decide +kernel
theorem dX9_isByte_0 : decode cX9_isByte 0 = .ok (.iload_n 1, 1) := by decide +kernel
theorem dX9_isByte_1 : decode cX9_isByte 1 = .ok (.aload_n 0, 1) := by decide +kernel
theorem dX9_isByte_2 : decode cX9_isByte 2 = .ok (.getfield 85, 3) := by decide +kernel
theorem dX9_isByte_5 : decode cX9_isByte 5 = .ok (.if_icmp .ge 27, 3) := by decide +kernel
theorem dX9_isByte_32 : decode cX9_isByte 32 = .ok (.iconst 0, 1) := by decide +kernel
theorem dX9_isByte_33 : decode cX9_isByte 33 = .ok (.ireturn, 1) := by decide +kernel
theorem dX9_isDay_0 : decode cX9_isDay 0 = .ok (.aload_n 0, 1) := by decide +kernel
theorem dX9_isDay_1 : decode cX9_isDay 1 = .ok (.invokevirtual 219, 3) := by decide +kernel
theorem dX9_isDay_4 : decode cX9_isDay 4 = .ok (.ifCond .eq 20, 3) := by decide +kernel
theorem dX9_isDay_24 : decode cX9_isDay 24 = .ok (.iconst 0, 1) := by decide +kernel
theorem dX9_isDay_25 : decode cX9_isDay 25 = .ok (.ireturn, 1) := by decide +kernel
theorem dX9_isGood_0 : decode cX9_isGood 0 = .ok (.aload_n 0, 1) := by decide +kernel
theorem dX9_isGood_1 : decode cX9_isGood 1 = .ok (.getfield 120, 3) := by decide +kernel
theorem dX9_isGood_4 : decode cX9_isGood 4 = .ok (.ifCond .ne 7, 3) := by decide +kernel
theorem dX9_isGood_7 : decode cX9_isGood 7 = .ok (.iconst 1, 1) := by decide +kernel
theorem dX9_isGood_8 : decode cX9_isGood 8 = .ok (.goto 4, 3) := by decide +kernel
theorem dX9_isGood_12 : decode cX9_isGood 12 = .ok (.ireturn, 1) := by decide +kernel
theorem dX9_isOf_0 : decode cX9_isOf 0 = .ok (.aload_n 0, 1) := by decide +kernel
theorem dX9_isOf_1 : decode cX9_isOf 1 = .ok (.iload_n 1, 1) := by decide +kernel
theorem dX9_isOf_2 : decode cX9_isOf 2 = .ok (.invokevirtual 216, 3) := by decide +kernel
theorem dX9_isOf_5 : decode cX9_isOf 5 = .ok (.ifCond .eq 23, 3) := by decide +kernel
theorem dX9_isOf_28 : decode cX9_isOf 28 = .ok (.iconst 0, 1) := by decide +kernel
theorem dX9_isOf_29 : decode cX9_isOf 29 = .ok (.ireturn, 1) := by decide +kernel
theorem dX9_isOver_0 : decode cX9_isOver 0 = .ok (.aload_n 0, 1) := by decide +kernel
theorem dX9_isOver_1 : decode cX9_isOver 1 = .ok (.iconst 0, 1) := by decide +kernel
theorem dX9_isOver_2 : decode cX9_isOver 2 = .ok (.putfield 85, 3) := by decide +kernel
theorem dX9_isOver_5 : decode cX9_isOver 5 = .ok (.aload_n 0, 1) := by decide +kernel
theorem dX9_isOver_6 : decode cX9_isOver 6 = .ok (.aload_n 0, 1) := by decide +kernel
theorem dX9_isOver_7 : decode cX9_isOver 7 = .ok (.getfield 120, 3) := by decide +kernel
theorem dX9_isOver_10 : decode cX9_isOver 10 = .ok (.putfield 147, 3) := by decide +kernel
theorem dX9_isOver_13 : decode cX9_isOver 13 = .ok (.aload_n 0, 1) := by decide +kernel
theorem dX9_isOver_14 : decode cX9_isOver 14 = .ok (.aload_n 0, 1) := by decide +kernel
theorem dX9_isOver_15 : decode cX9_isOver 15 = .ok (.getfield 120, 3) := by decide +kernel
theorem dX9_isOver_18 : decode cX9_isOver 18 = .ok (.ifCond .ne 7, 3) := by decide +kernel
theorem dX9_isOver_21 : decode cX9_isOver 21 = .ok (.iconst (-1), 1) := by decide +kernel
theorem dX9_isOver_22 : decode cX9_isOver 22 = .ok (.goto 7, 3) := by decide +kernel
theorem dX9_isOver_29 : decode cX9_isOver 29 = .ok (.putfield 27, 3) := by decide +kernel
theorem dX9_isOver_32 : decode cX9_isOver 32 = .ok (.return_, 1) := by decide +kernel
theorem dX9_isSeed_0 : decode cX9_isSeed 0 = .ok (.iload_n 0, 1) := by decide +kernel
theorem dX9_isSeed_1 : decode cX9_isSeed 1 = .ok (.i2l, 1) := by decide +kernel
theorem dX9_isSeed_2 : decode cX9_isSeed 2 = .ok (.lconst 0, 1) := by decide +kernel
theorem dX9_isSeed_3 : decode cX9_isSeed 3 = .ok (.ldc2_w 399, 3) := by decide +kernel
theorem dX9_isSeed_6 : decode cX9_isSeed 6 = .ok (.invokestatic 73, 3) := by decide +kernel
theorem dX9_isSeed_9 : decode cX9_isSeed 9 = .ok (.ireturn, 1) := by decide +kernel
theorem dX9_isSlot_0 : decode cX9_isSlot 0 = .ok (.iload_n 0, 1) := by decide +kernel
theorem dX9_isSlot_1 : decode cX9_isSlot 1 = .ok (.i2l, 1) := by decide +kernel
theorem dX9_isSlot_2 : decode cX9_isSlot 2 = .ok (.lconst 0, 1) := by decide +kernel
theorem dX9_isSlot_3 : decode cX9_isSlot 3 = .ok (.ldc2_w 71, 3) := by decide +kernel
theorem dX9_isSlot_6 : decode cX9_isSlot 6 = .ok (.invokestatic 73, 3) := by decide +kernel
theorem dX9_isSlot_9 : decode cX9_isSlot 9 = .ok (.ireturn, 1) := by decide +kernel
theorem dX9_isSoon_0 : decode cX9_isSoon 0 = .ok (.aload_n 0, 1) := by decide +kernel
theorem dX9_isSoon_1 : decode cX9_isSoon 1 = .ok (.iload_n 1, 1) := by decide +kernel
theorem dX9_isSoon_2 : decode cX9_isSoon 2 = .ok (.i2l, 1) := by decide +kernel
theorem dX9_isSoon_3 : decode cX9_isSoon 3 = .ok (.invokevirtual 289, 3) := by decide +kernel
theorem dX9_isSoon_6 : decode cX9_isSoon 6 = .ok (.ifCond .eq 13, 3) := by decide +kernel
theorem dX9_isSoon_19 : decode cX9_isSoon 19 = .ok (.iconst 0, 1) := by decide +kernel
theorem dX9_isSoon_20 : decode cX9_isSoon 20 = .ok (.ireturn, 1) := by decide +kernel
theorem dX9_isSpan_0 : decode cX9_isSpan 0 = .ok (.iload_n 1, 1) := by decide +kernel
theorem dX9_isSpan_1 : decode cX9_isSpan 1 = .ok (.i2l, 1) := by decide +kernel
theorem dX9_isSpan_2 : decode cX9_isSpan 2 = .ok (.lconst 0, 1) := by decide +kernel
theorem dX9_isSpan_3 : decode cX9_isSpan 3 = .ok (.aload_n 0, 1) := by decide +kernel
theorem dX9_isSpan_4 : decode cX9_isSpan 4 = .ok (.invokevirtual 212, 3) := by decide +kernel
theorem dX9_isSpan_7 : decode cX9_isSpan 7 = .ok (.i2l, 1) := by decide +kernel
theorem dX9_isSpan_8 : decode cX9_isSpan 8 = .ok (.lconst 1, 1) := by decide +kernel
theorem dX9_isSpan_9 : decode cX9_isSpan 9 = .ok (.lsub, 1) := by decide +kernel
theorem dX9_isSpan_10 : decode cX9_isSpan 10 = .ok (.invokestatic 73, 3) := by decide +kernel
theorem dX9_isSpan_13 : decode cX9_isSpan 13 = .ok (.ireturn, 1) := by decide +kernel
theorem dX9_isStation_0 : decode cX9_isStation 0 = .ok (.aload_n 0, 1) := by decide +kernel
theorem dX9_isStation_1 : decode cX9_isStation 1 = .ok (.iload_n 1, 1) := by decide +kernel
theorem dX9_isStation_2 : decode cX9_isStation 2 = .ok (.invokevirtual 216, 3) := by decide +kernel
theorem dX9_isStation_5 : decode cX9_isStation 5 = .ok (.ifCond .eq 21, 3) := by decide +kernel
theorem dX9_isStation_26 : decode cX9_isStation 26 = .ok (.iconst 0, 1) := by decide +kernel
theorem dX9_isStation_27 : decode cX9_isStation 27 = .ok (.ireturn, 1) := by decide +kernel
theorem dX9_isWire_0 : decode cX9_isWire 0 = .ok (.aload_n 0, 1) := by decide +kernel
theorem dX9_isWire_1 : decode cX9_isWire 1 = .ok (.getfield 31, 3) := by decide +kernel
theorem dX9_isWire_4 : decode cX9_isWire 4 = .ok (.iconst 0, 1) := by decide +kernel
theorem dX9_isWire_5 : decode cX9_isWire 5 = .ok (.iaload, 1) := by decide +kernel
theorem dX9_isWire_6 : decode cX9_isWire 6 = .ok (.ifCond .le 7, 3) := by decide +kernel
theorem dX9_isWire_13 : decode cX9_isWire 13 = .ok (.iconst 0, 1) := by decide +kernel
theorem dX9_isWire_14 : decode cX9_isWire 14 = .ok (.ireturn, 1) := by decide +kernel
theorem dX9_joined_0 : decode cX9_joined 0 = .ok (.aload_n 0, 1) := by decide +kernel
theorem dX9_joined_1 : decode cX9_joined 1 = .ok (.iconst 0, 1) := by decide +kernel
theorem dX9_joined_2 : decode cX9_joined 2 = .ok (.putfield 68, 3) := by decide +kernel
theorem dX9_joined_5 : decode cX9_joined 5 = .ok (.aload_n 0, 1) := by decide +kernel
theorem dX9_joined_6 : decode cX9_joined 6 = .ok (.iload_n 1, 1) := by decide +kernel
theorem dX9_joined_7 : decode cX9_joined 7 = .ok (.i2l, 1) := by decide +kernel
theorem dX9_joined_8 : decode cX9_joined 8 = .ok (.invokevirtual 289, 3) := by decide +kernel
theorem dX9_joined_11 : decode cX9_joined 11 = .ok (.ifCond .ne 6, 3) := by decide +kernel
theorem dX9_joined_14 : decode cX9_joined 14 = .ok (.bipush (-2), 2) := by decide +kernel
theorem dX9_joined_16 : decode cX9_joined 16 = .ok (.ireturn, 1) := by decide +kernel
theorem dX9_lack_0 : decode cX9_lack 0 = .ok (.aload_n 0, 1) := by decide +kernel
theorem dX9_lack_1 : decode cX9_lack 1 = .ok (.iconst 0, 1) := by decide +kernel
theorem dX9_lack_2 : decode cX9_lack 2 = .ok (.putfield 68, 3) := by decide +kernel
theorem dX9_lack_5 : decode cX9_lack 5 = .ok (.aload_n 0, 1) := by decide +kernel
theorem dX9_lack_6 : decode cX9_lack 6 = .ok (.iload_n 1, 1) := by decide +kernel
theorem dX9_lack_7 : decode cX9_lack 7 = .ok (.i2l, 1) := by decide +kernel
theorem dX9_lack_8 : decode cX9_lack 8 = .ok (.invokevirtual 289, 3) := by decide +kernel
theorem dX9_lack_11 : decode cX9_lack 11 = .ok (.ifCond .ne 6, 3) := by decide +kernel
theorem dX9_lack_14 : decode cX9_lack 14 = .ok (.bipush (-2), 2) := by decide +kernel
theorem dX9_lack_16 : decode cX9_lack 16 = .ok (.ireturn, 1) := by decide +kernel
theorem dX9_last_0 : decode cX9_last 0 = .ok (.aload_n 0, 1) := by decide +kernel
theorem dX9_last_1 : decode cX9_last 1 = .ok (.iconst 0, 1) := by decide +kernel
theorem dX9_last_2 : decode cX9_last 2 = .ok (.putfield 68, 3) := by decide +kernel
theorem dX9_last_5 : decode cX9_last 5 = .ok (.aload_n 0, 1) := by decide +kernel
theorem dX9_last_6 : decode cX9_last 6 = .ok (.invokevirtual 219, 3) := by decide +kernel
theorem dX9_last_9 : decode cX9_last 9 = .ok (.ifCond .ne 6, 3) := by decide +kernel
theorem dX9_last_12 : decode cX9_last 12 = .ok (.bipush (-2), 2) := by decide +kernel
theorem dX9_last_14 : decode cX9_last 14 = .ok (.ireturn, 1) := by decide +kernel
theorem dX9_law_0 : decode cX9_law 0 = .ok (.aload_n 0, 1) := by decide +kernel
theorem dX9_law_1 : decode cX9_law 1 = .ok (.iconst 0, 1) := by decide +kernel
theorem dX9_law_2 : decode cX9_law 2 = .ok (.putfield 68, 3) := by decide +kernel
theorem dX9_law_5 : decode cX9_law 5 = .ok (.aload_n 0, 1) := by decide +kernel
theorem dX9_law_6 : decode cX9_law 6 = .ok (.invokevirtual 219, 3) := by decide +kernel
theorem dX9_law_9 : decode cX9_law 9 = .ok (.ifCond .ne 6, 3) := by decide +kernel
theorem dX9_law_12 : decode cX9_law 12 = .ok (.bipush (-2), 2) := by decide +kernel
theorem dX9_law_14 : decode cX9_law 14 = .ok (.ireturn, 1) := by decide +kernel
theorem dX9_laws_0 : decode cX9_laws 0 = .ok (.aload_n 0, 1) := by decide +kernel
theorem dX9_laws_1 : decode cX9_laws 1 = .ok (.iconst 0, 1) := by decide +kernel
theorem dX9_laws_2 : decode cX9_laws 2 = .ok (.putfield 68, 3) := by decide +kernel
theorem dX9_laws_5 : decode cX9_laws 5 = .ok (.aload_n 0, 1) := by decide +kernel
theorem dX9_laws_6 : decode cX9_laws 6 = .ok (.iload_n 1, 1) := by decide +kernel
theorem dX9_laws_7 : decode cX9_laws 7 = .ok (.iconst 1, 1) := by decide +kernel
theorem dX9_laws_8 : decode cX9_laws 8 = .ok (.invokevirtual 358, 3) := by decide +kernel
theorem dX9_laws_11 : decode cX9_laws 11 = .ok (.istore_n 2, 1) := by decide +kernel
theorem dX9_laws_12 : decode cX9_laws 12 = .ok (.iload_n 2, 1) := by decide +kernel
theorem dX9_laws_13 : decode cX9_laws 13 = .ok (.ifCond .eq 5, 3) := by decide +kernel
theorem dX9_laws_16 : decode cX9_laws 16 = .ok (.iload_n 2, 1) := by decide +kernel
theorem dX9_laws_17 : decode cX9_laws 17 = .ok (.ireturn, 1) := by decide +kernel
theorem dX9_leak_0 : decode cX9_leak 0 = .ok (.aload_n 0, 1) := by decide +kernel
theorem dX9_leak_1 : decode cX9_leak 1 = .ok (.iconst 0, 1) := by decide +kernel
theorem dX9_leak_2 : decode cX9_leak 2 = .ok (.putfield 68, 3) := by decide +kernel
theorem dX9_leak_5 : decode cX9_leak 5 = .ok (.aload_n 0, 1) := by decide +kernel
theorem dX9_leak_6 : decode cX9_leak 6 = .ok (.iload_n 1, 1) := by decide +kernel
theorem dX9_leak_7 : decode cX9_leak 7 = .ok (.invokevirtual 216, 3) := by decide +kernel
theorem dX9_leak_10 : decode cX9_leak 10 = .ok (.ifCond .eq 12, 3) := by decide +kernel
theorem dX9_leak_22 : decode cX9_leak 22 = .ok (.bipush (-2), 2) := by decide +kernel
theorem dX9_leak_24 : decode cX9_leak 24 = .ok (.ireturn, 1) := by decide +kernel
theorem dX9_leaves_0 : decode cX9_leaves 0 = .ok (.aload_n 0, 1) := by decide +kernel
theorem dX9_leaves_1 : decode cX9_leaves 1 = .ok (.iconst 0, 1) := by decide +kernel
theorem dX9_leaves_2 : decode cX9_leaves 2 = .ok (.putfield 68, 3) := by decide +kernel
theorem dX9_leaves_5 : decode cX9_leaves 5 = .ok (.aload_n 0, 1) := by decide +kernel
theorem dX9_leaves_6 : decode cX9_leaves 6 = .ok (.iload_n 1, 1) := by decide +kernel
theorem dX9_leaves_7 : decode cX9_leaves 7 = .ok (.aload_n 0, 1) := by decide +kernel
theorem dX9_leaves_8 : decode cX9_leaves 8 = .ok (.iload_n 2, 1) := by decide +kernel
theorem dX9_leaves_9 : decode cX9_leaves 9 = .ok (.invokevirtual 216, 3) := by decide +kernel
theorem dX9_leaves_12 : decode cX9_leaves 12 = .ok (.invokevirtual 358, 3) := by decide +kernel
theorem dX9_leaves_15 : decode cX9_leaves 15 = .ok (.istore_n 3, 1) := by decide +kernel
theorem dX9_leaves_16 : decode cX9_leaves 16 = .ok (.iload_n 3, 1) := by decide +kernel
theorem dX9_leaves_17 : decode cX9_leaves 17 = .ok (.ifCond .eq 5, 3) := by decide +kernel
theorem dX9_leaves_20 : decode cX9_leaves 20 = .ok (.iload_n 3, 1) := by decide +kernel
theorem dX9_leaves_21 : decode cX9_leaves 21 = .ok (.ireturn, 1) := by decide +kernel
theorem dX9_longest_0 : decode cX9_longest 0 = .ok (.aload_n 0, 1) := by decide +kernel
theorem dX9_longest_1 : decode cX9_longest 1 = .ok (.iconst 0, 1) := by decide +kernel
theorem dX9_longest_2 : decode cX9_longest 2 = .ok (.putfield 68, 3) := by decide +kernel
theorem dX9_longest_5 : decode cX9_longest 5 = .ok (.aload_n 0, 1) := by decide +kernel
theorem dX9_longest_6 : decode cX9_longest 6 = .ok (.iload_n 1, 1) := by decide +kernel
theorem dX9_longest_7 : decode cX9_longest 7 = .ok (.invokevirtual 268, 3) := by decide +kernel
theorem dX9_longest_10 : decode cX9_longest 10 = .ok (.ifCond .ne 6, 3) := by decide +kernel
theorem dX9_longest_13 : decode cX9_longest 13 = .ok (.bipush (-2), 2) := by decide +kernel
theorem dX9_longest_15 : decode cX9_longest 15 = .ok (.ireturn, 1) := by decide +kernel
theorem dX9_loud_0 : decode cX9_loud 0 = .ok (.aload_n 0, 1) := by decide +kernel
theorem dX9_loud_1 : decode cX9_loud 1 = .ok (.iconst 0, 1) := by decide +kernel
theorem dX9_loud_2 : decode cX9_loud 2 = .ok (.putfield 68, 3) := by decide +kernel
theorem dX9_loud_5 : decode cX9_loud 5 = .ok (.aload_n 0, 1) := by decide +kernel
theorem dX9_loud_6 : decode cX9_loud 6 = .ok (.iload_n 1, 1) := by decide +kernel
theorem dX9_loud_7 : decode cX9_loud 7 = .ok (.i2l, 1) := by decide +kernel
theorem dX9_loud_8 : decode cX9_loud 8 = .ok (.invokevirtual 289, 3) := by decide +kernel
theorem dX9_loud_11 : decode cX9_loud 11 = .ok (.ifCond .ne 6, 3) := by decide +kernel
theorem dX9_loud_14 : decode cX9_loud 14 = .ok (.bipush (-2), 2) := by decide +kernel
theorem dX9_loud_16 : decode cX9_loud 16 = .ok (.ireturn, 1) := by decide +kernel
theorem dX9_low_0 : decode cX9_low 0 = .ok (.aload_n 0, 1) := by decide +kernel
theorem dX9_low_1 : decode cX9_low 1 = .ok (.iconst 0, 1) := by decide +kernel
theorem dX9_low_2 : decode cX9_low 2 = .ok (.putfield 68, 3) := by decide +kernel
theorem dX9_low_5 : decode cX9_low 5 = .ok (.aload_n 0, 1) := by decide +kernel
theorem dX9_low_6 : decode cX9_low 6 = .ok (.iload_n 1, 1) := by decide +kernel
theorem dX9_low_7 : decode cX9_low 7 = .ok (.aload_n 0, 1) := by decide +kernel
theorem dX9_low_8 : decode cX9_low 8 = .ok (.iload_n 2, 1) := by decide +kernel
theorem dX9_low_9 : decode cX9_low 9 = .ok (.invokevirtual 216, 3) := by decide +kernel
theorem dX9_low_12 : decode cX9_low 12 = .ok (.invokevirtual 358, 3) := by decide +kernel
theorem dX9_low_15 : decode cX9_low 15 = .ok (.istore_n 3, 1) := by decide +kernel
theorem dX9_low_16 : decode cX9_low 16 = .ok (.iload_n 3, 1) := by decide +kernel
theorem dX9_low_17 : decode cX9_low 17 = .ok (.ifCond .eq 5, 3) := by decide +kernel
theorem dX9_low_20 : decode cX9_low 20 = .ok (.iload_n 3, 1) := by decide +kernel
theorem dX9_low_21 : decode cX9_low 21 = .ok (.ireturn, 1) := by decide +kernel
theorem dX9_luck_0 : decode cX9_luck 0 = .ok (.aload_n 0, 1) := by decide +kernel
theorem dX9_luck_1 : decode cX9_luck 1 = .ok (.iconst 0, 1) := by decide +kernel
theorem dX9_luck_2 : decode cX9_luck 2 = .ok (.putfield 68, 3) := by decide +kernel
theorem dX9_luck_5 : decode cX9_luck 5 = .ok (.iload_n 1, 1) := by decide +kernel
theorem dX9_luck_6 : decode cX9_luck 6 = .ok (.invokestatic 401, 3) := by decide +kernel
theorem dX9_luck_9 : decode cX9_luck 9 = .ok (.ifCond .eq 23, 3) := by decide +kernel
theorem dX9_luck_12 : decode cX9_luck 12 = .ok (.iload_n 2, 1) := by decide +kernel
theorem dX9_luck_13 : decode cX9_luck 13 = .ok (.i2l, 1) := by decide +kernel
theorem dX9_luck_14 : decode cX9_luck 14 = .ok (.lconst 1, 1) := by decide +kernel
theorem dX9_luck_15 : decode cX9_luck 15 = .ok (.ldc2_w 407, 3) := by decide +kernel
theorem dX9_luck_18 : decode cX9_luck 18 = .ok (.invokestatic 73, 3) := by decide +kernel
theorem dX9_luck_21 : decode cX9_luck 21 = .ok (.ifCond .eq 11, 3) := by decide +kernel
theorem dX9_luck_24 : decode cX9_luck 24 = .ok (.aload_n 0, 1) := by decide +kernel
theorem dX9_luck_25 : decode cX9_luck 25 = .ok (.iload_n 3, 1) := by decide +kernel
theorem dX9_luck_26 : decode cX9_luck 26 = .ok (.invokevirtual 268, 3) := by decide +kernel
theorem dX9_luck_29 : decode cX9_luck 29 = .ok (.ifCond .ne 6, 3) := by decide +kernel
theorem dX9_luck_32 : decode cX9_luck 32 = .ok (.bipush (-2), 2) := by decide +kernel
theorem dX9_luck_34 : decode cX9_luck 34 = .ok (.ireturn, 1) := by decide +kernel
theorem dX9_margin_0 : decode cX9_margin 0 = .ok (.aload_n 0, 1) := by decide +kernel
theorem dX9_margin_1 : decode cX9_margin 1 = .ok (.iconst 0, 1) := by decide +kernel
theorem dX9_margin_2 : decode cX9_margin 2 = .ok (.putfield 68, 3) := by decide +kernel
theorem dX9_margin_5 : decode cX9_margin 5 = .ok (.aload_n 0, 1) := by decide +kernel
theorem dX9_margin_6 : decode cX9_margin 6 = .ok (.iload_n 1, 1) := by decide +kernel
theorem dX9_margin_7 : decode cX9_margin 7 = .ok (.invokevirtual 268, 3) := by decide +kernel
theorem dX9_margin_10 : decode cX9_margin 10 = .ok (.ifCond .eq 12, 3) := by decide +kernel
theorem dX9_margin_22 : decode cX9_margin 22 = .ok (.bipush (-2), 2) := by decide +kernel
theorem dX9_margin_24 : decode cX9_margin 24 = .ok (.ireturn, 1) := by decide +kernel
theorem dX9_mean_0 : decode cX9_mean 0 = .ok (.aload_n 0, 1) := by decide +kernel
theorem dX9_mean_1 : decode cX9_mean 1 = .ok (.iconst 0, 1) := by decide +kernel
theorem dX9_mean_2 : decode cX9_mean 2 = .ok (.putfield 68, 3) := by decide +kernel
theorem dX9_mean_5 : decode cX9_mean 5 = .ok (.aload_n 0, 1) := by decide +kernel
theorem dX9_mean_6 : decode cX9_mean 6 = .ok (.iload_n 1, 1) := by decide +kernel
theorem dX9_mean_7 : decode cX9_mean 7 = .ok (.invokevirtual 384, 3) := by decide +kernel
theorem dX9_mean_10 : decode cX9_mean 10 = .ok (.ifCond .eq 32, 3) := by decide +kernel
theorem dX9_mean_42 : decode cX9_mean 42 = .ok (.ldc2_w 295, 3) := by decide +kernel
theorem dX9_mean_45 : decode cX9_mean 45 = .ok (.lreturn, 1) := by decide +kernel
theorem dX9_mute_0 : decode cX9_mute 0 = .ok (.aload_n 0, 1) := by decide +kernel
theorem dX9_mute_1 : decode cX9_mute 1 = .ok (.iconst 0, 1) := by decide +kernel
theorem dX9_mute_2 : decode cX9_mute 2 = .ok (.putfield 68, 3) := by decide +kernel
theorem dX9_mute_5 : decode cX9_mute 5 = .ok (.aload_n 0, 1) := by decide +kernel
theorem dX9_mute_6 : decode cX9_mute 6 = .ok (.invokevirtual 219, 3) := by decide +kernel
theorem dX9_mute_9 : decode cX9_mute 9 = .ok (.ifCond .ne 6, 3) := by decide +kernel
theorem dX9_mute_12 : decode cX9_mute 12 = .ok (.bipush (-2), 2) := by decide +kernel
theorem dX9_mute_14 : decode cX9_mute 14 = .ok (.ireturn, 1) := by decide +kernel
theorem dX9_next_0 : decode cX9_next 0 = .ok (.aload_n 0, 1) := by decide +kernel
theorem dX9_next_1 : decode cX9_next 1 = .ok (.aload_n 0, 1) := by decide +kernel
theorem dX9_next_2 : decode cX9_next 2 = .ok (.getfield 92, 3) := by decide +kernel
theorem dX9_next_5 : decode cX9_next 5 = .ok (.bipush 32, 2) := by decide +kernel
theorem dX9_next_7 : decode cX9_next 7 = .ok (.bipush 32, 2) := by decide +kernel
theorem dX9_next_9 : decode cX9_next 9 = .ok (.invokevirtual 95, 3) := by decide +kernel
theorem dX9_next_12 : decode cX9_next 12 = .ok (.ifCond .ne 18, 3) := by decide +kernel
theorem dX9_next_15 : decode cX9_next 15 = .ok (.aload_n 0, 1) := by decide +kernel
theorem dX9_next_16 : decode cX9_next 16 = .ok (.aload_n 0, 1) := by decide +kernel
theorem dX9_next_17 : decode cX9_next 17 = .ok (.getfield 92, 3) := by decide +kernel
theorem dX9_next_20 : decode cX9_next 20 = .ok (.bipush 10, 2) := by decide +kernel
theorem dX9_next_22 : decode cX9_next 22 = .ok (.bipush 10, 2) := by decide +kernel
theorem dX9_next_24 : decode cX9_next 24 = .ok (.invokevirtual 95, 3) := by decide +kernel
theorem dX9_next_27 : decode cX9_next 27 = .ok (.ifCond .eq 16, 3) := by decide +kernel
theorem dX9_next_43 : decode cX9_next 43 = .ok (.aload_n 0, 1) := by decide +kernel
theorem dX9_next_44 : decode cX9_next 44 = .ok (.aload_n 0, 1) := by decide +kernel
theorem dX9_next_45 : decode cX9_next 45 = .ok (.getfield 92, 3) := by decide +kernel
theorem dX9_next_48 : decode cX9_next 48 = .ok (.putfield 99, 3) := by decide +kernel
theorem dX9_next_51 : decode cX9_next 51 = .ok (.aload_n 0, 1) := by decide +kernel
theorem dX9_next_52 : decode cX9_next 52 = .ok (.iconst 0, 1) := by decide +kernel
theorem dX9_next_53 : decode cX9_next 53 = .ok (.putfield 102, 3) := by decide +kernel
theorem dX9_next_56 : decode cX9_next 56 = .ok (.aload_n 0, 1) := by decide +kernel
theorem dX9_next_57 : decode cX9_next 57 = .ok (.lconst 0, 1) := by decide +kernel
theorem dX9_next_58 : decode cX9_next 58 = .ok (.putfield 105, 3) := by decide +kernel
theorem dX9_next_61 : decode cX9_next 61 = .ok (.aload_n 0, 1) := by decide +kernel
theorem dX9_next_62 : decode cX9_next 62 = .ok (.getfield 92, 3) := by decide +kernel
theorem dX9_next_65 : decode cX9_next 65 = .ok (.aload_n 0, 1) := by decide +kernel
theorem dX9_next_66 : decode cX9_next 66 = .ok (.getfield 85, 3) := by decide +kernel
theorem dX9_next_69 : decode cX9_next 69 = .ok (.if_icmp .ne 11, 3) := by decide +kernel
theorem dX9_next_72 : decode cX9_next 72 = .ok (.aload_n 0, 1) := by decide +kernel
theorem dX9_next_73 : decode cX9_next 73 = .ok (.iconst 0, 1) := by decide +kernel
theorem dX9_next_74 : decode cX9_next 74 = .ok (.putfield 109, 3) := by decide +kernel
theorem dX9_next_77 : decode cX9_next 77 = .ok (.goto 230, 3) := by decide +kernel
theorem dX9_next_307 : decode cX9_next 307 = .ok (.return_, 1) := by decide +kernel
theorem dX9_ohms_0 : decode cX9_ohms 0 = .ok (.aload_n 0, 1) := by decide +kernel
theorem dX9_ohms_1 : decode cX9_ohms 1 = .ok (.iconst 0, 1) := by decide +kernel
theorem dX9_ohms_2 : decode cX9_ohms 2 = .ok (.putfield 68, 3) := by decide +kernel
theorem dX9_ohms_5 : decode cX9_ohms 5 = .ok (.aload_n 0, 1) := by decide +kernel
theorem dX9_ohms_6 : decode cX9_ohms 6 = .ok (.iload_n 1, 1) := by decide +kernel
theorem dX9_ohms_7 : decode cX9_ohms 7 = .ok (.i2l, 1) := by decide +kernel
theorem dX9_ohms_8 : decode cX9_ohms 8 = .ok (.invokevirtual 289, 3) := by decide +kernel
theorem dX9_ohms_11 : decode cX9_ohms 11 = .ok (.ifCond .eq 10, 3) := by decide +kernel
theorem dX9_ohms_21 : decode cX9_ohms 21 = .ok (.ldc2_w 295, 3) := by decide +kernel
theorem dX9_ohms_24 : decode cX9_ohms 24 = .ok (.lreturn, 1) := by decide +kernel
theorem dX9_paste_0 : decode cX9_paste 0 = .ok (.aload_n 0, 1) := by decide +kernel
theorem dX9_paste_1 : decode cX9_paste 1 = .ok (.iconst 0, 1) := by decide +kernel
theorem dX9_paste_2 : decode cX9_paste 2 = .ok (.putfield 68, 3) := by decide +kernel
theorem dX9_paste_5 : decode cX9_paste 5 = .ok (.iload_n 1, 1) := by decide +kernel
theorem dX9_paste_6 : decode cX9_paste 6 = .ok (.invokestatic 77, 3) := by decide +kernel
theorem dX9_paste_9 : decode cX9_paste 9 = .ok (.ifCond .eq 10, 3) := by decide +kernel
theorem dX9_paste_12 : decode cX9_paste 12 = .ok (.iload_n 3, 1) := by decide +kernel
theorem dX9_paste_13 : decode cX9_paste 13 = .ok (.invokestatic 77, 3) := by decide +kernel
theorem dX9_paste_16 : decode cX9_paste 16 = .ok (.ifCond .ne 6, 3) := by decide +kernel
theorem dX9_paste_19 : decode cX9_paste 19 = .ok (.bipush (-2), 2) := by decide +kernel
theorem dX9_paste_21 : decode cX9_paste 21 = .ok (.ireturn, 1) := by decide +kernel
theorem dX9_paste_22 : decode cX9_paste 22 = .ok (.aload_n 0, 1) := by decide +kernel
theorem dX9_paste_23 : decode cX9_paste 23 = .ok (.getfield 7, 3) := by decide +kernel
theorem dX9_paste_26 : decode cX9_paste 26 = .ok (.iload_n 1, 1) := by decide +kernel
theorem dX9_paste_27 : decode cX9_paste 27 = .ok (.iaload, 1) := by decide +kernel
theorem dX9_paste_28 : decode cX9_paste 28 = .ok (.iconst (-1), 1) := by decide +kernel
theorem dX9_paste_29 : decode cX9_paste 29 = .ok (.if_icmp .eq 13, 3) := by decide +kernel
theorem dX9_paste_42 : decode cX9_paste 42 = .ok (.bipush (-6), 2) := by decide +kernel
theorem dX9_paste_44 : decode cX9_paste 44 = .ok (.ireturn, 1) := by decide +kernel
theorem dX9_rate_0 : decode cX9_rate 0 = .ok (.aload_n 0, 1) := by decide +kernel
theorem dX9_rate_1 : decode cX9_rate 1 = .ok (.iconst 0, 1) := by decide +kernel
theorem dX9_rate_2 : decode cX9_rate 2 = .ok (.putfield 68, 3) := by decide +kernel
theorem dX9_rate_5 : decode cX9_rate 5 = .ok (.aload_n 0, 1) := by decide +kernel
theorem dX9_rate_6 : decode cX9_rate 6 = .ok (.iload_n 1, 1) := by decide +kernel
theorem dX9_rate_7 : decode cX9_rate 7 = .ok (.invokevirtual 268, 3) := by decide +kernel
theorem dX9_rate_10 : decode cX9_rate 10 = .ok (.ifCond .eq 15, 3) := by decide +kernel
theorem dX9_rate_25 : decode cX9_rate 25 = .ok (.bipush (-2), 2) := by decide +kernel
theorem dX9_rate_27 : decode cX9_rate 27 = .ok (.ireturn, 1) := by decide +kernel
theorem dX9_reach_0 : decode cX9_reach 0 = .ok (.aload_n 0, 1) := by decide +kernel
theorem dX9_reach_1 : decode cX9_reach 1 = .ok (.iconst 0, 1) := by decide +kernel
theorem dX9_reach_2 : decode cX9_reach 2 = .ok (.putfield 68, 3) := by decide +kernel
theorem dX9_reach_5 : decode cX9_reach 5 = .ok (.aload_n 0, 1) := by decide +kernel
theorem dX9_reach_6 : decode cX9_reach 6 = .ok (.iload_n 1, 1) := by decide +kernel
theorem dX9_reach_7 : decode cX9_reach 7 = .ok (.i2l, 1) := by decide +kernel
theorem dX9_reach_8 : decode cX9_reach 8 = .ok (.invokevirtual 289, 3) := by decide +kernel
theorem dX9_reach_11 : decode cX9_reach 11 = .ok (.ifCond .ne 6, 3) := by decide +kernel
theorem dX9_reach_14 : decode cX9_reach 14 = .ok (.bipush (-2), 2) := by decide +kernel
theorem dX9_reach_16 : decode cX9_reach 16 = .ok (.ireturn, 1) := by decide +kernel
theorem dX9_rests_0 : decode cX9_rests 0 = .ok (.aload_n 0, 1) := by decide +kernel
theorem dX9_rests_1 : decode cX9_rests 1 = .ok (.iconst 0, 1) := by decide +kernel
theorem dX9_rests_2 : decode cX9_rests 2 = .ok (.putfield 68, 3) := by decide +kernel
theorem dX9_rests_5 : decode cX9_rests 5 = .ok (.aload_n 0, 1) := by decide +kernel
theorem dX9_rests_6 : decode cX9_rests 6 = .ok (.iload_n 1, 1) := by decide +kernel
theorem dX9_rests_7 : decode cX9_rests 7 = .ok (.iload_n 2, 1) := by decide +kernel
theorem dX9_rests_8 : decode cX9_rests 8 = .ok (.invokevirtual 372, 3) := by decide +kernel
theorem dX9_rests_11 : decode cX9_rests 11 = .ok (.ifCond .ne 6, 3) := by decide +kernel
theorem dX9_rests_14 : decode cX9_rests 14 = .ok (.bipush (-2), 2) := by decide +kernel
theorem dX9_rests_16 : decode cX9_rests 16 = .ok (.ireturn, 1) := by decide +kernel
theorem dX9_rises_0 : decode cX9_rises 0 = .ok (.aload_n 0, 1) := by decide +kernel
