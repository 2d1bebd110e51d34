theorem dX9_wire_113 : decode cX9_wire 113 = .ok (.ifCond .eq 7, 3) := by decide +kernel
theorem dX9_wire_116 : decode cX9_wire 116 = .ok (.aload_n 0, 1) := by decide +kernel
theorem dX9_wire_117 : decode cX9_wire 117 = .ok (.invokevirtual 199, 3) := by decide +kernel
theorem dX9_wire_120 : decode cX9_wire 120 = .ok (.aload_n 0, 1) := by decide +kernel
theorem dX9_wire_121 : decode cX9_wire 121 = .ok (.getfield 31, 3) := by decide +kernel
theorem dX9_wire_124 : decode cX9_wire 124 = .ok (.iconst 4, 1) := by decide +kernel
theorem dX9_wire_125 : decode cX9_wire 125 = .ok (.dup2, 1) := by decide +kernel
theorem dX9_wire_126 : decode cX9_wire 126 = .ok (.iaload, 1) := by decide +kernel
theorem dX9_wire_127 : decode cX9_wire 127 = .ok (.iconst 1, 1) := by decide +kernel
theorem dX9_wire_128 : decode cX9_wire 128 = .ok (.iadd, 1) := by decide +kernel
theorem dX9_wire_129 : decode cX9_wire 129 = .ok (.iastore, 1) := by decide +kernel
theorem dX9_wire_130 : decode cX9_wire 130 = .ok (.goto (-117), 3) := by decide +kernel
theorem dX9_wire_133 : decode cX9_wire 133 = .ok (.aload_n 0, 1) := by decide +kernel
theorem dX9_wire_134 : decode cX9_wire 134 = .ok (.invokevirtual 202, 3) := by decide +kernel
theorem dX9_wire_137 : decode cX9_wire 137 = .ok (.aload_n 0, 1) := by decide +kernel
theorem dX9_wire_138 : decode cX9_wire 138 = .ok (.getfield 120, 3) := by decide +kernel
theorem dX9_wire_141 : decode cX9_wire 141 = .ok (.ifCond .eq 6, 3) := by decide +kernel
theorem dX9_wire_144 : decode cX9_wire 144 = .ok (.bipush (-4), 2) := by decide +kernel
theorem dX9_wire_146 : decode cX9_wire 146 = .ok (.ireturn, 1) := by decide +kernel
theorem dX9_wire_147 : decode cX9_wire 147 = .ok (.aload_n 0, 1) := by decide +kernel
theorem dX9_wire_148 : decode cX9_wire 148 = .ok (.iconst 4, 1) := by decide +kernel
theorem dX9_wire_149 : decode cX9_wire 149 = .ok (.iconst 0, 1) := by decide +kernel
theorem dX9_wire_150 : decode cX9_wire 150 = .ok (.invokevirtual 205, 3) := by decide +kernel
theorem dX9_wire_153 : decode cX9_wire 153 = .ok (.aload_n 0, 1) := by decide +kernel
theorem dX9_wire_154 : decode cX9_wire 154 = .ok (.getfield 31, 3) := by decide +kernel
theorem dX9_wire_157 : decode cX9_wire 157 = .ok (.iconst 0, 1) := by decide +kernel
theorem dX9_wire_158 : decode cX9_wire 158 = .ok (.iaload, 1) := by decide +kernel
theorem dX9_wire_159 : decode cX9_wire 159 = .ok (.ireturn, 1) := by decide +kernel
theorem dX9_without_0 : decode cX9_without 0 = .ok (.aload_n 0, 1) := by decide +kernel
theorem dX9_without_1 : decode cX9_without 1 = .ok (.iconst 0, 1) := by decide +kernel
theorem dX9_without_2 : decode cX9_without 2 = .ok (.putfield 68, 3) := by decide +kernel
theorem dX9_without_5 : decode cX9_without 5 = .ok (.aload_n 0, 1) := by decide +kernel
theorem dX9_without_6 : decode cX9_without 6 = .ok (.iload_n 1, 1) := by decide +kernel
theorem dX9_without_7 : decode cX9_without 7 = .ok (.invokevirtual 216, 3) := by decide +kernel
theorem dX9_without_10 : decode cX9_without 10 = .ok (.ifCond .ne 6, 3) := by decide +kernel
theorem dX9_without_13 : decode cX9_without 13 = .ok (.bipush (-2), 2) := by decide +kernel
theorem dX9_without_15 : decode cX9_without 15 = .ok (.ireturn, 1) := by decide +kernel
theorem dX9_without_16 : decode cX9_without 16 = .ok (.aload_n 0, 1) := by decide +kernel
theorem dX9_without_17 : decode cX9_without 17 = .ok (.invokevirtual 286, 3) := by decide +kernel
theorem dX9_without_20 : decode cX9_without 20 = .ok (.aload_n 0, 1) := by decide +kernel
theorem dX9_without_21 : decode cX9_without 21 = .ok (.iconst 1, 1) := by decide +kernel
theorem dX9_without_22 : decode cX9_without 22 = .ok (.iload_n 1, 1) := by decide +kernel
theorem dX9_without_23 : decode cX9_without 23 = .ok (.ishl, 1) := by decide +kernel
theorem dX9_without_24 : decode cX9_without 24 = .ok (.putfield 234, 3) := by decide +kernel
theorem dX9_without_27 : decode cX9_without 27 = .ok (.aload_n 0, 1) := by decide +kernel
theorem dX9_without_28 : decode cX9_without 28 = .ok (.invokevirtual 314, 3) := by decide +kernel
theorem dX9_without_31 : decode cX9_without 31 = .ok (.ireturn, 1) := by decide +kernel
theorem dX9_worst_0 : decode cX9_worst 0 = .ok (.aload_n 0, 1) := by decide +kernel
theorem dX9_worst_1 : decode cX9_worst 1 = .ok (.iconst 0, 1) := by decide +kernel
theorem dX9_worst_2 : decode cX9_worst 2 = .ok (.putfield 68, 3) := by decide +kernel
theorem dX9_worst_5 : decode cX9_worst 5 = .ok (.aload_n 0, 1) := by decide +kernel
theorem dX9_worst_6 : decode cX9_worst 6 = .ok (.iload_n 1, 1) := by decide +kernel
theorem dX9_worst_7 : decode cX9_worst 7 = .ok (.i2l, 1) := by decide +kernel
theorem dX9_worst_8 : decode cX9_worst 8 = .ok (.invokevirtual 289, 3) := by decide +kernel
theorem dX9_worst_11 : decode cX9_worst 11 = .ok (.ifCond .ne 6, 3) := by decide +kernel
theorem dX9_worst_14 : decode cX9_worst 14 = .ok (.bipush (-2), 2) := by decide +kernel
theorem dX9_worst_16 : decode cX9_worst 16 = .ok (.ireturn, 1) := by decide +kernel
theorem dX9_worst_17 : decode cX9_worst 17 = .ok (.aload_n 0, 1) := by decide +kernel
theorem dX9_worst_18 : decode cX9_worst 18 = .ok (.invokevirtual 286, 3) := by decide +kernel
theorem dX9_worst_21 : decode cX9_worst 21 = .ok (.iconst (-1), 1) := by decide +kernel
theorem dX9_worst_22 : decode cX9_worst 22 = .ok (.istore_n 2, 1) := by decide +kernel
theorem dX9_worst_23 : decode cX9_worst 23 = .ok (.iconst 0, 1) := by decide +kernel
theorem dX9_worst_24 : decode cX9_worst 24 = .ok (.istore_n 3, 1) := by decide +kernel
theorem dX9_worst_25 : decode cX9_worst 25 = .ok (.iload_n 3, 1) := by decide +kernel
theorem dX9_worst_26 : decode cX9_worst 26 = .ok (.aload_n 0, 1) := by decide +kernel
theorem dX9_worst_27 : decode cX9_worst 27 = .ok (.invokevirtual 212, 3) := by decide +kernel
theorem dX9_worst_30 : decode cX9_worst 30 = .ok (.if_icmp .ge 31, 3) := by decide +kernel
theorem dX9_worst_33 : decode cX9_worst 33 = .ok (.iload_n 2, 1) := by decide +kernel
theorem dX9_worst_34 : decode cX9_worst 34 = .ok (.iconst (-1), 1) := by decide +kernel
theorem dX9_worst_35 : decode cX9_worst 35 = .ok (.if_icmp .eq 18, 3) := by decide +kernel
theorem dX9_worst_38 : decode cX9_worst 38 = .ok (.aload_n 0, 1) := by decide +kernel
theorem dX9_worst_39 : decode cX9_worst 39 = .ok (.iload_n 3, 1) := by decide +kernel
theorem dX9_worst_40 : decode cX9_worst 40 = .ok (.iload_n 1, 1) := by decide +kernel
theorem dX9_worst_41 : decode cX9_worst 41 = .ok (.invokevirtual 256, 3) := by decide +kernel
theorem dX9_worst_44 : decode cX9_worst 44 = .ok (.aload_n 0, 1) := by decide +kernel
theorem dX9_worst_45 : decode cX9_worst 45 = .ok (.iload_n 2, 1) := by decide +kernel
theorem dX9_worst_46 : decode cX9_worst 46 = .ok (.iload_n 1, 1) := by decide +kernel
theorem dX9_worst_47 : decode cX9_worst 47 = .ok (.invokevirtual 256, 3) := by decide +kernel
theorem dX9_worst_50 : decode cX9_worst 50 = .ok (.if_icmp .ge 5, 3) := by decide +kernel
theorem dX9_worst_53 : decode cX9_worst 53 = .ok (.iload_n 3, 1) := by decide +kernel
theorem dX9_worst_54 : decode cX9_worst 54 = .ok (.istore_n 2, 1) := by decide +kernel
theorem dX9_worst_55 : decode cX9_worst 55 = .ok (.iinc 3 1, 3) := by decide +kernel
theorem dX9_worst_58 : decode cX9_worst 58 = .ok (.goto (-33), 3) := by decide +kernel
theorem dX9_worst_61 : decode cX9_worst 61 = .ok (.iload_n 2, 1) := by decide +kernel
theorem dX9_worst_62 : decode cX9_worst 62 = .ok (.ireturn, 1) := by decide +kernel
theorem dX9_worstAt_0 : decode cX9_worstAt 0 = .ok (.iconst 0, 1) := by decide +kernel
theorem dX9_worstAt_1 : decode cX9_worstAt 1 = .ok (.istore_n 2, 1) := by decide +kernel
theorem dX9_worstAt_2 : decode cX9_worstAt 2 = .ok (.iconst 1, 1) := by decide +kernel
theorem dX9_worstAt_3 : decode cX9_worstAt 3 = .ok (.istore_n 3, 1) := by decide +kernel
theorem dX9_worstAt_4 : decode cX9_worstAt 4 = .ok (.iload_n 3, 1) := by decide +kernel
theorem dX9_worstAt_5 : decode cX9_worstAt 5 = .ok (.bipush 30, 2) := by decide +kernel
theorem dX9_worstAt_7 : decode cX9_worstAt 7 = .ok (.if_icmp .gt 122, 3) := by decide +kernel
theorem dX9_worstAt_10 : decode cX9_worstAt 10 = .ok (.iconst 0, 1) := by decide +kernel
theorem dX9_worstAt_11 : decode cX9_worstAt 11 = .ok (.istore 4, 2) := by decide +kernel
theorem dX9_worstAt_13 : decode cX9_worstAt 13 = .ok (.iconst 1, 1) := by decide +kernel
theorem dX9_worstAt_14 : decode cX9_worstAt 14 = .ok (.istore 5, 2) := by decide +kernel
theorem dX9_worstAt_16 : decode cX9_worstAt 16 = .ok (.iload 5, 2) := by decide +kernel
theorem dX9_worstAt_18 : decode cX9_worstAt 18 = .ok (.bipush 30, 2) := by decide +kernel
theorem dX9_worstAt_20 : decode cX9_worstAt 20 = .ok (.if_icmp .gt 96, 3) := by decide +kernel
theorem dX9_worstAt_23 : decode cX9_worstAt 23 = .ok (.iload 4, 2) := by decide +kernel
theorem dX9_worstAt_25 : decode cX9_worstAt 25 = .ok (.aload_n 0, 1) := by decide +kernel
theorem dX9_worstAt_26 : decode cX9_worstAt 26 = .ok (.getfield 343, 3) := by decide +kernel
theorem dX9_worstAt_29 : decode cX9_worstAt 29 = .ok (.iload_n 3, 1) := by decide +kernel
theorem dX9_worstAt_30 : decode cX9_worstAt 30 = .ok (.invokestatic 240, 3) := by decide +kernel
theorem dX9_worstAt_33 : decode cX9_worstAt 33 = .ok (.ifCond .eq 73, 3) := by decide +kernel
theorem dX9_worstAt_36 : decode cX9_worstAt 36 = .ok (.aload_n 0, 1) := by decide +kernel
theorem dX9_worstAt_37 : decode cX9_worstAt 37 = .ok (.getfield 343, 3) := by decide +kernel
theorem dX9_worstAt_40 : decode cX9_worstAt 40 = .ok (.iload 5, 2) := by decide +kernel
theorem dX9_worstAt_42 : decode cX9_worstAt 42 = .ok (.invokestatic 240, 3) := by decide +kernel
theorem dX9_worstAt_45 : decode cX9_worstAt 45 = .ok (.ifCond .eq 61, 3) := by decide +kernel
theorem dX9_worstAt_48 : decode cX9_worstAt 48 = .ok (.aload_n 0, 1) := by decide +kernel
theorem dX9_worstAt_49 : decode cX9_worstAt 49 = .ok (.getfield 62, 3) := by decide +kernel
theorem dX9_worstAt_52 : decode cX9_worstAt 52 = .ok (.bipush 14, 2) := by decide +kernel
theorem dX9_worstAt_54 : decode cX9_worstAt 54 = .ok (.iload_n 3, 1) := by decide +kernel
theorem dX9_worstAt_55 : decode cX9_worstAt 55 = .ok (.imul, 1) := by decide +kernel
theorem dX9_worstAt_56 : decode cX9_worstAt 56 = .ok (.iload_n 1, 1) := by decide +kernel
theorem dX9_worstAt_57 : decode cX9_worstAt 57 = .ok (.iadd, 1) := by decide +kernel
theorem dX9_worstAt_58 : decode cX9_worstAt 58 = .ok (.laload, 1) := by decide +kernel
theorem dX9_worstAt_59 : decode cX9_worstAt 59 = .ok (.aload_n 0, 1) := by decide +kernel
theorem dX9_worstAt_60 : decode cX9_worstAt 60 = .ok (.getfield 62, 3) := by decide +kernel
theorem dX9_worstAt_63 : decode cX9_worstAt 63 = .ok (.bipush 14, 2) := by decide +kernel
theorem dX9_worstAt_65 : decode cX9_worstAt 65 = .ok (.iload 5, 2) := by decide +kernel
theorem dX9_worstAt_67 : decode cX9_worstAt 67 = .ok (.imul, 1) := by decide +kernel
theorem dX9_worstAt_68 : decode cX9_worstAt 68 = .ok (.iload_n 1, 1) := by decide +kernel
theorem dX9_worstAt_69 : decode cX9_worstAt 69 = .ok (.iadd, 1) := by decide +kernel
theorem dX9_worstAt_70 : decode cX9_worstAt 70 = .ok (.laload, 1) := by decide +kernel
theorem dX9_worstAt_71 : decode cX9_worstAt 71 = .ok (.lcmp, 1) := by decide +kernel
theorem dX9_worstAt_72 : decode cX9_worstAt 72 = .ok (.ifCond .ne 34, 3) := by decide +kernel
theorem dX9_worstAt_75 : decode cX9_worstAt 75 = .ok (.aload_n 0, 1) := by decide +kernel
theorem dX9_worstAt_76 : decode cX9_worstAt 76 = .ok (.getfield 65, 3) := by decide +kernel
theorem dX9_worstAt_79 : decode cX9_worstAt 79 = .ok (.bipush 14, 2) := by decide +kernel
theorem dX9_worstAt_81 : decode cX9_worstAt 81 = .ok (.iload_n 3, 1) := by decide +kernel
theorem dX9_worstAt_82 : decode cX9_worstAt 82 = .ok (.imul, 1) := by decide +kernel
theorem dX9_worstAt_83 : decode cX9_worstAt 83 = .ok (.iload_n 1, 1) := by decide +kernel
theorem dX9_worstAt_84 : decode cX9_worstAt 84 = .ok (.iadd, 1) := by decide +kernel
theorem dX9_worstAt_85 : decode cX9_worstAt 85 = .ok (.laload, 1) := by decide +kernel
theorem dX9_worstAt_86 : decode cX9_worstAt 86 = .ok (.aload_n 0, 1) := by decide +kernel
theorem dX9_worstAt_87 : decode cX9_worstAt 87 = .ok (.getfield 65, 3) := by decide +kernel
theorem dX9_worstAt_90 : decode cX9_worstAt 90 = .ok (.bipush 14, 2) := by decide +kernel
theorem dX9_worstAt_92 : decode cX9_worstAt 92 = .ok (.iload 5, 2) := by decide +kernel
theorem dX9_worstAt_94 : decode cX9_worstAt 94 = .ok (.imul, 1) := by decide +kernel
theorem dX9_worstAt_95 : decode cX9_worstAt 95 = .ok (.iload_n 1, 1) := by decide +kernel
theorem dX9_worstAt_96 : decode cX9_worstAt 96 = .ok (.iadd, 1) := by decide +kernel
theorem dX9_worstAt_97 : decode cX9_worstAt 97 = .ok (.laload, 1) := by decide +kernel
theorem dX9_worstAt_98 : decode cX9_worstAt 98 = .ok (.lcmp, 1) := by decide +kernel
theorem dX9_worstAt_99 : decode cX9_worstAt 99 = .ok (.ifCond .ne 7, 3) := by decide +kernel
theorem dX9_worstAt_102 : decode cX9_worstAt 102 = .ok (.iconst 1, 1) := by decide +kernel
theorem dX9_worstAt_103 : decode cX9_worstAt 103 = .ok (.goto 4, 3) := by decide +kernel
theorem dX9_worstAt_106 : decode cX9_worstAt 106 = .ok (.iconst 0, 1) := by decide +kernel
theorem dX9_worstAt_107 : decode cX9_worstAt 107 = .ok (.iadd, 1) := by decide +kernel
theorem dX9_worstAt_108 : decode cX9_worstAt 108 = .ok (.istore 4, 2) := by decide +kernel
theorem dX9_worstAt_110 : decode cX9_worstAt 110 = .ok (.iinc 5 1, 3) := by decide +kernel
theorem dX9_worstAt_113 : decode cX9_worstAt 113 = .ok (.goto (-97), 3) := by decide +kernel
theorem dX9_worstAt_116 : decode cX9_worstAt 116 = .ok (.iload_n 2, 1) := by decide +kernel
theorem dX9_worstAt_117 : decode cX9_worstAt 117 = .ok (.iload 4, 2) := by decide +kernel
theorem dX9_worstAt_119 : decode cX9_worstAt 119 = .ok (.invokestatic 244, 3) := by decide +kernel
theorem dX9_worstAt_122 : decode cX9_worstAt 122 = .ok (.istore_n 2, 1) := by decide +kernel
theorem dX9_worstAt_123 : decode cX9_worstAt 123 = .ok (.iinc 3 1, 3) := by decide +kernel
theorem dX9_worstAt_126 : decode cX9_worstAt 126 = .ok (.goto (-122), 3) := by decide +kernel
theorem dX9_worstAt_129 : decode cX9_worstAt 129 = .ok (.iload_n 2, 1) := by decide +kernel
theorem dX9_worstAt_130 : decode cX9_worstAt 130 = .ok (.ireturn, 1) := by decide +kernel
theorem dX9_worth_0 : decode cX9_worth 0 = .ok (.aload_n 0, 1) := by decide +kernel
theorem dX9_worth_1 : decode cX9_worth 1 = .ok (.iconst 0, 1) := by decide +kernel
theorem dX9_worth_2 : decode cX9_worth 2 = .ok (.putfield 68, 3) := by decide +kernel
theorem dX9_worth_5 : decode cX9_worth 5 = .ok (.aload_n 0, 1) := by decide +kernel
theorem dX9_worth_6 : decode cX9_worth 6 = .ok (.invokevirtual 219, 3) := by decide +kernel
theorem dX9_worth_9 : decode cX9_worth 9 = .ok (.ifCond .eq 29, 3) := by decide +kernel
theorem dX9_worth_12 : decode cX9_worth 12 = .ok (.iload_n 1, 1) := by decide +kernel
theorem dX9_worth_13 : decode cX9_worth 13 = .ok (.i2l, 1) := by decide +kernel
theorem dX9_worth_14 : decode cX9_worth 14 = .ok (.lconst 0, 1) := by decide +kernel
theorem dX9_worth_15 : decode cX9_worth 15 = .ok (.iconst 1, 1) := by decide +kernel
theorem dX9_worth_16 : decode cX9_worth 16 = .ok (.aload_n 0, 1) := by decide +kernel
theorem dX9_worth_17 : decode cX9_worth 17 = .ok (.invokevirtual 212, 3) := by decide +kernel
theorem dX9_worth_20 : decode cX9_worth 20 = .ok (.ishl, 1) := by decide +kernel
theorem dX9_worth_21 : decode cX9_worth 21 = .ok (.i2l, 1) := by decide +kernel
theorem dX9_worth_22 : decode cX9_worth 22 = .ok (.lconst 1, 1) := by decide +kernel
theorem dX9_worth_23 : decode cX9_worth 23 = .ok (.lsub, 1) := by decide +kernel
theorem dX9_worth_24 : decode cX9_worth 24 = .ok (.invokestatic 73, 3) := by decide +kernel
theorem dX9_worth_27 : decode cX9_worth 27 = .ok (.ifCond .eq 11, 3) := by decide +kernel
theorem dX9_worth_30 : decode cX9_worth 30 = .ok (.aload_n 0, 1) := by decide +kernel
theorem dX9_worth_31 : decode cX9_worth 31 = .ok (.iload_n 1, 1) := by decide +kernel
theorem dX9_worth_32 : decode cX9_worth 32 = .ok (.invokevirtual 325, 3) := by decide +kernel
theorem dX9_worth_35 : decode cX9_worth 35 = .ok (.goto 5, 3) := by decide +kernel
theorem dX9_worth_38 : decode cX9_worth 38 = .ok (.bipush (-2), 2) := by decide +kernel
theorem dX9_worth_40 : decode cX9_worth 40 = .ok (.ireturn, 1) := by decide +kernel
theorem dX9_worthOf_0 : decode cX9_worthOf 0 = .ok (.aload_n 0, 1) := by decide +kernel
theorem dX9_worthOf_1 : decode cX9_worthOf 1 = .ok (.invokevirtual 286, 3) := by decide +kernel
theorem dX9_worthOf_4 : decode cX9_worthOf 4 = .ok (.aload_n 0, 1) := by decide +kernel
theorem dX9_worthOf_5 : decode cX9_worthOf 5 = .ok (.iload_n 1, 1) := by decide +kernel
theorem dX9_worthOf_6 : decode cX9_worthOf 6 = .ok (.putfield 231, 3) := by decide +kernel
theorem dX9_worthOf_9 : decode cX9_worthOf 9 = .ok (.aload_n 0, 1) := by decide +kernel
theorem dX9_worthOf_10 : decode cX9_worthOf 10 = .ok (.invokevirtual 314, 3) := by decide +kernel
theorem dX9_worthOf_13 : decode cX9_worthOf 13 = .ok (.ireturn, 1) := by decide +kernel
theorem dX9_write_0 : decode cX9_write 0 = .ok (.aload_n 0, 1) := by decide +kernel
theorem dX9_write_1 : decode cX9_write 1 = .ok (.iconst 0, 1) := by decide +kernel
theorem dX9_write_2 : decode cX9_write 2 = .ok (.putfield 68, 3) := by decide +kernel
theorem dX9_write_5 : decode cX9_write 5 = .ok (.iload_n 1, 1) := by decide +kernel
theorem dX9_write_6 : decode cX9_write 6 = .ok (.invokestatic 77, 3) := by decide +kernel
theorem dX9_write_9 : decode cX9_write 9 = .ok (.ifCond .ne 6, 3) := by decide +kernel
theorem dX9_write_12 : decode cX9_write 12 = .ok (.bipush (-2), 2) := by decide +kernel
theorem dX9_write_14 : decode cX9_write 14 = .ok (.ireturn, 1) := by decide +kernel
theorem dX9_write_15 : decode cX9_write 15 = .ok (.aload_n 0, 1) := by decide +kernel
theorem dX9_write_16 : decode cX9_write 16 = .ok (.getfield 7, 3) := by decide +kernel
theorem dX9_write_19 : decode cX9_write 19 = .ok (.iload_n 1, 1) := by decide +kernel
theorem dX9_write_20 : decode cX9_write 20 = .ok (.iaload, 1) := by decide +kernel
theorem dX9_write_21 : decode cX9_write 21 = .ok (.iconst (-1), 1) := by decide +kernel
theorem dX9_write_22 : decode cX9_write 22 = .ok (.if_icmp .ne 6, 3) := by decide +kernel
theorem dX9_write_25 : decode cX9_write 25 = .ok (.bipush (-6), 2) := by decide +kernel
theorem dX9_write_27 : decode cX9_write 27 = .ok (.ireturn, 1) := by decide +kernel
theorem dX9_write_28 : decode cX9_write 28 = .ok (.iload_n 2, 1) := by decide +kernel
theorem dX9_write_29 : decode cX9_write 29 = .ok (.i2l, 1) := by decide +kernel
theorem dX9_write_30 : decode cX9_write 30 = .ok (.lconst 0, 1) := by decide +kernel
theorem dX9_write_31 : decode cX9_write 31 = .ok (.aload_n 0, 1) := by decide +kernel
theorem dX9_write_32 : decode cX9_write 32 = .ok (.getfield 13, 3) := by decide +kernel
theorem dX9_write_35 : decode cX9_write 35 = .ok (.iload_n 1, 1) := by decide +kernel
theorem dX9_write_36 : decode cX9_write 36 = .ok (.iaload, 1) := by decide +kernel
theorem dX9_write_37 : decode cX9_write 37 = .ok (.iconst 1, 1) := by decide +kernel
theorem dX9_write_38 : decode cX9_write 38 = .ok (.isub, 1) := by decide +kernel
theorem dX9_write_39 : decode cX9_write 39 = .ok (.i2l, 1) := by decide +kernel
theorem dX9_write_40 : decode cX9_write 40 = .ok (.invokestatic 73, 3) := by decide +kernel
theorem dX9_write_43 : decode cX9_write 43 = .ok (.ifCond .ne 6, 3) := by decide +kernel
theorem dX9_write_46 : decode cX9_write 46 = .ok (.bipush (-7), 2) := by decide +kernel
theorem dX9_write_48 : decode cX9_write 48 = .ok (.ireturn, 1) := by decide +kernel
theorem dX9_write_49 : decode cX9_write 49 = .ok (.aload_n 0, 1) := by decide +kernel
theorem dX9_write_50 : decode cX9_write 50 = .ok (.getfield 16, 3) := by decide +kernel
theorem dX9_write_53 : decode cX9_write 53 = .ok (.bipush 60, 2) := by decide +kernel
theorem dX9_write_55 : decode cX9_write 55 = .ok (.iload_n 1, 1) := by decide +kernel
theorem dX9_write_56 : decode cX9_write 56 = .ok (.imul, 1) := by decide +kernel
theorem dX9_write_57 : decode cX9_write 57 = .ok (.iload_n 2, 1) := by decide +kernel
theorem dX9_write_58 : decode cX9_write 58 = .ok (.iadd, 1) := by decide +kernel
theorem dX9_write_59 : decode cX9_write 59 = .ok (.lload_n 3, 1) := by decide +kernel
theorem dX9_write_60 : decode cX9_write 60 = .ok (.aload_n 0, 1) := by decide +kernel
theorem dX9_write_61 : decode cX9_write 61 = .ok (.getfield 7, 3) := by decide +kernel
theorem dX9_write_64 : decode cX9_write 64 = .ok (.iload_n 1, 1) := by decide +kernel
theorem dX9_write_65 : decode cX9_write 65 = .ok (.iaload, 1) := by decide +kernel
theorem dX9_write_66 : decode cX9_write 66 = .ok (.invokestatic 81, 3) := by decide +kernel
theorem dX9_write_69 : decode cX9_write 69 = .ok (.lastore, 1) := by decide +kernel
theorem dX9_write_70 : decode cX9_write 70 = .ok (.iconst 0, 1) := by decide +kernel
theorem dX9_write_71 : decode cX9_write 71 = .ok (.ireturn, 1) := by decide +kernel

