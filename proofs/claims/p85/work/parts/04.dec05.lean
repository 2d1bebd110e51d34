theorem dX8_mute_10 : decode cX8_mute 10 = .ok (.aload_n 0, 1) := by decide +kernel
theorem dX8_mute_11 : decode cX8_mute 11 = .ok (.invokevirtual 239, 3) := by decide +kernel
theorem dX8_mute_14 : decode cX8_mute 14 = .ok (.iconst 0, 1) := by decide +kernel
theorem dX8_mute_15 : decode cX8_mute 15 = .ok (.istore_n 1, 1) := by decide +kernel
theorem dX8_mute_16 : decode cX8_mute 16 = .ok (.iconst 0, 1) := by decide +kernel
theorem dX8_mute_17 : decode cX8_mute 17 = .ok (.istore_n 2, 1) := by decide +kernel
theorem dX8_mute_18 : decode cX8_mute 18 = .ok (.iload_n 2, 1) := by decide +kernel
theorem dX8_mute_19 : decode cX8_mute 19 = .ok (.aload_n 0, 1) := by decide +kernel
theorem dX8_mute_20 : decode cX8_mute 20 = .ok (.getfield 33, 3) := by decide +kernel
theorem dX8_mute_23 : decode cX8_mute 23 = .ok (.getfield 242, 3) := by decide +kernel
theorem dX8_mute_26 : decode cX8_mute 26 = .ok (.if_icmp .gt 24, 3) := by decide +kernel
theorem dX8_mute_29 : decode cX8_mute 29 = .ok (.aload_n 0, 1) := by decide +kernel
theorem dX8_mute_30 : decode cX8_mute 30 = .ok (.getfield 72, 3) := by decide +kernel
theorem dX8_mute_33 : decode cX8_mute 33 = .ok (.iload_n 2, 1) := by decide +kernel
theorem dX8_mute_34 : decode cX8_mute 34 = .ok (.iaload, 1) := by decide +kernel
theorem dX8_mute_35 : decode cX8_mute 35 = .ok (.ifCond .ne 9, 3) := by decide +kernel
theorem dX8_mute_38 : decode cX8_mute 38 = .ok (.iload_n 1, 1) := by decide +kernel
theorem dX8_mute_39 : decode cX8_mute 39 = .ok (.iconst 1, 1) := by decide +kernel
theorem dX8_mute_40 : decode cX8_mute 40 = .ok (.iload_n 2, 1) := by decide +kernel
theorem dX8_mute_41 : decode cX8_mute 41 = .ok (.ishl, 1) := by decide +kernel
theorem dX8_mute_42 : decode cX8_mute 42 = .ok (.ior, 1) := by decide +kernel
theorem dX8_mute_43 : decode cX8_mute 43 = .ok (.istore_n 1, 1) := by decide +kernel
theorem dX8_mute_44 : decode cX8_mute 44 = .ok (.iinc 2 1, 3) := by decide +kernel
theorem dX8_mute_47 : decode cX8_mute 47 = .ok (.goto (-29), 3) := by decide +kernel
theorem dX8_mute_50 : decode cX8_mute 50 = .ok (.iload_n 1, 1) := by decide +kernel
theorem dX8_mute_51 : decode cX8_mute 51 = .ok (.ireturn, 1) := by decide +kernel
theorem dX8_ohms_0 : decode cX8_ohms 0 = .ok (.aload_n 0, 1) := by decide +kernel
theorem dX8_ohms_1 : decode cX8_ohms 1 = .ok (.iload_n 1, 1) := by decide +kernel
theorem dX8_ohms_2 : decode cX8_ohms 2 = .ok (.invokevirtual 145, 3) := by decide +kernel
theorem dX8_ohms_5 : decode cX8_ohms 5 = .ok (.ifCond .eq 10, 3) := by decide +kernel
theorem dX8_ohms_8 : decode cX8_ohms 8 = .ok (.iload_n 2, 1) := by decide +kernel
theorem dX8_ohms_9 : decode cX8_ohms 9 = .ok (.invokestatic 159, 3) := by decide +kernel
theorem dX8_ohms_12 : decode cX8_ohms 12 = .ok (.ifCond .ne 7, 3) := by decide +kernel
theorem dX8_ohms_15 : decode cX8_ohms 15 = .ok (.ldc2_w 162, 3) := by decide +kernel
theorem dX8_ohms_18 : decode cX8_ohms 18 = .ok (.lreturn, 1) := by decide +kernel
theorem dX8_ohms_19 : decode cX8_ohms 19 = .ok (.aload_n 0, 1) := by decide +kernel
theorem dX8_ohms_20 : decode cX8_ohms 20 = .ok (.iload_n 1, 1) := by decide +kernel
theorem dX8_ohms_21 : decode cX8_ohms 21 = .ok (.invokevirtual 164, 3) := by decide +kernel
theorem dX8_ohms_24 : decode cX8_ohms 24 = .ok (.aload_n 0, 1) := by decide +kernel
theorem dX8_ohms_25 : decode cX8_ohms 25 = .ok (.getfield 61, 3) := by decide +kernel
theorem dX8_ohms_28 : decode cX8_ohms 28 = .ok (.aload_n 0, 1) := by decide +kernel
theorem dX8_ohms_29 : decode cX8_ohms 29 = .ok (.getfield 68, 3) := by decide +kernel
theorem dX8_ohms_32 : decode cX8_ohms 32 = .ok (.invokevirtual 167, 3) := by decide +kernel
theorem dX8_ohms_35 : decode cX8_ohms 35 = .ok (.aload_n 0, 1) := by decide +kernel
theorem dX8_ohms_36 : decode cX8_ohms 36 = .ok (.getfield 68, 3) := by decide +kernel
theorem dX8_ohms_39 : decode cX8_ohms 39 = .ok (.iload_n 2, 1) := by decide +kernel
theorem dX8_ohms_40 : decode cX8_ohms 40 = .ok (.invokevirtual 171, 3) := by decide +kernel
theorem dX8_ohms_43 : decode cX8_ohms 43 = .ok (.lreturn, 1) := by decide +kernel
theorem dX8_partOf_0 : decode cX8_partOf 0 = .ok (.aload_n 0, 1) := by decide +kernel
theorem dX8_partOf_1 : decode cX8_partOf 1 = .ok (.getfield 68, 3) := by decide +kernel
theorem dX8_partOf_4 : decode cX8_partOf 4 = .ok (.lload_n 1, 1) := by decide +kernel
theorem dX8_partOf_5 : decode cX8_partOf 5 = .ok (.lload_n 3, 1) := by decide +kernel
theorem dX8_partOf_6 : decode cX8_partOf 6 = .ok (.invokevirtual 395, 3) := by decide +kernel
theorem dX8_partOf_9 : decode cX8_partOf 9 = .ok (.aload_n 0, 1) := by decide +kernel
theorem dX8_partOf_10 : decode cX8_partOf 10 = .ok (.getfield 68, 3) := by decide +kernel
theorem dX8_partOf_13 : decode cX8_partOf 13 = .ok (.iload 5, 2) := by decide +kernel
theorem dX8_partOf_15 : decode cX8_partOf 15 = .ok (.invokevirtual 171, 3) := by decide +kernel
theorem dX8_partOf_18 : decode cX8_partOf 18 = .ok (.lreturn, 1) := by decide +kernel
theorem dX8_power_0 : decode cX8_power 0 = .ok (.lconst 1, 1) := by decide +kernel
theorem dX8_power_1 : decode cX8_power 1 = .ok (.lstore_n 2, 1) := by decide +kernel
theorem dX8_power_2 : decode cX8_power 2 = .ok (.iconst 0, 1) := by decide +kernel
theorem dX8_power_3 : decode cX8_power 3 = .ok (.istore 4, 2) := by decide +kernel
theorem dX8_power_5 : decode cX8_power 5 = .ok (.iload 4, 2) := by decide +kernel
theorem dX8_power_7 : decode cX8_power 7 = .ok (.iload_n 1, 1) := by decide +kernel
theorem dX8_power_8 : decode cX8_power 8 = .ok (.if_icmp .ge 14, 3) := by decide +kernel
theorem dX8_power_11 : decode cX8_power 11 = .ok (.lload_n 2, 1) := by decide +kernel
theorem dX8_power_12 : decode cX8_power 12 = .ok (.iload_n 0, 1) := by decide +kernel
theorem dX8_power_13 : decode cX8_power 13 = .ok (.i2l, 1) := by decide +kernel
theorem dX8_power_14 : decode cX8_power 14 = .ok (.lmul, 1) := by decide +kernel
theorem dX8_power_15 : decode cX8_power 15 = .ok (.lstore_n 2, 1) := by decide +kernel
theorem dX8_power_16 : decode cX8_power 16 = .ok (.iinc 4 1, 3) := by decide +kernel
theorem dX8_power_19 : decode cX8_power 19 = .ok (.goto (-14), 3) := by decide +kernel
theorem dX8_power_22 : decode cX8_power 22 = .ok (.lload_n 2, 1) := by decide +kernel
theorem dX8_power_23 : decode cX8_power 23 = .ok (.lreturn, 1) := by decide +kernel
theorem dX8_reach_0 : decode cX8_reach 0 = .ok (.aload_n 0, 1) := by decide +kernel
theorem dX8_reach_1 : decode cX8_reach 1 = .ok (.iload_n 1, 1) := by decide +kernel
theorem dX8_reach_2 : decode cX8_reach 2 = .ok (.invokevirtual 145, 3) := by decide +kernel
theorem dX8_reach_5 : decode cX8_reach 5 = .ok (.ifCond .ne 6, 3) := by decide +kernel
theorem dX8_reach_8 : decode cX8_reach 8 = .ok (.bipush (-2), 2) := by decide +kernel
theorem dX8_reach_10 : decode cX8_reach 10 = .ok (.ireturn, 1) := by decide +kernel
theorem dX8_reach_11 : decode cX8_reach 11 = .ok (.aload_n 0, 1) := by decide +kernel
theorem dX8_reach_12 : decode cX8_reach 12 = .ok (.getfield 54, 3) := by decide +kernel
theorem dX8_reach_15 : decode cX8_reach 15 = .ok (.aload_n 0, 1) := by decide +kernel
theorem dX8_reach_16 : decode cX8_reach 16 = .ok (.getfield 33, 3) := by decide +kernel
theorem dX8_reach_19 : decode cX8_reach 19 = .ok (.invokevirtual 148, 3) := by decide +kernel
theorem dX8_reach_22 : decode cX8_reach 22 = .ok (.aload_n 0, 1) := by decide +kernel
theorem dX8_reach_23 : decode cX8_reach 23 = .ok (.iload_n 1, 1) := by decide +kernel
theorem dX8_reach_24 : decode cX8_reach 24 = .ok (.invokevirtual 207, 3) := by decide +kernel
theorem dX8_reach_27 : decode cX8_reach 27 = .ok (.invokestatic 236, 3) := by decide +kernel
theorem dX8_reach_30 : decode cX8_reach 30 = .ok (.ireturn, 1) := by decide +kernel
theorem dX8_refusalOfRow_0 : decode cX8_refusalOfRow 0 = .ok (.aload_n 0, 1) := by decide +kernel
theorem dX8_refusalOfRow_1 : decode cX8_refusalOfRow 1 = .ok (.invokevirtual 134, 3) := by decide +kernel
theorem dX8_refusalOfRow_4 : decode cX8_refusalOfRow 4 = .ok (.ifCond .eq 10, 3) := by decide +kernel
theorem dX8_refusalOfRow_7 : decode cX8_refusalOfRow 7 = .ok (.iload_n 1, 1) := by decide +kernel
theorem dX8_refusalOfRow_8 : decode cX8_refusalOfRow 8 = .ok (.invokestatic 364, 3) := by decide +kernel
theorem dX8_refusalOfRow_11 : decode cX8_refusalOfRow 11 = .ok (.ifCond .ne 6, 3) := by decide +kernel
theorem dX8_refusalOfRow_14 : decode cX8_refusalOfRow 14 = .ok (.bipush (-2), 2) := by decide +kernel
theorem dX8_refusalOfRow_16 : decode cX8_refusalOfRow 16 = .ok (.ireturn, 1) := by decide +kernel
theorem dX8_refusalOfRow_17 : decode cX8_refusalOfRow 17 = .ok (.aload_n 0, 1) := by decide +kernel
theorem dX8_refusalOfRow_18 : decode cX8_refusalOfRow 18 = .ok (.getfield 47, 3) := by decide +kernel
theorem dX8_refusalOfRow_21 : decode cX8_refusalOfRow 21 = .ok (.iload_n 1, 1) := by decide +kernel
theorem dX8_refusalOfRow_22 : decode cX8_refusalOfRow 22 = .ok (.invokevirtual 370, 3) := by decide +kernel
theorem dX8_refusalOfRow_25 : decode cX8_refusalOfRow 25 = .ok (.ifCond .ne 6, 3) := by decide +kernel
theorem dX8_refusalOfRow_28 : decode cX8_refusalOfRow 28 = .ok (.bipush (-6), 2) := by decide +kernel
theorem dX8_refusalOfRow_30 : decode cX8_refusalOfRow 30 = .ok (.ireturn, 1) := by decide +kernel
theorem dX8_refusalOfRow_31 : decode cX8_refusalOfRow 31 = .ok (.aload_n 0, 1) := by decide +kernel
theorem dX8_refusalOfRow_32 : decode cX8_refusalOfRow 32 = .ok (.getfield 47, 3) := by decide +kernel
theorem dX8_refusalOfRow_35 : decode cX8_refusalOfRow 35 = .ok (.getfield 373, 3) := by decide +kernel
theorem dX8_refusalOfRow_38 : decode cX8_refusalOfRow 38 = .ok (.iload_n 1, 1) := by decide +kernel
theorem dX8_refusalOfRow_39 : decode cX8_refusalOfRow 39 = .ok (.iaload, 1) := by decide +kernel
theorem dX8_refusalOfRow_40 : decode cX8_refusalOfRow 40 = .ok (.istore_n 2, 1) := by decide +kernel
theorem dX8_refusalOfRow_41 : decode cX8_refusalOfRow 41 = .ok (.iload_n 2, 1) := by decide +kernel
theorem dX8_refusalOfRow_42 : decode cX8_refusalOfRow 42 = .ok (.iconst 3, 1) := by decide +kernel
theorem dX8_refusalOfRow_43 : decode cX8_refusalOfRow 43 = .ok (.irem, 1) := by decide +kernel
theorem dX8_refusalOfRow_44 : decode cX8_refusalOfRow 44 = .ok (.ifCond .eq 6, 3) := by decide +kernel
theorem dX8_refusalOfRow_47 : decode cX8_refusalOfRow 47 = .ok (.bipush (-2), 2) := by decide +kernel
theorem dX8_refusalOfRow_49 : decode cX8_refusalOfRow 49 = .ok (.ireturn, 1) := by decide +kernel
theorem dX8_refusalOfRow_50 : decode cX8_refusalOfRow 50 = .ok (.iconst 0, 1) := by decide +kernel
theorem dX8_refusalOfRow_51 : decode cX8_refusalOfRow 51 = .ok (.istore_n 3, 1) := by decide +kernel
theorem dX8_refusalOfRow_52 : decode cX8_refusalOfRow 52 = .ok (.iload_n 3, 1) := by decide +kernel
theorem dX8_refusalOfRow_53 : decode cX8_refusalOfRow 53 = .ok (.iconst 2, 1) := by decide +kernel
theorem dX8_refusalOfRow_54 : decode cX8_refusalOfRow 54 = .ok (.iadd, 1) := by decide +kernel
theorem dX8_refusalOfRow_55 : decode cX8_refusalOfRow 55 = .ok (.iload_n 2, 1) := by decide +kernel
theorem dX8_refusalOfRow_56 : decode cX8_refusalOfRow 56 = .ok (.if_icmp .ge 76, 3) := by decide +kernel
theorem dX8_refusalOfRow_59 : decode cX8_refusalOfRow 59 = .ok (.aload_n 0, 1) := by decide +kernel
theorem dX8_refusalOfRow_60 : decode cX8_refusalOfRow 60 = .ok (.getfield 47, 3) := by decide +kernel
theorem dX8_refusalOfRow_63 : decode cX8_refusalOfRow 63 = .ok (.iload_n 1, 1) := by decide +kernel
theorem dX8_refusalOfRow_64 : decode cX8_refusalOfRow 64 = .ok (.iload_n 3, 1) := by decide +kernel
theorem dX8_refusalOfRow_65 : decode cX8_refusalOfRow 65 = .ok (.invokevirtual 417, 3) := by decide +kernel
theorem dX8_refusalOfRow_68 : decode cX8_refusalOfRow 68 = .ok (.lstore 4, 2) := by decide +kernel
theorem dX8_refusalOfRow_70 : decode cX8_refusalOfRow 70 = .ok (.lload 4, 2) := by decide +kernel
theorem dX8_refusalOfRow_72 : decode cX8_refusalOfRow 72 = .ok (.lconst 0, 1) := by decide +kernel
theorem dX8_refusalOfRow_73 : decode cX8_refusalOfRow 73 = .ok (.lcmp, 1) := by decide +kernel
theorem dX8_refusalOfRow_74 : decode cX8_refusalOfRow 74 = .ok (.ifCond .lt 49, 3) := by decide +kernel
theorem dX8_refusalOfRow_77 : decode cX8_refusalOfRow 77 = .ok (.lload 4, 2) := by decide +kernel
theorem dX8_refusalOfRow_79 : decode cX8_refusalOfRow 79 = .ok (.aload_n 0, 1) := by decide +kernel
theorem dX8_refusalOfRow_80 : decode cX8_refusalOfRow 80 = .ok (.getfield 33, 3) := by decide +kernel
theorem dX8_refusalOfRow_83 : decode cX8_refusalOfRow 83 = .ok (.getfield 242, 3) := by decide +kernel
theorem dX8_refusalOfRow_86 : decode cX8_refusalOfRow 86 = .ok (.i2l, 1) := by decide +kernel
theorem dX8_refusalOfRow_87 : decode cX8_refusalOfRow 87 = .ok (.lcmp, 1) := by decide +kernel
theorem dX8_refusalOfRow_88 : decode cX8_refusalOfRow 88 = .ok (.ifCond .gt 35, 3) := by decide +kernel
theorem dX8_refusalOfRow_91 : decode cX8_refusalOfRow 91 = .ok (.aload_n 0, 1) := by decide +kernel
theorem dX8_refusalOfRow_92 : decode cX8_refusalOfRow 92 = .ok (.getfield 47, 3) := by decide +kernel
theorem dX8_refusalOfRow_95 : decode cX8_refusalOfRow 95 = .ok (.iload_n 1, 1) := by decide +kernel
theorem dX8_refusalOfRow_96 : decode cX8_refusalOfRow 96 = .ok (.iload_n 3, 1) := by decide +kernel
theorem dX8_refusalOfRow_97 : decode cX8_refusalOfRow 97 = .ok (.iconst 1, 1) := by decide +kernel
theorem dX8_refusalOfRow_98 : decode cX8_refusalOfRow 98 = .ok (.iadd, 1) := by decide +kernel
theorem dX8_refusalOfRow_99 : decode cX8_refusalOfRow 99 = .ok (.invokevirtual 417, 3) := by decide +kernel
theorem dX8_refusalOfRow_102 : decode cX8_refusalOfRow 102 = .ok (.lconst 0, 1) := by decide +kernel
theorem dX8_refusalOfRow_103 : decode cX8_refusalOfRow 103 = .ok (.lcmp, 1) := by decide +kernel
theorem dX8_refusalOfRow_104 : decode cX8_refusalOfRow 104 = .ok (.ifCond .lt 19, 3) := by decide +kernel
theorem dX8_refusalOfRow_107 : decode cX8_refusalOfRow 107 = .ok (.aload_n 0, 1) := by decide +kernel
theorem dX8_refusalOfRow_108 : decode cX8_refusalOfRow 108 = .ok (.getfield 47, 3) := by decide +kernel
theorem dX8_refusalOfRow_111 : decode cX8_refusalOfRow 111 = .ok (.iload_n 1, 1) := by decide +kernel
theorem dX8_refusalOfRow_112 : decode cX8_refusalOfRow 112 = .ok (.iload_n 3, 1) := by decide +kernel
theorem dX8_refusalOfRow_113 : decode cX8_refusalOfRow 113 = .ok (.iconst 2, 1) := by decide +kernel
theorem dX8_refusalOfRow_114 : decode cX8_refusalOfRow 114 = .ok (.iadd, 1) := by decide +kernel
theorem dX8_refusalOfRow_115 : decode cX8_refusalOfRow 115 = .ok (.invokevirtual 417, 3) := by decide +kernel
theorem dX8_refusalOfRow_118 : decode cX8_refusalOfRow 118 = .ok (.lconst 0, 1) := by decide +kernel
theorem dX8_refusalOfRow_119 : decode cX8_refusalOfRow 119 = .ok (.lcmp, 1) := by decide +kernel
theorem dX8_refusalOfRow_120 : decode cX8_refusalOfRow 120 = .ok (.ifCond .ge 6, 3) := by decide +kernel
theorem dX8_refusalOfRow_123 : decode cX8_refusalOfRow 123 = .ok (.bipush (-2), 2) := by decide +kernel
theorem dX8_refusalOfRow_125 : decode cX8_refusalOfRow 125 = .ok (.ireturn, 1) := by decide +kernel
theorem dX8_refusalOfRow_126 : decode cX8_refusalOfRow 126 = .ok (.iinc 3 3, 3) := by decide +kernel
theorem dX8_refusalOfRow_129 : decode cX8_refusalOfRow 129 = .ok (.goto (-77), 3) := by decide +kernel
theorem dX8_refusalOfRow_132 : decode cX8_refusalOfRow 132 = .ok (.iconst 0, 1) := by decide +kernel
theorem dX8_refusalOfRow_133 : decode cX8_refusalOfRow 133 = .ok (.ireturn, 1) := by decide +kernel
theorem dX8_rises_0 : decode cX8_rises 0 = .ok (.aload_n 0, 1) := by decide +kernel
theorem dX8_rises_1 : decode cX8_rises 1 = .ok (.iload_n 1, 1) := by decide +kernel
theorem dX8_rises_2 : decode cX8_rises 2 = .ok (.invokevirtual 121, 3) := by decide +kernel
theorem dX8_rises_5 : decode cX8_rises 5 = .ok (.ifCond .ne 6, 3) := by decide +kernel
theorem dX8_rises_8 : decode cX8_rises 8 = .ok (.bipush (-2), 2) := by decide +kernel
theorem dX8_rises_10 : decode cX8_rises 10 = .ok (.ireturn, 1) := by decide +kernel
theorem dX8_rises_11 : decode cX8_rises 11 = .ok (.aload_n 0, 1) := by decide +kernel
theorem dX8_rises_12 : decode cX8_rises 12 = .ok (.getfield 54, 3) := by decide +kernel
theorem dX8_rises_15 : decode cX8_rises 15 = .ok (.aload_n 0, 1) := by decide +kernel
theorem dX8_rises_16 : decode cX8_rises 16 = .ok (.getfield 33, 3) := by decide +kernel
theorem dX8_rises_19 : decode cX8_rises 19 = .ok (.invokevirtual 148, 3) := by decide +kernel
theorem dX8_rises_22 : decode cX8_rises 22 = .ok (.iconst 0, 1) := by decide +kernel
theorem dX8_rises_23 : decode cX8_rises 23 = .ok (.istore_n 2, 1) := by decide +kernel
theorem dX8_rises_24 : decode cX8_rises 24 = .ok (.iconst 1, 1) := by decide +kernel
theorem dX8_rises_25 : decode cX8_rises 25 = .ok (.istore_n 3, 1) := by decide +kernel
theorem dX8_rises_26 : decode cX8_rises 26 = .ok (.iload_n 3, 1) := by decide +kernel
theorem dX8_rises_27 : decode cX8_rises 27 = .ok (.aload_n 0, 1) := by decide +kernel
theorem dX8_rises_28 : decode cX8_rises 28 = .ok (.getfield 33, 3) := by decide +kernel
theorem dX8_rises_31 : decode cX8_rises 31 = .ok (.getfield 242, 3) := by decide +kernel
theorem dX8_rises_34 : decode cX8_rises 34 = .ok (.if_icmp .gt 43, 3) := by decide +kernel
theorem dX8_rises_37 : decode cX8_rises 37 = .ok (.aload_n 0, 1) := by decide +kernel
theorem dX8_rises_38 : decode cX8_rises 38 = .ok (.getfield 54, 3) := by decide +kernel
theorem dX8_rises_41 : decode cX8_rises 41 = .ok (.aload_n 0, 1) := by decide +kernel
theorem dX8_rises_42 : decode cX8_rises 42 = .ok (.getfield 33, 3) := by decide +kernel
theorem dX8_rises_45 : decode cX8_rises 45 = .ok (.iload_n 1, 1) := by decide +kernel
theorem dX8_rises_46 : decode cX8_rises 46 = .ok (.iload_n 3, 1) := by decide +kernel
theorem dX8_rises_47 : decode cX8_rises 47 = .ok (.invokevirtual 151, 3) := by decide +kernel
theorem dX8_rises_50 : decode cX8_rises 50 = .ok (.aload_n 0, 1) := by decide +kernel
theorem dX8_rises_51 : decode cX8_rises 51 = .ok (.getfield 54, 3) := by decide +kernel
theorem dX8_rises_54 : decode cX8_rises 54 = .ok (.aload_n 0, 1) := by decide +kernel
theorem dX8_rises_55 : decode cX8_rises 55 = .ok (.getfield 33, 3) := by decide +kernel
theorem dX8_rises_58 : decode cX8_rises 58 = .ok (.iload_n 1, 1) := by decide +kernel
theorem dX8_rises_59 : decode cX8_rises 59 = .ok (.iload_n 3, 1) := by decide +kernel
theorem dX8_rises_60 : decode cX8_rises 60 = .ok (.iconst 1, 1) := by decide +kernel
theorem dX8_rises_61 : decode cX8_rises 61 = .ok (.isub, 1) := by decide +kernel
theorem dX8_rises_62 : decode cX8_rises 62 = .ok (.invokevirtual 151, 3) := by decide +kernel
theorem dX8_rises_65 : decode cX8_rises 65 = .ok (.if_icmp .le 6, 3) := by decide +kernel
theorem dX8_rises_68 : decode cX8_rises 68 = .ok (.iinc 2 1, 3) := by decide +kernel
theorem dX8_rises_71 : decode cX8_rises 71 = .ok (.iinc 3 1, 3) := by decide +kernel
theorem dX8_rises_74 : decode cX8_rises 74 = .ok (.goto (-48), 3) := by decide +kernel
theorem dX8_rises_77 : decode cX8_rises 77 = .ok (.iload_n 2, 1) := by decide +kernel
theorem dX8_rises_78 : decode cX8_rises 78 = .ok (.ireturn, 1) := by decide +kernel
theorem dX8_settleAsTold_0 : decode cX8_settleAsTold 0 = .ok (.aload_n 0, 1) := by decide +kernel
theorem dX8_settleAsTold_1 : decode cX8_settleAsTold 1 = .ok (.getfield 54, 3) := by decide +kernel
theorem dX8_settleAsTold_4 : decode cX8_settleAsTold 4 = .ok (.aload_n 0, 1) := by decide +kernel
theorem dX8_settleAsTold_5 : decode cX8_settleAsTold 5 = .ok (.getfield 33, 3) := by decide +kernel
theorem dX8_settleAsTold_8 : decode cX8_settleAsTold 8 = .ok (.invokevirtual 148, 3) := by decide +kernel
theorem dX8_settleAsTold_11 : decode cX8_settleAsTold 11 = .ok (.aload_n 0, 1) := by decide +kernel
theorem dX8_settleAsTold_12 : decode cX8_settleAsTold 12 = .ok (.getfield 61, 3) := by decide +kernel
theorem dX8_settleAsTold_15 : decode cX8_settleAsTold 15 = .ok (.aload_n 0, 1) := by decide +kernel
theorem dX8_settleAsTold_16 : decode cX8_settleAsTold 16 = .ok (.getfield 33, 3) := by decide +kernel
theorem dX8_settleAsTold_19 : decode cX8_settleAsTold 19 = .ok (.aload_n 0, 1) := by decide +kernel
theorem dX8_settleAsTold_20 : decode cX8_settleAsTold 20 = .ok (.getfield 54, 3) := by decide +kernel
theorem dX8_settleAsTold_23 : decode cX8_settleAsTold 23 = .ok (.iload_n 1, 1) := by decide +kernel
theorem dX8_settleAsTold_24 : decode cX8_settleAsTold 24 = .ok (.invokevirtual 281, 3) := by decide +kernel
theorem dX8_settleAsTold_27 : decode cX8_settleAsTold 27 = .ok (.return_, 1) := by decide +kernel
theorem dX8_silent_0 : decode cX8_silent 0 = .ok (.aload_n 0, 1) := by decide +kernel
theorem dX8_silent_1 : decode cX8_silent 1 = .ok (.iload_n 1, 1) := by decide +kernel
theorem dX8_silent_2 : decode cX8_silent 2 = .ok (.invokevirtual 145, 3) := by decide +kernel
theorem dX8_silent_5 : decode cX8_silent 5 = .ok (.ifCond .ne 6, 3) := by decide +kernel
theorem dX8_silent_8 : decode cX8_silent 8 = .ok (.bipush (-2), 2) := by decide +kernel
theorem dX8_silent_10 : decode cX8_silent 10 = .ok (.ireturn, 1) := by decide +kernel
theorem dX8_silent_11 : decode cX8_silent 11 = .ok (.aload_n 0, 1) := by decide +kernel
theorem dX8_silent_12 : decode cX8_silent 12 = .ok (.getfield 54, 3) := by decide +kernel
theorem dX8_silent_15 : decode cX8_silent 15 = .ok (.aload_n 0, 1) := by decide +kernel
theorem dX8_silent_16 : decode cX8_silent 16 = .ok (.getfield 33, 3) := by decide +kernel
theorem dX8_silent_19 : decode cX8_silent 19 = .ok (.invokevirtual 148, 3) := by decide +kernel
theorem dX8_silent_22 : decode cX8_silent 22 = .ok (.aload_n 0, 1) := by decide +kernel
theorem dX8_silent_23 : decode cX8_silent 23 = .ok (.getfield 33, 3) := by decide +kernel
theorem dX8_silent_26 : decode cX8_silent 26 = .ok (.invokevirtual 138, 3) := by decide +kernel
theorem dX8_silent_29 : decode cX8_silent 29 = .ok (.aload_n 0, 1) := by decide +kernel
theorem dX8_silent_30 : decode cX8_silent 30 = .ok (.iload_n 1, 1) := by decide +kernel
theorem dX8_silent_31 : decode cX8_silent 31 = .ok (.invokevirtual 207, 3) := by decide +kernel
theorem dX8_silent_34 : decode cX8_silent 34 = .ok (.iconst (-1), 1) := by decide +kernel
theorem dX8_silent_35 : decode cX8_silent 35 = .ok (.ixor, 1) := by decide +kernel
theorem dX8_silent_36 : decode cX8_silent 36 = .ok (.iand, 1) := by decide +kernel
theorem dX8_silent_37 : decode cX8_silent 37 = .ok (.ireturn, 1) := by decide +kernel
theorem dX8_snapped_0 : decode cX8_snapped 0 = .ok (.aload_n 0, 1) := by decide +kernel
theorem dX8_snapped_1 : decode cX8_snapped 1 = .ok (.iload_n 1, 1) := by decide +kernel
theorem dX8_snapped_2 : decode cX8_snapped 2 = .ok (.invokevirtual 121, 3) := by decide +kernel
theorem dX8_snapped_5 : decode cX8_snapped 5 = .ok (.ifCond .eq 14, 3) := by decide +kernel
theorem dX8_snapped_8 : decode cX8_snapped 8 = .ok (.aload_n 0, 1) := by decide +kernel
theorem dX8_snapped_9 : decode cX8_snapped 9 = .ok (.getfield 33, 3) := by decide +kernel
theorem dX8_snapped_12 : decode cX8_snapped 12 = .ok (.iload_n 1, 1) := by decide +kernel
theorem dX8_snapped_13 : decode cX8_snapped 13 = .ok (.invokevirtual 269, 3) := by decide +kernel
theorem dX8_snapped_16 : decode cX8_snapped 16 = .ok (.goto 5, 3) := by decide +kernel
theorem dX8_snapped_19 : decode cX8_snapped 19 = .ok (.bipush (-2), 2) := by decide +kernel
theorem dX8_snapped_21 : decode cX8_snapped 21 = .ok (.ireturn, 1) := by decide +kernel
theorem dX8_sore_0 : decode cX8_sore 0 = .ok (.aload_n 0, 1) := by decide +kernel
theorem dX8_sore_1 : decode cX8_sore 1 = .ok (.iload_n 1, 1) := by decide +kernel
theorem dX8_sore_2 : decode cX8_sore 2 = .ok (.invokevirtual 145, 3) := by decide +kernel
theorem dX8_sore_5 : decode cX8_sore 5 = .ok (.ifCond .ne 6, 3) := by decide +kernel
theorem dX8_sore_8 : decode cX8_sore 8 = .ok (.bipush (-2), 2) := by decide +kernel
theorem dX8_sore_10 : decode cX8_sore 10 = .ok (.ireturn, 1) := by decide +kernel
theorem dX8_sore_11 : decode cX8_sore 11 = .ok (.aload_n 0, 1) := by decide +kernel
theorem dX8_sore_12 : decode cX8_sore 12 = .ok (.iload_n 1, 1) := by decide +kernel
theorem dX8_sore_13 : decode cX8_sore 13 = .ok (.invokevirtual 164, 3) := by decide +kernel
theorem dX8_sore_16 : decode cX8_sore 16 = .ok (.iconst (-1), 1) := by decide +kernel
theorem dX8_sore_17 : decode cX8_sore 17 = .ok (.istore_n 2, 1) := by decide +kernel
theorem dX8_sore_18 : decode cX8_sore 18 = .ok (.iconst 0, 1) := by decide +kernel
theorem dX8_sore_19 : decode cX8_sore 19 = .ok (.istore_n 3, 1) := by decide +kernel
theorem dX8_sore_20 : decode cX8_sore 20 = .ok (.iload_n 3, 1) := by decide +kernel
theorem dX8_sore_21 : decode cX8_sore 21 = .ok (.aload_n 0, 1) := by decide +kernel
theorem dX8_sore_22 : decode cX8_sore 22 = .ok (.getfield 61, 3) := by decide +kernel
theorem dX8_sore_25 : decode cX8_sore 25 = .ok (.getfield 200, 3) := by decide +kernel
theorem dX8_sore_28 : decode cX8_sore 28 = .ok (.if_icmp .ge 28, 3) := by decide +kernel
theorem dX8_sore_31 : decode cX8_sore 31 = .ok (.iload_n 2, 1) := by decide +kernel
theorem dX8_sore_32 : decode cX8_sore 32 = .ok (.iconst (-1), 1) := by decide +kernel
theorem dX8_sore_33 : decode cX8_sore 33 = .ok (.if_icmp .eq 15, 3) := by decide +kernel
theorem dX8_sore_36 : decode cX8_sore 36 = .ok (.aload_n 0, 1) := by decide +kernel
theorem dX8_sore_37 : decode cX8_sore 37 = .ok (.getfield 61, 3) := by decide +kernel
theorem dX8_sore_40 : decode cX8_sore 40 = .ok (.iload_n 3, 1) := by decide +kernel
theorem dX8_sore_41 : decode cX8_sore 41 = .ok (.iload_n 2, 1) := by decide +kernel
theorem dX8_sore_42 : decode cX8_sore 42 = .ok (.invokevirtual 203, 3) := by decide +kernel
theorem dX8_sore_45 : decode cX8_sore 45 = .ok (.ifCond .eq 5, 3) := by decide +kernel
theorem dX8_sore_48 : decode cX8_sore 48 = .ok (.iload_n 3, 1) := by decide +kernel
theorem dX8_sore_49 : decode cX8_sore 49 = .ok (.istore_n 2, 1) := by decide +kernel
theorem dX8_sore_50 : decode cX8_sore 50 = .ok (.iinc 3 1, 3) := by decide +kernel
theorem dX8_sore_53 : decode cX8_sore 53 = .ok (.goto (-33), 3) := by decide +kernel
theorem dX8_sore_56 : decode cX8_sore 56 = .ok (.iload_n 2, 1) := by decide +kernel
theorem dX8_sore_57 : decode cX8_sore 57 = .ok (.ireturn, 1) := by decide +kernel
theorem dX8_span_0 : decode cX8_span 0 = .ok (.aload_n 0, 1) := by decide +kernel
theorem dX8_span_1 : decode cX8_span 1 = .ok (.iload_n 1, 1) := by decide +kernel
theorem dX8_span_2 : decode cX8_span 2 = .ok (.invokevirtual 121, 3) := by decide +kernel
theorem dX8_span_5 : decode cX8_span 5 = .ok (.ifCond .ne 6, 3) := by decide +kernel
theorem dX8_span_8 : decode cX8_span 8 = .ok (.bipush (-2), 2) := by decide +kernel
theorem dX8_span_10 : decode cX8_span 10 = .ok (.ireturn, 1) := by decide +kernel
theorem dX8_span_11 : decode cX8_span 11 = .ok (.iload_n 2, 1) := by decide +kernel
theorem dX8_span_12 : decode cX8_span 12 = .ok (.tableswitch 58 0 2 #[28, 38, 48], 28) := by decide +kernel
theorem dX8_span_40 : decode cX8_span 40 = .ok (.aload_n 0, 1) := by decide +kernel
theorem dX8_span_41 : decode cX8_span 41 = .ok (.getfield 33, 3) := by decide +kernel
theorem dX8_span_44 : decode cX8_span 44 = .ok (.getfield 125, 3) := by decide +kernel
theorem dX8_span_47 : decode cX8_span 47 = .ok (.iload_n 1, 1) := by decide +kernel
theorem dX8_span_48 : decode cX8_span 48 = .ok (.iaload, 1) := by decide +kernel
theorem dX8_span_49 : decode cX8_span 49 = .ok (.ireturn, 1) := by decide +kernel
theorem dX8_span_50 : decode cX8_span 50 = .ok (.aload_n 0, 1) := by decide +kernel
theorem dX8_span_51 : decode cX8_span 51 = .ok (.getfield 33, 3) := by decide +kernel
theorem dX8_span_54 : decode cX8_span 54 = .ok (.getfield 128, 3) := by decide +kernel
theorem dX8_span_57 : decode cX8_span 57 = .ok (.iload_n 1, 1) := by decide +kernel
theorem dX8_span_58 : decode cX8_span 58 = .ok (.iaload, 1) := by decide +kernel
theorem dX8_span_59 : decode cX8_span 59 = .ok (.ireturn, 1) := by decide +kernel
theorem dX8_span_60 : decode cX8_span 60 = .ok (.aload_n 0, 1) := by decide +kernel
theorem dX8_span_61 : decode cX8_span 61 = .ok (.getfield 33, 3) := by decide +kernel
theorem dX8_span_64 : decode cX8_span 64 = .ok (.getfield 131, 3) := by decide +kernel
theorem dX8_span_67 : decode cX8_span 67 = .ok (.iload_n 1, 1) := by decide +kernel
theorem dX8_span_68 : decode cX8_span 68 = .ok (.iaload, 1) := by decide +kernel
theorem dX8_span_69 : decode cX8_span 69 = .ok (.ireturn, 1) := by decide +kernel
theorem dX8_span_70 : decode cX8_span 70 = .ok (.bipush (-2), 2) := by decide +kernel
theorem dX8_span_72 : decode cX8_span 72 = .ok (.ireturn, 1) := by decide +kernel
theorem dX8_spell_0 : decode cX8_spell 0 = .ok (.aload_n 0, 1) := by decide +kernel
theorem dX8_spell_1 : decode cX8_spell 1 = .ok (.invokevirtual 134, 3) := by decide +kernel
theorem dX8_spell_4 : decode cX8_spell 4 = .ok (.ifCond .eq 16, 3) := by decide +kernel
theorem dX8_spell_7 : decode cX8_spell 7 = .ok (.aload_n 0, 1) := by decide +kernel
theorem dX8_spell_8 : decode cX8_spell 8 = .ok (.getfield 33, 3) := by decide +kernel
theorem dX8_spell_11 : decode cX8_spell 11 = .ok (.getfield 142, 3) := by decide +kernel
theorem dX8_spell_14 : decode cX8_spell 14 = .ok (.invokestatic 230, 3) := by decide +kernel
theorem dX8_spell_17 : decode cX8_spell 17 = .ok (.goto 5, 3) := by decide +kernel
theorem dX8_spell_20 : decode cX8_spell 20 = .ok (.bipush (-2), 2) := by decide +kernel
theorem dX8_spell_22 : decode cX8_spell 22 = .ok (.ireturn, 1) := by decide +kernel
theorem dX8_stations_0 : decode cX8_stations 0 = .ok (.aload_n 0, 1) := by decide +kernel
theorem dX8_stations_1 : decode cX8_stations 1 = .ok (.invokevirtual 134, 3) := by decide +kernel
theorem dX8_stations_4 : decode cX8_stations 4 = .ok (.ifCond .eq 13, 3) := by decide +kernel
theorem dX8_stations_7 : decode cX8_stations 7 = .ok (.aload_n 0, 1) := by decide +kernel
theorem dX8_stations_8 : decode cX8_stations 8 = .ok (.getfield 33, 3) := by decide +kernel
theorem dX8_stations_11 : decode cX8_stations 11 = .ok (.invokevirtual 138, 3) := by decide +kernel
theorem dX8_stations_14 : decode cX8_stations 14 = .ok (.goto 5, 3) := by decide +kernel
theorem dX8_stations_17 : decode cX8_stations 17 = .ok (.bipush (-2), 2) := by decide +kernel
theorem dX8_stations_19 : decode cX8_stations 19 = .ok (.ireturn, 1) := by decide +kernel
theorem dX8_steep_0 : decode cX8_steep 0 = .ok (.aload_n 0, 1) := by decide +kernel
theorem dX8_steep_1 : decode cX8_steep 1 = .ok (.iload_n 1, 1) := by decide +kernel
theorem dX8_steep_2 : decode cX8_steep 2 = .ok (.invokevirtual 145, 3) := by decide +kernel
theorem dX8_steep_5 : decode cX8_steep 5 = .ok (.ifCond .ne 6, 3) := by decide +kernel
theorem dX8_steep_8 : decode cX8_steep 8 = .ok (.bipush (-2), 2) := by decide +kernel
theorem dX8_steep_10 : decode cX8_steep 10 = .ok (.ireturn, 1) := by decide +kernel
theorem dX8_steep_11 : decode cX8_steep 11 = .ok (.aload_n 0, 1) := by decide +kernel
theorem dX8_steep_12 : decode cX8_steep 12 = .ok (.iload_n 1, 1) := by decide +kernel
theorem dX8_steep_13 : decode cX8_steep 13 = .ok (.invokevirtual 164, 3) := by decide +kernel
theorem dX8_steep_16 : decode cX8_steep 16 = .ok (.iconst (-1), 1) := by decide +kernel
theorem dX8_steep_17 : decode cX8_steep 17 = .ok (.istore_n 2, 1) := by decide +kernel
theorem dX8_steep_18 : decode cX8_steep 18 = .ok (.iconst 0, 1) := by decide +kernel
theorem dX8_steep_19 : decode cX8_steep 19 = .ok (.istore_n 3, 1) := by decide +kernel
theorem dX8_steep_20 : decode cX8_steep 20 = .ok (.iload_n 3, 1) := by decide +kernel
theorem dX8_steep_21 : decode cX8_steep 21 = .ok (.aload_n 0, 1) := by decide +kernel
theorem dX8_steep_22 : decode cX8_steep 22 = .ok (.getfield 61, 3) := by decide +kernel
theorem dX8_steep_25 : decode cX8_steep 25 = .ok (.getfield 200, 3) := by decide +kernel
theorem dX8_steep_28 : decode cX8_steep 28 = .ok (.if_icmp .ge 36, 3) := by decide +kernel
theorem dX8_steep_31 : decode cX8_steep 31 = .ok (.iload_n 2, 1) := by decide +kernel
theorem dX8_steep_32 : decode cX8_steep 32 = .ok (.iconst (-1), 1) := by decide +kernel
theorem dX8_steep_33 : decode cX8_steep 33 = .ok (.if_icmp .eq 23, 3) := by decide +kernel
theorem dX8_steep_36 : decode cX8_steep 36 = .ok (.aload_n 0, 1) := by decide +kernel
theorem dX8_steep_37 : decode cX8_steep 37 = .ok (.getfield 61, 3) := by decide +kernel
theorem dX8_steep_40 : decode cX8_steep 40 = .ok (.iload_n 3, 1) := by decide +kernel
theorem dX8_steep_41 : decode cX8_steep 41 = .ok (.invokevirtual 196, 3) := by decide +kernel
theorem dX8_steep_44 : decode cX8_steep 44 = .ok (.aload_n 0, 1) := by decide +kernel
theorem dX8_steep_45 : decode cX8_steep 45 = .ok (.getfield 61, 3) := by decide +kernel
theorem dX8_steep_48 : decode cX8_steep 48 = .ok (.iload_n 2, 1) := by decide +kernel
theorem dX8_steep_49 : decode cX8_steep 49 = .ok (.invokevirtual 196, 3) := by decide +kernel
theorem dX8_steep_52 : decode cX8_steep 52 = .ok (.lcmp, 1) := by decide +kernel
theorem dX8_steep_53 : decode cX8_steep 53 = .ok (.ifCond .le 5, 3) := by decide +kernel
theorem dX8_steep_56 : decode cX8_steep 56 = .ok (.iload_n 3, 1) := by decide +kernel
theorem dX8_steep_57 : decode cX8_steep 57 = .ok (.istore_n 2, 1) := by decide +kernel
theorem dX8_steep_58 : decode cX8_steep 58 = .ok (.iinc 3 1, 3) := by decide +kernel
theorem dX8_steep_61 : decode cX8_steep 61 = .ok (.goto (-41), 3) := by decide +kernel
theorem dX8_steep_64 : decode cX8_steep 64 = .ok (.iload_n 2, 1) := by decide +kernel
theorem dX8_steep_65 : decode cX8_steep 65 = .ok (.ireturn, 1) := by decide +kernel
theorem dX8_strong_0 : decode cX8_strong 0 = .ok (.aload_n 0, 1) := by decide +kernel
theorem dX8_strong_1 : decode cX8_strong 1 = .ok (.invokevirtual 134, 3) := by decide +kernel
theorem dX8_strong_4 : decode cX8_strong 4 = .ok (.ifCond .eq 11, 3) := by decide +kernel
theorem dX8_strong_7 : decode cX8_strong 7 = .ok (.aload_n 0, 1) := by decide +kernel
theorem dX8_strong_8 : decode cX8_strong 8 = .ok (.iconst 1, 1) := by decide +kernel
theorem dX8_strong_9 : decode cX8_strong 9 = .ok (.invokevirtual 275, 3) := by decide +kernel
theorem dX8_strong_12 : decode cX8_strong 12 = .ok (.goto 5, 3) := by decide +kernel
theorem dX8_strong_15 : decode cX8_strong 15 = .ok (.bipush (-2), 2) := by decide +kernel
theorem dX8_strong_17 : decode cX8_strong 17 = .ok (.ireturn, 1) := by decide +kernel
theorem dX8_sum_0 : decode cX8_sum 0 = .ok (.aload_n 0, 1) := by decide +kernel
theorem dX8_sum_1 : decode cX8_sum 1 = .ok (.invokevirtual 134, 3) := by decide +kernel
theorem dX8_sum_4 : decode cX8_sum 4 = .ok (.ifCond .ne 6, 3) := by decide +kernel
theorem dX8_sum_7 : decode cX8_sum 7 = .ok (.bipush (-2), 2) := by decide +kernel
theorem dX8_sum_9 : decode cX8_sum 9 = .ok (.ireturn, 1) := by decide +kernel
theorem dX8_sum_10 : decode cX8_sum 10 = .ok (.aload_n 0, 1) := by decide +kernel
theorem dX8_sum_11 : decode cX8_sum 11 = .ok (.getfield 54, 3) := by decide +kernel
theorem dX8_sum_14 : decode cX8_sum 14 = .ok (.aload_n 0, 1) := by decide +kernel
theorem dX8_sum_15 : decode cX8_sum 15 = .ok (.getfield 33, 3) := by decide +kernel
theorem dX8_sum_18 : decode cX8_sum 18 = .ok (.invokevirtual 148, 3) := by decide +kernel
theorem dX8_sum_21 : decode cX8_sum 21 = .ok (.aload_n 0, 1) := by decide +kernel
theorem dX8_sum_22 : decode cX8_sum 22 = .ok (.invokevirtual 245, 3) := by decide +kernel
theorem dX8_sum_25 : decode cX8_sum 25 = .ok (.ireturn, 1) := by decide +kernel
theorem dX8_thick_0 : decode cX8_thick 0 = .ok (.aload_n 0, 1) := by decide +kernel
theorem dX8_thick_1 : decode cX8_thick 1 = .ok (.invokevirtual 134, 3) := by decide +kernel
theorem dX8_thick_4 : decode cX8_thick 4 = .ok (.ifCond .ne 6, 3) := by decide +kernel
theorem dX8_thick_7 : decode cX8_thick 7 = .ok (.bipush (-2), 2) := by decide +kernel
theorem dX8_thick_9 : decode cX8_thick 9 = .ok (.ireturn, 1) := by decide +kernel
theorem dX8_thick_10 : decode cX8_thick 10 = .ok (.aload_n 0, 1) := by decide +kernel
