theorem dX8_joined_19 : decode cX8_joined 19 = .ok (.invokevirtual 148, 3) := by decide +kernel
theorem dX8_joined_22 : decode cX8_joined 22 = .ok (.aload_n 0, 1) := by decide +kernel
theorem dX8_joined_23 : decode cX8_joined 23 = .ok (.getfield 54, 3) := by decide +kernel
theorem dX8_joined_26 : decode cX8_joined 26 = .ok (.aload_n 0, 1) := by decide +kernel
theorem dX8_joined_27 : decode cX8_joined 27 = .ok (.getfield 33, 3) := by decide +kernel
theorem dX8_joined_30 : decode cX8_joined 30 = .ok (.iload_n 1, 1) := by decide +kernel
theorem dX8_joined_31 : decode cX8_joined 31 = .ok (.invokevirtual 155, 3) := by decide +kernel
theorem dX8_joined_34 : decode cX8_joined 34 = .ok (.ireturn, 1) := by decide +kernel
theorem dX8_lack_0 : decode cX8_lack 0 = .ok (.aload_n 0, 1) := by decide +kernel
theorem dX8_lack_1 : decode cX8_lack 1 = .ok (.iload_n 1, 1) := by decide +kernel
theorem dX8_lack_2 : decode cX8_lack 2 = .ok (.invokevirtual 145, 3) := by decide +kernel
theorem dX8_lack_5 : decode cX8_lack 5 = .ok (.ifCond .ne 6, 3) := by decide +kernel
theorem dX8_lack_8 : decode cX8_lack 8 = .ok (.bipush (-2), 2) := by decide +kernel
theorem dX8_lack_10 : decode cX8_lack 10 = .ok (.ireturn, 1) := by decide +kernel
theorem dX8_lack_11 : decode cX8_lack 11 = .ok (.aload_n 0, 1) := by decide +kernel
theorem dX8_lack_12 : decode cX8_lack 12 = .ok (.getfield 54, 3) := by decide +kernel
theorem dX8_lack_15 : decode cX8_lack 15 = .ok (.aload_n 0, 1) := by decide +kernel
theorem dX8_lack_16 : decode cX8_lack 16 = .ok (.getfield 33, 3) := by decide +kernel
theorem dX8_lack_19 : decode cX8_lack 19 = .ok (.invokevirtual 148, 3) := by decide +kernel
theorem dX8_lack_22 : decode cX8_lack 22 = .ok (.aload_n 0, 1) := by decide +kernel
theorem dX8_lack_23 : decode cX8_lack 23 = .ok (.getfield 33, 3) := by decide +kernel
theorem dX8_lack_26 : decode cX8_lack 26 = .ok (.invokevirtual 138, 3) := by decide +kernel
theorem dX8_lack_29 : decode cX8_lack 29 = .ok (.aload_n 0, 1) := by decide +kernel
theorem dX8_lack_30 : decode cX8_lack 30 = .ok (.iload_n 1, 1) := by decide +kernel
theorem dX8_lack_31 : decode cX8_lack 31 = .ok (.invokevirtual 207, 3) := by decide +kernel
theorem dX8_lack_34 : decode cX8_lack 34 = .ok (.iconst (-1), 1) := by decide +kernel
theorem dX8_lack_35 : decode cX8_lack 35 = .ok (.ixor, 1) := by decide +kernel
theorem dX8_lack_36 : decode cX8_lack 36 = .ok (.iand, 1) := by decide +kernel
theorem dX8_lack_37 : decode cX8_lack 37 = .ok (.istore_n 2, 1) := by decide +kernel
theorem dX8_lack_38 : decode cX8_lack 38 = .ok (.iconst 0, 1) := by decide +kernel
theorem dX8_lack_39 : decode cX8_lack 39 = .ok (.istore_n 3, 1) := by decide +kernel
theorem dX8_lack_40 : decode cX8_lack 40 = .ok (.iconst 0, 1) := by decide +kernel
theorem dX8_lack_41 : decode cX8_lack 41 = .ok (.istore 4, 2) := by decide +kernel
theorem dX8_lack_43 : decode cX8_lack 43 = .ok (.iload 4, 2) := by decide +kernel
theorem dX8_lack_45 : decode cX8_lack 45 = .ok (.aload_n 0, 1) := by decide +kernel
theorem dX8_lack_46 : decode cX8_lack 46 = .ok (.getfield 33, 3) := by decide +kernel
theorem dX8_lack_49 : decode cX8_lack 49 = .ok (.getfield 210, 3) := by decide +kernel
theorem dX8_lack_52 : decode cX8_lack 52 = .ok (.if_icmp .ge 38, 3) := by decide +kernel
theorem dX8_lack_55 : decode cX8_lack 55 = .ok (.iload_n 2, 1) := by decide +kernel
theorem dX8_lack_56 : decode cX8_lack 56 = .ok (.iload 4, 2) := by decide +kernel
theorem dX8_lack_58 : decode cX8_lack 58 = .ok (.invokestatic 272, 3) := by decide +kernel
theorem dX8_lack_61 : decode cX8_lack 61 = .ok (.ifCond .eq 23, 3) := by decide +kernel
theorem dX8_lack_64 : decode cX8_lack 64 = .ok (.iload_n 3, 1) := by decide +kernel
theorem dX8_lack_65 : decode cX8_lack 65 = .ok (.aload_n 0, 1) := by decide +kernel
theorem dX8_lack_66 : decode cX8_lack 66 = .ok (.getfield 33, 3) := by decide +kernel
theorem dX8_lack_69 : decode cX8_lack 69 = .ok (.getfield 131, 3) := by decide +kernel
theorem dX8_lack_72 : decode cX8_lack 72 = .ok (.iload 4, 2) := by decide +kernel
theorem dX8_lack_74 : decode cX8_lack 74 = .ok (.iaload, 1) := by decide +kernel
theorem dX8_lack_75 : decode cX8_lack 75 = .ok (.aload_n 0, 1) := by decide +kernel
theorem dX8_lack_76 : decode cX8_lack 76 = .ok (.iload 4, 2) := by decide +kernel
theorem dX8_lack_78 : decode cX8_lack 78 = .ok (.invokevirtual 192, 3) := by decide +kernel
theorem dX8_lack_81 : decode cX8_lack 81 = .ok (.isub, 1) := by decide +kernel
theorem dX8_lack_82 : decode cX8_lack 82 = .ok (.iadd, 1) := by decide +kernel
theorem dX8_lack_83 : decode cX8_lack 83 = .ok (.istore_n 3, 1) := by decide +kernel
theorem dX8_lack_84 : decode cX8_lack 84 = .ok (.iinc 4 1, 3) := by decide +kernel
theorem dX8_lack_87 : decode cX8_lack 87 = .ok (.goto (-44), 3) := by decide +kernel
theorem dX8_lack_90 : decode cX8_lack 90 = .ok (.iload_n 3, 1) := by decide +kernel
theorem dX8_lack_91 : decode cX8_lack 91 = .ok (.ireturn, 1) := by decide +kernel
theorem dX8_last_0 : decode cX8_last 0 = .ok (.aload_n 0, 1) := by decide +kernel
theorem dX8_last_1 : decode cX8_last 1 = .ok (.invokevirtual 134, 3) := by decide +kernel
theorem dX8_last_4 : decode cX8_last 4 = .ok (.ifCond .ne 6, 3) := by decide +kernel
theorem dX8_last_7 : decode cX8_last 7 = .ok (.bipush (-2), 2) := by decide +kernel
theorem dX8_last_9 : decode cX8_last 9 = .ok (.ireturn, 1) := by decide +kernel
theorem dX8_last_10 : decode cX8_last 10 = .ok (.aload_n 0, 1) := by decide +kernel
theorem dX8_last_11 : decode cX8_last 11 = .ok (.invokevirtual 233, 3) := by decide +kernel
theorem dX8_last_14 : decode cX8_last 14 = .ok (.invokestatic 236, 3) := by decide +kernel
theorem dX8_last_17 : decode cX8_last 17 = .ok (.ireturn, 1) := by decide +kernel
theorem dX8_law_0 : decode cX8_law 0 = .ok (.aload_n 0, 1) := by decide +kernel
theorem dX8_law_1 : decode cX8_law 1 = .ok (.invokevirtual 134, 3) := by decide +kernel
theorem dX8_law_4 : decode cX8_law 4 = .ok (.ifCond .ne 6, 3) := by decide +kernel
theorem dX8_law_7 : decode cX8_law 7 = .ok (.bipush (-2), 2) := by decide +kernel
theorem dX8_law_9 : decode cX8_law 9 = .ok (.ireturn, 1) := by decide +kernel
theorem dX8_law_10 : decode cX8_law 10 = .ok (.iconst 0, 1) := by decide +kernel
theorem dX8_law_11 : decode cX8_law 11 = .ok (.istore_n 1, 1) := by decide +kernel
theorem dX8_law_12 : decode cX8_law 12 = .ok (.aload_n 0, 1) := by decide +kernel
theorem dX8_law_13 : decode cX8_law 13 = .ok (.iconst 0, 1) := by decide +kernel
theorem dX8_law_14 : decode cX8_law 14 = .ok (.invokevirtual 311, 3) := by decide +kernel
theorem dX8_law_17 : decode cX8_law 17 = .ok (.istore_n 2, 1) := by decide +kernel
theorem dX8_law_18 : decode cX8_law 18 = .ok (.iconst 1, 1) := by decide +kernel
theorem dX8_law_19 : decode cX8_law 19 = .ok (.istore_n 3, 1) := by decide +kernel
theorem dX8_law_20 : decode cX8_law 20 = .ok (.iload_n 3, 1) := by decide +kernel
theorem dX8_law_21 : decode cX8_law 21 = .ok (.iconst 4, 1) := by decide +kernel
theorem dX8_law_22 : decode cX8_law 22 = .ok (.if_icmp .ge 27, 3) := by decide +kernel
theorem dX8_law_25 : decode cX8_law 25 = .ok (.aload_n 0, 1) := by decide +kernel
theorem dX8_law_26 : decode cX8_law 26 = .ok (.iload_n 3, 1) := by decide +kernel
theorem dX8_law_27 : decode cX8_law 27 = .ok (.invokevirtual 311, 3) := by decide +kernel
theorem dX8_law_30 : decode cX8_law 30 = .ok (.istore 4, 2) := by decide +kernel
theorem dX8_law_32 : decode cX8_law 32 = .ok (.iload 4, 2) := by decide +kernel
theorem dX8_law_34 : decode cX8_law 34 = .ok (.iload_n 2, 1) := by decide +kernel
theorem dX8_law_35 : decode cX8_law 35 = .ok (.if_icmp .le 8, 3) := by decide +kernel
theorem dX8_law_38 : decode cX8_law 38 = .ok (.iload 4, 2) := by decide +kernel
theorem dX8_law_40 : decode cX8_law 40 = .ok (.istore_n 2, 1) := by decide +kernel
theorem dX8_law_41 : decode cX8_law 41 = .ok (.iload_n 3, 1) := by decide +kernel
theorem dX8_law_42 : decode cX8_law 42 = .ok (.istore_n 1, 1) := by decide +kernel
theorem dX8_law_43 : decode cX8_law 43 = .ok (.iinc 3 1, 3) := by decide +kernel
theorem dX8_law_46 : decode cX8_law 46 = .ok (.goto (-26), 3) := by decide +kernel
theorem dX8_law_49 : decode cX8_law 49 = .ok (.iload_n 1, 1) := by decide +kernel
theorem dX8_law_50 : decode cX8_law 50 = .ok (.ireturn, 1) := by decide +kernel
theorem dX8_laws_0 : decode cX8_laws 0 = .ok (.aload_n 0, 1) := by decide +kernel
theorem dX8_laws_1 : decode cX8_laws 1 = .ok (.iload_n 1, 1) := by decide +kernel
theorem dX8_laws_2 : decode cX8_laws 2 = .ok (.invokevirtual 302, 3) := by decide +kernel
theorem dX8_laws_5 : decode cX8_laws 5 = .ok (.istore_n 2, 1) := by decide +kernel
theorem dX8_laws_6 : decode cX8_laws 6 = .ok (.iload_n 2, 1) := by decide +kernel
theorem dX8_laws_7 : decode cX8_laws 7 = .ok (.ifCond .eq 5, 3) := by decide +kernel
theorem dX8_laws_10 : decode cX8_laws 10 = .ok (.iload_n 2, 1) := by decide +kernel
theorem dX8_laws_11 : decode cX8_laws 11 = .ok (.ireturn, 1) := by decide +kernel
theorem dX8_laws_12 : decode cX8_laws 12 = .ok (.aload_n 0, 1) := by decide +kernel
theorem dX8_laws_13 : decode cX8_laws 13 = .ok (.getfield 54, 3) := by decide +kernel
theorem dX8_laws_16 : decode cX8_laws 16 = .ok (.aload_n 0, 1) := by decide +kernel
theorem dX8_laws_17 : decode cX8_laws 17 = .ok (.getfield 33, 3) := by decide +kernel
theorem dX8_laws_20 : decode cX8_laws 20 = .ok (.invokevirtual 148, 3) := by decide +kernel
theorem dX8_laws_23 : decode cX8_laws 23 = .ok (.iconst 0, 1) := by decide +kernel
theorem dX8_laws_24 : decode cX8_laws 24 = .ok (.istore_n 3, 1) := by decide +kernel
theorem dX8_laws_25 : decode cX8_laws 25 = .ok (.iconst 0, 1) := by decide +kernel
theorem dX8_laws_26 : decode cX8_laws 26 = .ok (.istore 4, 2) := by decide +kernel
theorem dX8_laws_28 : decode cX8_laws 28 = .ok (.iload 4, 2) := by decide +kernel
theorem dX8_laws_30 : decode cX8_laws 30 = .ok (.iconst 4, 1) := by decide +kernel
theorem dX8_laws_31 : decode cX8_laws 31 = .ok (.if_icmp .ge 33, 3) := by decide +kernel
theorem dX8_laws_34 : decode cX8_laws 34 = .ok (.aload_n 0, 1) := by decide +kernel
theorem dX8_laws_35 : decode cX8_laws 35 = .ok (.getfield 54, 3) := by decide +kernel
theorem dX8_laws_38 : decode cX8_laws 38 = .ok (.iload 4, 2) := by decide +kernel
theorem dX8_laws_40 : decode cX8_laws 40 = .ok (.putfield 308, 3) := by decide +kernel
theorem dX8_laws_43 : decode cX8_laws 43 = .ok (.aload_n 0, 1) := by decide +kernel
theorem dX8_laws_44 : decode cX8_laws 44 = .ok (.iload_n 1, 1) := by decide +kernel
theorem dX8_laws_45 : decode cX8_laws 45 = .ok (.invokevirtual 305, 3) := by decide +kernel
theorem dX8_laws_48 : decode cX8_laws 48 = .ok (.ifCond .eq 10, 3) := by decide +kernel
theorem dX8_laws_51 : decode cX8_laws 51 = .ok (.iload_n 3, 1) := by decide +kernel
theorem dX8_laws_52 : decode cX8_laws 52 = .ok (.iconst 1, 1) := by decide +kernel
theorem dX8_laws_53 : decode cX8_laws 53 = .ok (.iload 4, 2) := by decide +kernel
theorem dX8_laws_55 : decode cX8_laws 55 = .ok (.ishl, 1) := by decide +kernel
theorem dX8_laws_56 : decode cX8_laws 56 = .ok (.ior, 1) := by decide +kernel
theorem dX8_laws_57 : decode cX8_laws 57 = .ok (.istore_n 3, 1) := by decide +kernel
theorem dX8_laws_58 : decode cX8_laws 58 = .ok (.iinc 4 1, 3) := by decide +kernel
theorem dX8_laws_61 : decode cX8_laws 61 = .ok (.goto (-33), 3) := by decide +kernel
theorem dX8_laws_64 : decode cX8_laws 64 = .ok (.iload_n 3, 1) := by decide +kernel
theorem dX8_laws_65 : decode cX8_laws 65 = .ok (.ireturn, 1) := by decide +kernel
theorem dX8_leak_0 : decode cX8_leak 0 = .ok (.aload_n 0, 1) := by decide +kernel
theorem dX8_leak_1 : decode cX8_leak 1 = .ok (.iload_n 1, 1) := by decide +kernel
theorem dX8_leak_2 : decode cX8_leak 2 = .ok (.invokevirtual 121, 3) := by decide +kernel
theorem dX8_leak_5 : decode cX8_leak 5 = .ok (.ifCond .eq 11, 3) := by decide +kernel
theorem dX8_leak_8 : decode cX8_leak 8 = .ok (.aload_n 0, 1) := by decide +kernel
theorem dX8_leak_9 : decode cX8_leak 9 = .ok (.iload_n 2, 1) := by decide +kernel
theorem dX8_leak_10 : decode cX8_leak 10 = .ok (.invokevirtual 145, 3) := by decide +kernel
theorem dX8_leak_13 : decode cX8_leak 13 = .ok (.ifCond .ne 6, 3) := by decide +kernel
theorem dX8_leak_16 : decode cX8_leak 16 = .ok (.bipush (-2), 2) := by decide +kernel
theorem dX8_leak_18 : decode cX8_leak 18 = .ok (.ireturn, 1) := by decide +kernel
theorem dX8_leak_19 : decode cX8_leak 19 = .ok (.aload_n 0, 1) := by decide +kernel
theorem dX8_leak_20 : decode cX8_leak 20 = .ok (.getfield 54, 3) := by decide +kernel
theorem dX8_leak_23 : decode cX8_leak 23 = .ok (.aload_n 0, 1) := by decide +kernel
theorem dX8_leak_24 : decode cX8_leak 24 = .ok (.getfield 33, 3) := by decide +kernel
theorem dX8_leak_27 : decode cX8_leak 27 = .ok (.invokevirtual 148, 3) := by decide +kernel
theorem dX8_leak_30 : decode cX8_leak 30 = .ok (.aload_n 0, 1) := by decide +kernel
theorem dX8_leak_31 : decode cX8_leak 31 = .ok (.getfield 54, 3) := by decide +kernel
theorem dX8_leak_34 : decode cX8_leak 34 = .ok (.aload_n 0, 1) := by decide +kernel
theorem dX8_leak_35 : decode cX8_leak 35 = .ok (.getfield 33, 3) := by decide +kernel
theorem dX8_leak_38 : decode cX8_leak 38 = .ok (.iload_n 1, 1) := by decide +kernel
theorem dX8_leak_39 : decode cX8_leak 39 = .ok (.iload_n 2, 1) := by decide +kernel
theorem dX8_leak_40 : decode cX8_leak 40 = .ok (.invokevirtual 151, 3) := by decide +kernel
theorem dX8_leak_43 : decode cX8_leak 43 = .ok (.ireturn, 1) := by decide +kernel
theorem dX8_leastBattery_0 : decode cX8_leastBattery 0 = .ok (.lconst 1, 1) := by decide +kernel
theorem dX8_leastBattery_1 : decode cX8_leastBattery 1 = .ok (.lstore_n 1, 1) := by decide +kernel
theorem dX8_leastBattery_2 : decode cX8_leastBattery 2 = .ok (.iconst 0, 1) := by decide +kernel
theorem dX8_leastBattery_3 : decode cX8_leastBattery 3 = .ok (.istore_n 3, 1) := by decide +kernel
theorem dX8_leastBattery_4 : decode cX8_leastBattery 4 = .ok (.iload_n 3, 1) := by decide +kernel
theorem dX8_leastBattery_5 : decode cX8_leastBattery 5 = .ok (.aload_n 0, 1) := by decide +kernel
theorem dX8_leastBattery_6 : decode cX8_leastBattery 6 = .ok (.getfield 33, 3) := by decide +kernel
theorem dX8_leastBattery_9 : decode cX8_leastBattery 9 = .ok (.getfield 210, 3) := by decide +kernel
theorem dX8_leastBattery_12 : decode cX8_leastBattery 12 = .ok (.if_icmp .ge 80, 3) := by decide +kernel
theorem dX8_leastBattery_15 : decode cX8_leastBattery 15 = .ok (.aload_n 0, 1) := by decide +kernel
theorem dX8_leastBattery_16 : decode cX8_leastBattery 16 = .ok (.iload_n 3, 1) := by decide +kernel
theorem dX8_leastBattery_17 : decode cX8_leastBattery 17 = .ok (.invokevirtual 213, 3) := by decide +kernel
theorem dX8_leastBattery_20 : decode cX8_leastBattery 20 = .ok (.ifCond .eq 66, 3) := by decide +kernel
theorem dX8_leastBattery_23 : decode cX8_leastBattery 23 = .ok (.aload_n 0, 1) := by decide +kernel
theorem dX8_leastBattery_24 : decode cX8_leastBattery 24 = .ok (.getfield 33, 3) := by decide +kernel
theorem dX8_leastBattery_27 : decode cX8_leastBattery 27 = .ok (.getfield 131, 3) := by decide +kernel
theorem dX8_leastBattery_30 : decode cX8_leastBattery 30 = .ok (.iload_n 3, 1) := by decide +kernel
theorem dX8_leastBattery_31 : decode cX8_leastBattery 31 = .ok (.iaload, 1) := by decide +kernel
theorem dX8_leastBattery_32 : decode cX8_leastBattery 32 = .ok (.ifCond .le 54, 3) := by decide +kernel
theorem dX8_leastBattery_35 : decode cX8_leastBattery 35 = .ok (.aload_n 0, 1) := by decide +kernel
theorem dX8_leastBattery_36 : decode cX8_leastBattery 36 = .ok (.getfield 61, 3) := by decide +kernel
theorem dX8_leastBattery_39 : decode cX8_leastBattery 39 = .ok (.getfield 190, 3) := by decide +kernel
theorem dX8_leastBattery_42 : decode cX8_leastBattery 42 = .ok (.iload_n 3, 1) := by decide +kernel
theorem dX8_leastBattery_43 : decode cX8_leastBattery 43 = .ok (.laload, 1) := by decide +kernel
theorem dX8_leastBattery_44 : decode cX8_leastBattery 44 = .ok (.lstore 4, 2) := by decide +kernel
theorem dX8_leastBattery_46 : decode cX8_leastBattery 46 = .ok (.lload 4, 2) := by decide +kernel
theorem dX8_leastBattery_48 : decode cX8_leastBattery 48 = .ok (.lconst 0, 1) := by decide +kernel
theorem dX8_leastBattery_49 : decode cX8_leastBattery 49 = .ok (.lcmp, 1) := by decide +kernel
theorem dX8_leastBattery_50 : decode cX8_leastBattery 50 = .ok (.ifCond .gt 5, 3) := by decide +kernel
theorem dX8_leastBattery_53 : decode cX8_leastBattery 53 = .ok (.iconst (-1), 1) := by decide +kernel
theorem dX8_leastBattery_54 : decode cX8_leastBattery 54 = .ok (.ireturn, 1) := by decide +kernel
theorem dX8_leastBattery_55 : decode cX8_leastBattery 55 = .ok (.lload_n 1, 1) := by decide +kernel
theorem dX8_leastBattery_56 : decode cX8_leastBattery 56 = .ok (.aload_n 0, 1) := by decide +kernel
theorem dX8_leastBattery_57 : decode cX8_leastBattery 57 = .ok (.getfield 33, 3) := by decide +kernel
theorem dX8_leastBattery_60 : decode cX8_leastBattery 60 = .ok (.getfield 131, 3) := by decide +kernel
theorem dX8_leastBattery_63 : decode cX8_leastBattery 63 = .ok (.iload_n 3, 1) := by decide +kernel
theorem dX8_leastBattery_64 : decode cX8_leastBattery 64 = .ok (.iaload, 1) := by decide +kernel
theorem dX8_leastBattery_65 : decode cX8_leastBattery 65 = .ok (.i2l, 1) := by decide +kernel
theorem dX8_leastBattery_66 : decode cX8_leastBattery 66 = .ok (.aload_n 0, 1) := by decide +kernel
theorem dX8_leastBattery_67 : decode cX8_leastBattery 67 = .ok (.getfield 61, 3) := by decide +kernel
theorem dX8_leastBattery_70 : decode cX8_leastBattery 70 = .ok (.getfield 182, 3) := by decide +kernel
theorem dX8_leastBattery_73 : decode cX8_leastBattery 73 = .ok (.lmul, 1) := by decide +kernel
theorem dX8_leastBattery_74 : decode cX8_leastBattery 74 = .ok (.lload 4, 2) := by decide +kernel
theorem dX8_leastBattery_76 : decode cX8_leastBattery 76 = .ok (.ladd, 1) := by decide +kernel
theorem dX8_leastBattery_77 : decode cX8_leastBattery 77 = .ok (.lconst 1, 1) := by decide +kernel
theorem dX8_leastBattery_78 : decode cX8_leastBattery 78 = .ok (.lsub, 1) := by decide +kernel
theorem dX8_leastBattery_79 : decode cX8_leastBattery 79 = .ok (.lload 4, 2) := by decide +kernel
theorem dX8_leastBattery_81 : decode cX8_leastBattery 81 = .ok (.ldiv, 1) := by decide +kernel
theorem dX8_leastBattery_82 : decode cX8_leastBattery 82 = .ok (.invokestatic 412, 3) := by decide +kernel
theorem dX8_leastBattery_85 : decode cX8_leastBattery 85 = .ok (.lstore_n 1, 1) := by decide +kernel
theorem dX8_leastBattery_86 : decode cX8_leastBattery 86 = .ok (.iinc 3 1, 3) := by decide +kernel
theorem dX8_leastBattery_89 : decode cX8_leastBattery 89 = .ok (.goto (-85), 3) := by decide +kernel
theorem dX8_leastBattery_92 : decode cX8_leastBattery 92 = .ok (.lload_n 1, 1) := by decide +kernel
theorem dX8_leastBattery_93 : decode cX8_leastBattery 93 = .ok (.ldc2_w 415, 3) := by decide +kernel
theorem dX8_leastBattery_96 : decode cX8_leastBattery 96 = .ok (.lcmp, 1) := by decide +kernel
theorem dX8_leastBattery_97 : decode cX8_leastBattery 97 = .ok (.ifCond .le 7, 3) := by decide +kernel
theorem dX8_leastBattery_100 : decode cX8_leastBattery 100 = .ok (.iconst (-1), 1) := by decide +kernel
theorem dX8_leastBattery_101 : decode cX8_leastBattery 101 = .ok (.goto 5, 3) := by decide +kernel
theorem dX8_leastBattery_104 : decode cX8_leastBattery 104 = .ok (.lload_n 1, 1) := by decide +kernel
theorem dX8_leastBattery_105 : decode cX8_leastBattery 105 = .ok (.l2i, 1) := by decide +kernel
theorem dX8_leastBattery_106 : decode cX8_leastBattery 106 = .ok (.ireturn, 1) := by decide +kernel
theorem dX8_leastCure_0 : decode cX8_leastCure 0 = .ok (.aload_n 0, 1) := by decide +kernel
theorem dX8_leastCure_1 : decode cX8_leastCure 1 = .ok (.getfield 54, 3) := by decide +kernel
theorem dX8_leastCure_4 : decode cX8_leastCure 4 = .ok (.aload_n 0, 1) := by decide +kernel
theorem dX8_leastCure_5 : decode cX8_leastCure 5 = .ok (.getfield 33, 3) := by decide +kernel
theorem dX8_leastCure_8 : decode cX8_leastCure 8 = .ok (.invokevirtual 148, 3) := by decide +kernel
theorem dX8_leastCure_11 : decode cX8_leastCure 11 = .ok (.iconst (-1), 1) := by decide +kernel
theorem dX8_leastCure_12 : decode cX8_leastCure 12 = .ok (.istore_n 2, 1) := by decide +kernel
theorem dX8_leastCure_13 : decode cX8_leastCure 13 = .ok (.iconst 0, 1) := by decide +kernel
theorem dX8_leastCure_14 : decode cX8_leastCure 14 = .ok (.istore_n 3, 1) := by decide +kernel
theorem dX8_leastCure_15 : decode cX8_leastCure 15 = .ok (.iload_n 3, 1) := by decide +kernel
theorem dX8_leastCure_16 : decode cX8_leastCure 16 = .ok (.aload_n 0, 1) := by decide +kernel
theorem dX8_leastCure_17 : decode cX8_leastCure 17 = .ok (.invokevirtual 257, 3) := by decide +kernel
theorem dX8_leastCure_20 : decode cX8_leastCure 20 = .ok (.if_icmp .gt 50, 3) := by decide +kernel
theorem dX8_leastCure_23 : decode cX8_leastCure 23 = .ok (.iload_n 2, 1) := by decide +kernel
theorem dX8_leastCure_24 : decode cX8_leastCure 24 = .ok (.iconst (-1), 1) := by decide +kernel
theorem dX8_leastCure_25 : decode cX8_leastCure 25 = .ok (.if_icmp .eq 14, 3) := by decide +kernel
theorem dX8_leastCure_28 : decode cX8_leastCure 28 = .ok (.iload_n 3, 1) := by decide +kernel
theorem dX8_leastCure_29 : decode cX8_leastCure 29 = .ok (.invokestatic 227, 3) := by decide +kernel
theorem dX8_leastCure_32 : decode cX8_leastCure 32 = .ok (.iload_n 2, 1) := by decide +kernel
theorem dX8_leastCure_33 : decode cX8_leastCure 33 = .ok (.invokestatic 227, 3) := by decide +kernel
theorem dX8_leastCure_36 : decode cX8_leastCure 36 = .ok (.if_icmp .ge 28, 3) := by decide +kernel
theorem dX8_leastCure_39 : decode cX8_leastCure 39 = .ok (.aload_n 0, 1) := by decide +kernel
theorem dX8_leastCure_40 : decode cX8_leastCure 40 = .ok (.getfield 54, 3) := by decide +kernel
theorem dX8_leastCure_43 : decode cX8_leastCure 43 = .ok (.iload_n 3, 1) := by decide +kernel
theorem dX8_leastCure_44 : decode cX8_leastCure 44 = .ok (.putfield 409, 3) := by decide +kernel
theorem dX8_leastCure_47 : decode cX8_leastCure 47 = .ok (.aload_n 0, 1) := by decide +kernel
theorem dX8_leastCure_48 : decode cX8_leastCure 48 = .ok (.iload_n 1, 1) := by decide +kernel
theorem dX8_leastCure_49 : decode cX8_leastCure 49 = .ok (.invokevirtual 207, 3) := by decide +kernel
theorem dX8_leastCure_52 : decode cX8_leastCure 52 = .ok (.aload_n 0, 1) := by decide +kernel
theorem dX8_leastCure_53 : decode cX8_leastCure 53 = .ok (.getfield 33, 3) := by decide +kernel
theorem dX8_leastCure_56 : decode cX8_leastCure 56 = .ok (.invokevirtual 138, 3) := by decide +kernel
theorem dX8_leastCure_59 : decode cX8_leastCure 59 = .ok (.if_icmp .ne 5, 3) := by decide +kernel
theorem dX8_leastCure_62 : decode cX8_leastCure 62 = .ok (.iload_n 3, 1) := by decide +kernel
theorem dX8_leastCure_63 : decode cX8_leastCure 63 = .ok (.istore_n 2, 1) := by decide +kernel
theorem dX8_leastCure_64 : decode cX8_leastCure 64 = .ok (.iinc 3 1, 3) := by decide +kernel
theorem dX8_leastCure_67 : decode cX8_leastCure 67 = .ok (.goto (-52), 3) := by decide +kernel
theorem dX8_leastCure_70 : decode cX8_leastCure 70 = .ok (.iload_n 2, 1) := by decide +kernel
theorem dX8_leastCure_71 : decode cX8_leastCure 71 = .ok (.ireturn, 1) := by decide +kernel
theorem dX8_leaves_0 : decode cX8_leaves 0 = .ok (.aload_n 0, 1) := by decide +kernel
theorem dX8_leaves_1 : decode cX8_leaves 1 = .ok (.iload_n 1, 1) := by decide +kernel
theorem dX8_leaves_2 : decode cX8_leaves 2 = .ok (.iload_n 2, 1) := by decide +kernel
theorem dX8_leaves_3 : decode cX8_leaves 3 = .ok (.invokevirtual 289, 3) := by decide +kernel
theorem dX8_leaves_6 : decode cX8_leaves 6 = .ok (.istore_n 3, 1) := by decide +kernel
theorem dX8_leaves_7 : decode cX8_leaves 7 = .ok (.iload_n 3, 1) := by decide +kernel
theorem dX8_leaves_8 : decode cX8_leaves 8 = .ok (.ifCond .eq 5, 3) := by decide +kernel
theorem dX8_leaves_11 : decode cX8_leaves 11 = .ok (.iload_n 3, 1) := by decide +kernel
theorem dX8_leaves_12 : decode cX8_leaves 12 = .ok (.ireturn, 1) := by decide +kernel
theorem dX8_leaves_13 : decode cX8_leaves 13 = .ok (.aload_n 0, 1) := by decide +kernel
theorem dX8_leaves_14 : decode cX8_leaves 14 = .ok (.iload_n 1, 1) := by decide +kernel
theorem dX8_leaves_15 : decode cX8_leaves 15 = .ok (.iload_n 2, 1) := by decide +kernel
theorem dX8_leaves_16 : decode cX8_leaves 16 = .ok (.invokevirtual 292, 3) := by decide +kernel
theorem dX8_leaves_19 : decode cX8_leaves 19 = .ok (.istore 4, 2) := by decide +kernel
theorem dX8_leaves_21 : decode cX8_leaves 21 = .ok (.aload_n 0, 1) := by decide +kernel
theorem dX8_leaves_22 : decode cX8_leaves 22 = .ok (.iload 4, 2) := by decide +kernel
theorem dX8_leaves_24 : decode cX8_leaves 24 = .ok (.iload_n 2, 1) := by decide +kernel
theorem dX8_leaves_25 : decode cX8_leaves 25 = .ok (.invokevirtual 295, 3) := by decide +kernel
theorem dX8_leaves_28 : decode cX8_leaves 28 = .ok (.istore 5, 2) := by decide +kernel
theorem dX8_leaves_30 : decode cX8_leaves 30 = .ok (.iload 5, 2) := by decide +kernel
theorem dX8_leaves_32 : decode cX8_leaves 32 = .ok (.iconst (-1), 1) := by decide +kernel
theorem dX8_leaves_33 : decode cX8_leaves 33 = .ok (.if_icmp .ne 11, 3) := by decide +kernel
theorem dX8_leaves_36 : decode cX8_leaves 36 = .ok (.iload 4, 2) := by decide +kernel
theorem dX8_leaves_38 : decode cX8_leaves 38 = .ok (.invokestatic 227, 3) := by decide +kernel
theorem dX8_leaves_41 : decode cX8_leaves 41 = .ok (.goto 12, 3) := by decide +kernel
theorem dX8_leaves_44 : decode cX8_leaves 44 = .ok (.aload_n 0, 1) := by decide +kernel
theorem dX8_leaves_45 : decode cX8_leaves 45 = .ok (.iload 4, 2) := by decide +kernel
theorem dX8_leaves_47 : decode cX8_leaves 47 = .ok (.iload_n 2, 1) := by decide +kernel
theorem dX8_leaves_48 : decode cX8_leaves 48 = .ok (.iload 5, 2) := by decide +kernel
theorem dX8_leaves_50 : decode cX8_leaves 50 = .ok (.invokevirtual 298, 3) := by decide +kernel
theorem dX8_leaves_53 : decode cX8_leaves 53 = .ok (.ireturn, 1) := by decide +kernel
theorem dX8_leftAtWorst_0 : decode cX8_leftAtWorst 0 = .ok (.aload_n 0, 1) := by decide +kernel
theorem dX8_leftAtWorst_1 : decode cX8_leftAtWorst 1 = .ok (.iload_n 1, 1) := by decide +kernel
theorem dX8_leftAtWorst_2 : decode cX8_leftAtWorst 2 = .ok (.iload_n 2, 1) := by decide +kernel
theorem dX8_leftAtWorst_3 : decode cX8_leftAtWorst 3 = .ok (.iload_n 3, 1) := by decide +kernel
theorem dX8_leftAtWorst_4 : decode cX8_leftAtWorst 4 = .ok (.invokevirtual 427, 3) := by decide +kernel
theorem dX8_leftAtWorst_7 : decode cX8_leftAtWorst 7 = .ok (.iconst 0, 1) := by decide +kernel
theorem dX8_leftAtWorst_8 : decode cX8_leftAtWorst 8 = .ok (.istore 4, 2) := by decide +kernel
theorem dX8_leftAtWorst_10 : decode cX8_leftAtWorst 10 = .ok (.iconst 1, 1) := by decide +kernel
theorem dX8_leftAtWorst_11 : decode cX8_leftAtWorst 11 = .ok (.istore 5, 2) := by decide +kernel
theorem dX8_leftAtWorst_13 : decode cX8_leftAtWorst 13 = .ok (.iload 5, 2) := by decide +kernel
theorem dX8_leftAtWorst_15 : decode cX8_leftAtWorst 15 = .ok (.bipush 30, 2) := by decide +kernel
theorem dX8_leftAtWorst_17 : decode cX8_leftAtWorst 17 = .ok (.if_icmp .gt 32, 3) := by decide +kernel
theorem dX8_leftAtWorst_20 : decode cX8_leftAtWorst 20 = .ok (.iload_n 1, 1) := by decide +kernel
theorem dX8_leftAtWorst_21 : decode cX8_leftAtWorst 21 = .ok (.iload 5, 2) := by decide +kernel
theorem dX8_leftAtWorst_23 : decode cX8_leftAtWorst 23 = .ok (.invokestatic 272, 3) := by decide +kernel
theorem dX8_leftAtWorst_26 : decode cX8_leftAtWorst 26 = .ok (.ifCond .eq 17, 3) := by decide +kernel
theorem dX8_leftAtWorst_29 : decode cX8_leftAtWorst 29 = .ok (.iload 4, 2) := by decide +kernel
theorem dX8_leftAtWorst_31 : decode cX8_leftAtWorst 31 = .ok (.aload_n 0, 1) := by decide +kernel
theorem dX8_leftAtWorst_32 : decode cX8_leftAtWorst 32 = .ok (.iload_n 1, 1) := by decide +kernel
theorem dX8_leftAtWorst_33 : decode cX8_leftAtWorst 33 = .ok (.iload 5, 2) := by decide +kernel
theorem dX8_leftAtWorst_35 : decode cX8_leftAtWorst 35 = .ok (.invokevirtual 430, 3) := by decide +kernel
theorem dX8_leftAtWorst_38 : decode cX8_leftAtWorst 38 = .ok (.invokestatic 249, 3) := by decide +kernel
theorem dX8_leftAtWorst_41 : decode cX8_leftAtWorst 41 = .ok (.istore 4, 2) := by decide +kernel
theorem dX8_leftAtWorst_43 : decode cX8_leftAtWorst 43 = .ok (.iinc 5 1, 3) := by decide +kernel
theorem dX8_leftAtWorst_46 : decode cX8_leftAtWorst 46 = .ok (.goto (-33), 3) := by decide +kernel
theorem dX8_leftAtWorst_49 : decode cX8_leftAtWorst 49 = .ok (.iload 4, 2) := by decide +kernel
theorem dX8_leftAtWorst_51 : decode cX8_leftAtWorst 51 = .ok (.ireturn, 1) := by decide +kernel
theorem dX8_listenAsTold_0 : decode cX8_listenAsTold 0 = .ok (.aload_n 0, 1) := by decide +kernel
theorem dX8_listenAsTold_1 : decode cX8_listenAsTold 1 = .ok (.getfield 54, 3) := by decide +kernel
theorem dX8_listenAsTold_4 : decode cX8_listenAsTold 4 = .ok (.aload_n 0, 1) := by decide +kernel
theorem dX8_listenAsTold_5 : decode cX8_listenAsTold 5 = .ok (.getfield 33, 3) := by decide +kernel
theorem dX8_listenAsTold_8 : decode cX8_listenAsTold 8 = .ok (.invokevirtual 148, 3) := by decide +kernel
theorem dX8_listenAsTold_11 : decode cX8_listenAsTold 11 = .ok (.iconst 0, 1) := by decide +kernel
theorem dX8_listenAsTold_12 : decode cX8_listenAsTold 12 = .ok (.istore_n 1, 1) := by decide +kernel
theorem dX8_listenAsTold_13 : decode cX8_listenAsTold 13 = .ok (.iload_n 1, 1) := by decide +kernel
theorem dX8_listenAsTold_14 : decode cX8_listenAsTold 14 = .ok (.aload_n 0, 1) := by decide +kernel
theorem dX8_listenAsTold_15 : decode cX8_listenAsTold 15 = .ok (.getfield 33, 3) := by decide +kernel
theorem dX8_listenAsTold_18 : decode cX8_listenAsTold 18 = .ok (.getfield 242, 3) := by decide +kernel
theorem dX8_listenAsTold_21 : decode cX8_listenAsTold 21 = .ok (.if_icmp .gt 20, 3) := by decide +kernel
theorem dX8_listenAsTold_24 : decode cX8_listenAsTold 24 = .ok (.aload_n 0, 1) := by decide +kernel
theorem dX8_listenAsTold_25 : decode cX8_listenAsTold 25 = .ok (.getfield 72, 3) := by decide +kernel
theorem dX8_listenAsTold_28 : decode cX8_listenAsTold 28 = .ok (.iload_n 1, 1) := by decide +kernel
theorem dX8_listenAsTold_29 : decode cX8_listenAsTold 29 = .ok (.aload_n 0, 1) := by decide +kernel
theorem dX8_listenAsTold_30 : decode cX8_listenAsTold 30 = .ok (.iload_n 1, 1) := by decide +kernel
theorem dX8_listenAsTold_31 : decode cX8_listenAsTold 31 = .ok (.invokevirtual 207, 3) := by decide +kernel
theorem dX8_listenAsTold_34 : decode cX8_listenAsTold 34 = .ok (.iastore, 1) := by decide +kernel
theorem dX8_listenAsTold_35 : decode cX8_listenAsTold 35 = .ok (.iinc 1 1, 3) := by decide +kernel
theorem dX8_listenAsTold_38 : decode cX8_listenAsTold 38 = .ok (.goto (-25), 3) := by decide +kernel
theorem dX8_listenAsTold_41 : decode cX8_listenAsTold 41 = .ok (.return_, 1) := by decide +kernel
theorem dX8_longest_0 : decode cX8_longest 0 = .ok (.aload_n 0, 1) := by decide +kernel
theorem dX8_longest_1 : decode cX8_longest 1 = .ok (.iload_n 1, 1) := by decide +kernel
theorem dX8_longest_2 : decode cX8_longest 2 = .ok (.invokevirtual 213, 3) := by decide +kernel
theorem dX8_longest_5 : decode cX8_longest 5 = .ok (.ifCond .ne 6, 3) := by decide +kernel
theorem dX8_longest_8 : decode cX8_longest 8 = .ok (.bipush (-2), 2) := by decide +kernel
theorem dX8_longest_10 : decode cX8_longest 10 = .ok (.ireturn, 1) := by decide +kernel
theorem dX8_longest_11 : decode cX8_longest 11 = .ok (.aload_n 0, 1) := by decide +kernel
theorem dX8_longest_12 : decode cX8_longest 12 = .ok (.iload_n 1, 1) := by decide +kernel
theorem dX8_longest_13 : decode cX8_longest 13 = .ok (.invokevirtual 219, 3) := by decide +kernel
theorem dX8_longest_16 : decode cX8_longest 16 = .ok (.invokestatic 230, 3) := by decide +kernel
theorem dX8_longest_19 : decode cX8_longest 19 = .ok (.ireturn, 1) := by decide +kernel
theorem dX8_longestRun_0 : decode cX8_longestRun 0 = .ok (.iconst 0, 1) := by decide +kernel
theorem dX8_longestRun_1 : decode cX8_longestRun 1 = .ok (.istore_n 1, 1) := by decide +kernel
theorem dX8_longestRun_2 : decode cX8_longestRun 2 = .ok (.iconst 0, 1) := by decide +kernel
theorem dX8_longestRun_3 : decode cX8_longestRun 3 = .ok (.istore_n 2, 1) := by decide +kernel
theorem dX8_longestRun_4 : decode cX8_longestRun 4 = .ok (.iconst 0, 1) := by decide +kernel
theorem dX8_longestRun_5 : decode cX8_longestRun 5 = .ok (.istore_n 3, 1) := by decide +kernel
theorem dX8_longestRun_6 : decode cX8_longestRun 6 = .ok (.iload_n 3, 1) := by decide +kernel
theorem dX8_longestRun_7 : decode cX8_longestRun 7 = .ok (.bipush 14, 2) := by decide +kernel
theorem dX8_longestRun_9 : decode cX8_longestRun 9 = .ok (.if_icmp .ge 31, 3) := by decide +kernel
theorem dX8_longestRun_12 : decode cX8_longestRun 12 = .ok (.iload_n 0, 1) := by decide +kernel
theorem dX8_longestRun_13 : decode cX8_longestRun 13 = .ok (.iload_n 3, 1) := by decide +kernel
theorem dX8_longestRun_14 : decode cX8_longestRun 14 = .ok (.invokestatic 272, 3) := by decide +kernel
theorem dX8_longestRun_17 : decode cX8_longestRun 17 = .ok (.ifCond .eq 9, 3) := by decide +kernel
theorem dX8_longestRun_20 : decode cX8_longestRun 20 = .ok (.iload_n 2, 1) := by decide +kernel
theorem dX8_longestRun_21 : decode cX8_longestRun 21 = .ok (.iconst 1, 1) := by decide +kernel
theorem dX8_longestRun_22 : decode cX8_longestRun 22 = .ok (.iadd, 1) := by decide +kernel
theorem dX8_longestRun_23 : decode cX8_longestRun 23 = .ok (.goto 4, 3) := by decide +kernel
theorem dX8_longestRun_26 : decode cX8_longestRun 26 = .ok (.iconst 0, 1) := by decide +kernel
theorem dX8_longestRun_27 : decode cX8_longestRun 27 = .ok (.istore_n 2, 1) := by decide +kernel
theorem dX8_longestRun_28 : decode cX8_longestRun 28 = .ok (.iload_n 1, 1) := by decide +kernel
theorem dX8_longestRun_29 : decode cX8_longestRun 29 = .ok (.iload_n 2, 1) := by decide +kernel
theorem dX8_longestRun_30 : decode cX8_longestRun 30 = .ok (.invokestatic 249, 3) := by decide +kernel
theorem dX8_longestRun_33 : decode cX8_longestRun 33 = .ok (.istore_n 1, 1) := by decide +kernel
theorem dX8_longestRun_34 : decode cX8_longestRun 34 = .ok (.iinc 3 1, 3) := by decide +kernel
theorem dX8_longestRun_37 : decode cX8_longestRun 37 = .ok (.goto (-31), 3) := by decide +kernel
theorem dX8_longestRun_40 : decode cX8_longestRun 40 = .ok (.iload_n 1, 1) := by decide +kernel
theorem dX8_longestRun_41 : decode cX8_longestRun 41 = .ok (.ireturn, 1) := by decide +kernel
theorem dX8_loud_0 : decode cX8_loud 0 = .ok (.aload_n 0, 1) := by decide +kernel
theorem dX8_loud_1 : decode cX8_loud 1 = .ok (.iload_n 1, 1) := by decide +kernel
theorem dX8_loud_2 : decode cX8_loud 2 = .ok (.invokevirtual 145, 3) := by decide +kernel
theorem dX8_loud_5 : decode cX8_loud 5 = .ok (.ifCond .ne 6, 3) := by decide +kernel
theorem dX8_loud_8 : decode cX8_loud 8 = .ok (.bipush (-2), 2) := by decide +kernel
theorem dX8_loud_10 : decode cX8_loud 10 = .ok (.ireturn, 1) := by decide +kernel
theorem dX8_loud_11 : decode cX8_loud 11 = .ok (.aload_n 0, 1) := by decide +kernel
theorem dX8_loud_12 : decode cX8_loud 12 = .ok (.iload_n 1, 1) := by decide +kernel
theorem dX8_loud_13 : decode cX8_loud 13 = .ok (.invokevirtual 164, 3) := by decide +kernel
theorem dX8_loud_16 : decode cX8_loud 16 = .ok (.iconst (-1), 1) := by decide +kernel
theorem dX8_loud_17 : decode cX8_loud 17 = .ok (.istore_n 2, 1) := by decide +kernel
theorem dX8_loud_18 : decode cX8_loud 18 = .ok (.iconst 0, 1) := by decide +kernel
theorem dX8_loud_19 : decode cX8_loud 19 = .ok (.istore_n 3, 1) := by decide +kernel
theorem dX8_loud_20 : decode cX8_loud 20 = .ok (.iload_n 3, 1) := by decide +kernel
theorem dX8_loud_21 : decode cX8_loud 21 = .ok (.aload_n 0, 1) := by decide +kernel
theorem dX8_loud_22 : decode cX8_loud 22 = .ok (.getfield 33, 3) := by decide +kernel
theorem dX8_loud_25 : decode cX8_loud 25 = .ok (.getfield 210, 3) := by decide +kernel
theorem dX8_loud_28 : decode cX8_loud 28 = .ok (.if_icmp .ge 46, 3) := by decide +kernel
theorem dX8_loud_31 : decode cX8_loud 31 = .ok (.aload_n 0, 1) := by decide +kernel
theorem dX8_loud_32 : decode cX8_loud 32 = .ok (.iload_n 3, 1) := by decide +kernel
theorem dX8_loud_33 : decode cX8_loud 33 = .ok (.invokevirtual 213, 3) := by decide +kernel
theorem dX8_loud_36 : decode cX8_loud 36 = .ok (.ifCond .eq 32, 3) := by decide +kernel
theorem dX8_loud_39 : decode cX8_loud 39 = .ok (.iload_n 2, 1) := by decide +kernel
theorem dX8_loud_40 : decode cX8_loud 40 = .ok (.iconst (-1), 1) := by decide +kernel
