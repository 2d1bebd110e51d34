theorem dX8_loud_41 : decode cX8_loud 41 = .ok (.if_icmp .eq 25, 3) := by decide +kernel
theorem dX8_loud_44 : decode cX8_loud 44 = .ok (.aload_n 0, 1) := by decide +kernel
theorem dX8_loud_45 : decode cX8_loud 45 = .ok (.getfield 61, 3) := by decide +kernel
theorem dX8_loud_48 : decode cX8_loud 48 = .ok (.getfield 190, 3) := by decide +kernel
theorem dX8_loud_51 : decode cX8_loud 51 = .ok (.iload_n 3, 1) := by decide +kernel
theorem dX8_loud_52 : decode cX8_loud 52 = .ok (.laload, 1) := by decide +kernel
theorem dX8_loud_53 : decode cX8_loud 53 = .ok (.aload_n 0, 1) := by decide +kernel
theorem dX8_loud_54 : decode cX8_loud 54 = .ok (.getfield 61, 3) := by decide +kernel
theorem dX8_loud_57 : decode cX8_loud 57 = .ok (.getfield 190, 3) := by decide +kernel
theorem dX8_loud_60 : decode cX8_loud 60 = .ok (.iload_n 2, 1) := by decide +kernel
theorem dX8_loud_61 : decode cX8_loud 61 = .ok (.laload, 1) := by decide +kernel
theorem dX8_loud_62 : decode cX8_loud 62 = .ok (.lcmp, 1) := by decide +kernel
theorem dX8_loud_63 : decode cX8_loud 63 = .ok (.ifCond .le 5, 3) := by decide +kernel
theorem dX8_loud_66 : decode cX8_loud 66 = .ok (.iload_n 3, 1) := by decide +kernel
theorem dX8_loud_67 : decode cX8_loud 67 = .ok (.istore_n 2, 1) := by decide +kernel
theorem dX8_loud_68 : decode cX8_loud 68 = .ok (.iinc 3 1, 3) := by decide +kernel
theorem dX8_loud_71 : decode cX8_loud 71 = .ok (.goto (-51), 3) := by decide +kernel
theorem dX8_loud_74 : decode cX8_loud 74 = .ok (.iload_n 2, 1) := by decide +kernel
theorem dX8_loud_75 : decode cX8_loud 75 = .ok (.ireturn, 1) := by decide +kernel
theorem dX8_low_0 : decode cX8_low 0 = .ok (.aload_n 0, 1) := by decide +kernel
theorem dX8_low_1 : decode cX8_low 1 = .ok (.iload_n 1, 1) := by decide +kernel
theorem dX8_low_2 : decode cX8_low 2 = .ok (.iload_n 2, 1) := by decide +kernel
theorem dX8_low_3 : decode cX8_low 3 = .ok (.invokevirtual 289, 3) := by decide +kernel
theorem dX8_low_6 : decode cX8_low 6 = .ok (.istore_n 3, 1) := by decide +kernel
theorem dX8_low_7 : decode cX8_low 7 = .ok (.iload_n 3, 1) := by decide +kernel
theorem dX8_low_8 : decode cX8_low 8 = .ok (.ifCond .eq 5, 3) := by decide +kernel
theorem dX8_low_11 : decode cX8_low 11 = .ok (.iload_n 3, 1) := by decide +kernel
theorem dX8_low_12 : decode cX8_low 12 = .ok (.ireturn, 1) := by decide +kernel
theorem dX8_low_13 : decode cX8_low 13 = .ok (.aload_n 0, 1) := by decide +kernel
theorem dX8_low_14 : decode cX8_low 14 = .ok (.iload_n 1, 1) := by decide +kernel
theorem dX8_low_15 : decode cX8_low 15 = .ok (.iload_n 2, 1) := by decide +kernel
theorem dX8_low_16 : decode cX8_low 16 = .ok (.invokevirtual 292, 3) := by decide +kernel
theorem dX8_low_19 : decode cX8_low 19 = .ok (.istore 4, 2) := by decide +kernel
theorem dX8_low_21 : decode cX8_low 21 = .ok (.iload 4, 2) := by decide +kernel
theorem dX8_low_23 : decode cX8_low 23 = .ok (.ifCond .ne 7, 3) := by decide +kernel
theorem dX8_low_26 : decode cX8_low 26 = .ok (.iconst (-1), 1) := by decide +kernel
theorem dX8_low_27 : decode cX8_low 27 = .ok (.goto 8, 3) := by decide +kernel
theorem dX8_low_30 : decode cX8_low 30 = .ok (.iload 4, 2) := by decide +kernel
theorem dX8_low_32 : decode cX8_low 32 = .ok (.invokestatic 222, 3) := by decide +kernel
theorem dX8_low_35 : decode cX8_low 35 = .ok (.ireturn, 1) := by decide +kernel
theorem dX8_luck_0 : decode cX8_luck 0 = .ok (.aload_n 0, 1) := by decide +kernel
theorem dX8_luck_1 : decode cX8_luck 1 = .ok (.iload_n 3, 1) := by decide +kernel
theorem dX8_luck_2 : decode cX8_luck 2 = .ok (.invokevirtual 213, 3) := by decide +kernel
theorem dX8_luck_5 : decode cX8_luck 5 = .ok (.ifCond .eq 21, 3) := by decide +kernel
theorem dX8_luck_8 : decode cX8_luck 8 = .ok (.iload_n 1, 1) := by decide +kernel
theorem dX8_luck_9 : decode cX8_luck 9 = .ok (.invokestatic 345, 3) := by decide +kernel
theorem dX8_luck_12 : decode cX8_luck 12 = .ok (.ifCond .eq 14, 3) := by decide +kernel
theorem dX8_luck_15 : decode cX8_luck 15 = .ok (.iload_n 2, 1) := by decide +kernel
theorem dX8_luck_16 : decode cX8_luck 16 = .ok (.iconst 1, 1) := by decide +kernel
theorem dX8_luck_17 : decode cX8_luck 17 = .ok (.if_icmp .lt 9, 3) := by decide +kernel
theorem dX8_luck_20 : decode cX8_luck 20 = .ok (.iload_n 2, 1) := by decide +kernel
theorem dX8_luck_21 : decode cX8_luck 21 = .ok (.bipush 20, 2) := by decide +kernel
theorem dX8_luck_23 : decode cX8_luck 23 = .ok (.if_icmp .le 6, 3) := by decide +kernel
theorem dX8_luck_26 : decode cX8_luck 26 = .ok (.bipush (-2), 2) := by decide +kernel
theorem dX8_luck_28 : decode cX8_luck 28 = .ok (.ireturn, 1) := by decide +kernel
theorem dX8_luck_29 : decode cX8_luck 29 = .ok (.iconst 0, 1) := by decide +kernel
theorem dX8_luck_30 : decode cX8_luck 30 = .ok (.istore 4, 2) := by decide +kernel
theorem dX8_luck_32 : decode cX8_luck 32 = .ok (.iconst 0, 1) := by decide +kernel
theorem dX8_luck_33 : decode cX8_luck 33 = .ok (.istore 5, 2) := by decide +kernel
theorem dX8_luck_35 : decode cX8_luck 35 = .ok (.iload 5, 2) := by decide +kernel
theorem dX8_luck_37 : decode cX8_luck 37 = .ok (.iload_n 2, 1) := by decide +kernel
theorem dX8_luck_38 : decode cX8_luck 38 = .ok (.if_icmp .ge 27, 3) := by decide +kernel
theorem dX8_luck_41 : decode cX8_luck 41 = .ok (.aload_n 0, 1) := by decide +kernel
theorem dX8_luck_42 : decode cX8_luck 42 = .ok (.iload_n 1, 1) := by decide +kernel
theorem dX8_luck_43 : decode cX8_luck 43 = .ok (.iload 5, 2) := by decide +kernel
theorem dX8_luck_45 : decode cX8_luck 45 = .ok (.iadd, 1) := by decide +kernel
theorem dX8_luck_46 : decode cX8_luck 46 = .ok (.invokevirtual 351, 3) := by decide +kernel
theorem dX8_luck_49 : decode cX8_luck 49 = .ok (.iload_n 3, 1) := by decide +kernel
theorem dX8_luck_50 : decode cX8_luck 50 = .ok (.invokestatic 272, 3) := by decide +kernel
theorem dX8_luck_53 : decode cX8_luck 53 = .ok (.ifCond .eq 6, 3) := by decide +kernel
theorem dX8_luck_56 : decode cX8_luck 56 = .ok (.iinc 4 1, 3) := by decide +kernel
theorem dX8_luck_59 : decode cX8_luck 59 = .ok (.iinc 5 1, 3) := by decide +kernel
theorem dX8_luck_62 : decode cX8_luck 62 = .ok (.goto (-27), 3) := by decide +kernel
theorem dX8_luck_65 : decode cX8_luck 65 = .ok (.iload 4, 2) := by decide +kernel
theorem dX8_luck_67 : decode cX8_luck 67 = .ok (.ireturn, 1) := by decide +kernel
theorem dX8_margin_0 : decode cX8_margin 0 = .ok (.aload_n 0, 1) := by decide +kernel
theorem dX8_margin_1 : decode cX8_margin 1 = .ok (.iload_n 1, 1) := by decide +kernel
theorem dX8_margin_2 : decode cX8_margin 2 = .ok (.invokevirtual 213, 3) := by decide +kernel
theorem dX8_margin_5 : decode cX8_margin 5 = .ok (.ifCond .eq 11, 3) := by decide +kernel
theorem dX8_margin_8 : decode cX8_margin 8 = .ok (.aload_n 0, 1) := by decide +kernel
theorem dX8_margin_9 : decode cX8_margin 9 = .ok (.iload_n 2, 1) := by decide +kernel
theorem dX8_margin_10 : decode cX8_margin 10 = .ok (.invokevirtual 145, 3) := by decide +kernel
theorem dX8_margin_13 : decode cX8_margin 13 = .ok (.ifCond .ne 6, 3) := by decide +kernel
theorem dX8_margin_16 : decode cX8_margin 16 = .ok (.bipush (-2), 2) := by decide +kernel
theorem dX8_margin_18 : decode cX8_margin 18 = .ok (.ireturn, 1) := by decide +kernel
theorem dX8_margin_19 : decode cX8_margin 19 = .ok (.aload_n 0, 1) := by decide +kernel
theorem dX8_margin_20 : decode cX8_margin 20 = .ok (.iload_n 2, 1) := by decide +kernel
theorem dX8_margin_21 : decode cX8_margin 21 = .ok (.invokevirtual 164, 3) := by decide +kernel
theorem dX8_margin_24 : decode cX8_margin 24 = .ok (.iconst 0, 1) := by decide +kernel
theorem dX8_margin_25 : decode cX8_margin 25 = .ok (.aload_n 0, 1) := by decide +kernel
theorem dX8_margin_26 : decode cX8_margin 26 = .ok (.iload_n 1, 1) := by decide +kernel
theorem dX8_margin_27 : decode cX8_margin 27 = .ok (.invokevirtual 192, 3) := by decide +kernel
theorem dX8_margin_30 : decode cX8_margin 30 = .ok (.aload_n 0, 1) := by decide +kernel
theorem dX8_margin_31 : decode cX8_margin 31 = .ok (.getfield 33, 3) := by decide +kernel
theorem dX8_margin_34 : decode cX8_margin 34 = .ok (.getfield 131, 3) := by decide +kernel
theorem dX8_margin_37 : decode cX8_margin 37 = .ok (.iload_n 1, 1) := by decide +kernel
theorem dX8_margin_38 : decode cX8_margin 38 = .ok (.iaload, 1) := by decide +kernel
theorem dX8_margin_39 : decode cX8_margin 39 = .ok (.isub, 1) := by decide +kernel
theorem dX8_margin_40 : decode cX8_margin 40 = .ok (.invokestatic 249, 3) := by decide +kernel
theorem dX8_margin_43 : decode cX8_margin 43 = .ok (.ireturn, 1) := by decide +kernel
theorem dX8_mean_0 : decode cX8_mean 0 = .ok (.aload_n 0, 1) := by decide +kernel
theorem dX8_mean_1 : decode cX8_mean 1 = .ok (.iload_n 1, 1) := by decide +kernel
theorem dX8_mean_2 : decode cX8_mean 2 = .ok (.invokevirtual 325, 3) := by decide +kernel
theorem dX8_mean_5 : decode cX8_mean 5 = .ok (.ifCond .eq 10, 3) := by decide +kernel
theorem dX8_mean_8 : decode cX8_mean 8 = .ok (.iload_n 2, 1) := by decide +kernel
theorem dX8_mean_9 : decode cX8_mean 9 = .ok (.invokestatic 159, 3) := by decide +kernel
theorem dX8_mean_12 : decode cX8_mean 12 = .ok (.ifCond .ne 7, 3) := by decide +kernel
theorem dX8_mean_15 : decode cX8_mean 15 = .ok (.ldc2_w 162, 3) := by decide +kernel
theorem dX8_mean_18 : decode cX8_mean 18 = .ok (.lreturn, 1) := by decide +kernel
theorem dX8_mean_19 : decode cX8_mean 19 = .ok (.aload_n 0, 1) := by decide +kernel
theorem dX8_mean_20 : decode cX8_mean 20 = .ok (.aload_n 0, 1) := by decide +kernel
theorem dX8_mean_21 : decode cX8_mean 21 = .ok (.iload_n 1, 1) := by decide +kernel
theorem dX8_mean_22 : decode cX8_mean 22 = .ok (.aload_n 0, 1) := by decide +kernel
theorem dX8_mean_23 : decode cX8_mean 23 = .ok (.getfield 33, 3) := by decide +kernel
theorem dX8_mean_26 : decode cX8_mean 26 = .ok (.invokevirtual 138, 3) := by decide +kernel
theorem dX8_mean_29 : decode cX8_mean 29 = .ok (.invokevirtual 328, 3) := by decide +kernel
theorem dX8_mean_32 : decode cX8_mean 32 = .ok (.bipush 10, 2) := by decide +kernel
theorem dX8_mean_34 : decode cX8_mean 34 = .ok (.iload_n 1, 1) := by decide +kernel
theorem dX8_mean_35 : decode cX8_mean 35 = .ok (.iconst 1, 1) := by decide +kernel
theorem dX8_mean_36 : decode cX8_mean 36 = .ok (.iadd, 1) := by decide +kernel
theorem dX8_mean_37 : decode cX8_mean 37 = .ok (.invokestatic 332, 3) := by decide +kernel
theorem dX8_mean_40 : decode cX8_mean 40 = .ok (.iload_n 2, 1) := by decide +kernel
theorem dX8_mean_41 : decode cX8_mean 41 = .ok (.invokevirtual 186, 3) := by decide +kernel
theorem dX8_mean_44 : decode cX8_mean 44 = .ok (.lreturn, 1) := by decide +kernel
theorem dX8_mute_0 : decode cX8_mute 0 = .ok (.aload_n 0, 1) := by decide +kernel
theorem dX8_mute_1 : decode cX8_mute 1 = .ok (.invokevirtual 134, 3) := by decide +kernel
theorem dX8_mute_4 : decode cX8_mute 4 = .ok (.ifCond .ne 6, 3) := by decide +kernel
theorem dX8_mute_7 : decode cX8_mute 7 = .ok (.bipush (-2), 2) := by decide +kernel
theorem dX8_mute_9 : decode cX8_mute 9 = .ok (.ireturn, 1) := by decide +kernel
theorem dX8_mute_10 : decode cX8_mute 10 = .ok (.aload_n 0, 1) := by decide +kernel
theorem dX8_mute_11 : decode cX8_mute 11 = .ok (.invokevirtual 239, 3) := by decide +kernel
theorem dX8_mute_14 : decode cX8_mute 14 = .ok (.iconst 0, 1) := by decide +kernel
theorem dX8_mute_15 : decode cX8_mute 15 = .ok (.istore_n 1, 1) := by decide +kernel
theorem dX8_mute_16 : decode cX8_mute 16 = .ok (.iconst 0, 1) := by decide +kernel
theorem dX8_mute_17 : decode cX8_mute 17 = .ok (.istore_n 2, 1) := by decide +kernel
theorem dX8_mute_18 : decode cX8_mute 18 = .ok (.iload_n 2, 1) := by decide +kernel
theorem dX8_mute_19 : decode cX8_mute 19 = .ok (.aload_n 0, 1) := by decide +kernel
theorem dX8_mute_20 : decode cX8_mute 20 = .ok (.getfield 33, 3) := by decide +kernel
theorem dX8_mute_23 : decode cX8_mute 23 = .ok (.getfield 242, 3) := by decide +kernel
theorem dX8_mute_26 : decode cX8_mute 26 = .ok (.if_icmp .gt 24, 3) := by decide +kernel
theorem dX8_mute_29 : decode cX8_mute 29 = .ok (.aload_n 0, 1) := by decide +kernel
theorem dX8_mute_30 : decode cX8_mute 30 = .ok (.getfield 72, 3) := by decide +kernel
theorem dX8_mute_33 : decode cX8_mute 33 = .ok (.iload_n 2, 1) := by decide +kernel
theorem dX8_mute_34 : decode cX8_mute 34 = .ok (.iaload, 1) := by decide +kernel
theorem dX8_mute_35 : decode cX8_mute 35 = .ok (.ifCond .ne 9, 3) := by decide +kernel
theorem dX8_mute_38 : decode cX8_mute 38 = .ok (.iload_n 1, 1) := by decide +kernel
theorem dX8_mute_39 : decode cX8_mute 39 = .ok (.iconst 1, 1) := by decide +kernel
theorem dX8_mute_40 : decode cX8_mute 40 = .ok (.iload_n 2, 1) := by decide +kernel
theorem dX8_mute_41 : decode cX8_mute 41 = .ok (.ishl, 1) := by decide +kernel
theorem dX8_mute_42 : decode cX8_mute 42 = .ok (.ior, 1) := by decide +kernel
theorem dX8_mute_43 : decode cX8_mute 43 = .ok (.istore_n 1, 1) := by decide +kernel
theorem dX8_mute_44 : decode cX8_mute 44 = .ok (.iinc 2 1, 3) := by decide +kernel
theorem dX8_mute_47 : decode cX8_mute 47 = .ok (.goto (-29), 3) := by decide +kernel
theorem dX8_mute_50 : decode cX8_mute 50 = .ok (.iload_n 1, 1) := by decide +kernel
theorem dX8_mute_51 : decode cX8_mute 51 = .ok (.ireturn, 1) := by decide +kernel
theorem dX8_ohms_0 : decode cX8_ohms 0 = .ok (.aload_n 0, 1) := by decide +kernel
theorem dX8_ohms_1 : decode cX8_ohms 1 = .ok (.iload_n 1, 1) := by decide +kernel
theorem dX8_ohms_2 : decode cX8_ohms 2 = .ok (.invokevirtual 145, 3) := by decide +kernel
theorem dX8_ohms_5 : decode cX8_ohms 5 = .ok (.ifCond .eq 10, 3) := by decide +kernel
theorem dX8_ohms_8 : decode cX8_ohms 8 = .ok (.iload_n 2, 1) := by decide +kernel
theorem dX8_ohms_9 : decode cX8_ohms 9 = .ok (.invokestatic 159, 3) := by decide +kernel
theorem dX8_ohms_12 : decode cX8_ohms 12 = .ok (.ifCond .ne 7, 3) := by decide +kernel
theorem dX8_ohms_15 : decode cX8_ohms 15 = .ok (.ldc2_w 162, 3) := by decide +kernel
theorem dX8_ohms_18 : decode cX8_ohms 18 = .ok (.lreturn, 1) := by decide +kernel
theorem dX8_ohms_19 : decode cX8_ohms 19 = .ok (.aload_n 0, 1) := by decide +kernel
theorem dX8_ohms_20 : decode cX8_ohms 20 = .ok (.iload_n 1, 1) := by decide +kernel
theorem dX8_ohms_21 : decode cX8_ohms 21 = .ok (.invokevirtual 164, 3) := by decide +kernel
theorem dX8_ohms_24 : decode cX8_ohms 24 = .ok (.aload_n 0, 1) := by decide +kernel
theorem dX8_ohms_25 : decode cX8_ohms 25 = .ok (.getfield 61, 3) := by decide +kernel
theorem dX8_ohms_28 : decode cX8_ohms 28 = .ok (.aload_n 0, 1) := by decide +kernel
theorem dX8_ohms_29 : decode cX8_ohms 29 = .ok (.getfield 68, 3) := by decide +kernel
theorem dX8_ohms_32 : decode cX8_ohms 32 = .ok (.invokevirtual 167, 3) := by decide +kernel
theorem dX8_ohms_35 : decode cX8_ohms 35 = .ok (.aload_n 0, 1) := by decide +kernel
theorem dX8_ohms_36 : decode cX8_ohms 36 = .ok (.getfield 68, 3) := by decide +kernel
theorem dX8_ohms_39 : decode cX8_ohms 39 = .ok (.iload_n 2, 1) := by decide +kernel
theorem dX8_ohms_40 : decode cX8_ohms 40 = .ok (.invokevirtual 171, 3) := by decide +kernel
theorem dX8_ohms_43 : decode cX8_ohms 43 = .ok (.lreturn, 1) := by decide +kernel
theorem dX8_pairSet_0 : decode cX8_pairSet 0 = .ok (.iload_n 2, 1) := by decide +kernel
theorem dX8_pairSet_1 : decode cX8_pairSet 1 = .ok (.iload_n 0, 1) := by decide +kernel
theorem dX8_pairSet_2 : decode cX8_pairSet 2 = .ok (.ishl, 1) := by decide +kernel
theorem dX8_pairSet_3 : decode cX8_pairSet 3 = .ok (.iload_n 3, 1) := by decide +kernel
theorem dX8_pairSet_4 : decode cX8_pairSet 4 = .ok (.iload_n 1, 1) := by decide +kernel
theorem dX8_pairSet_5 : decode cX8_pairSet 5 = .ok (.ishl, 1) := by decide +kernel
theorem dX8_pairSet_6 : decode cX8_pairSet 6 = .ok (.ior, 1) := by decide +kernel
theorem dX8_pairSet_7 : decode cX8_pairSet 7 = .ok (.ireturn, 1) := by decide +kernel
theorem dX8_partOf_0 : decode cX8_partOf 0 = .ok (.aload_n 0, 1) := by decide +kernel
theorem dX8_partOf_1 : decode cX8_partOf 1 = .ok (.getfield 68, 3) := by decide +kernel
theorem dX8_partOf_4 : decode cX8_partOf 4 = .ok (.lload_n 1, 1) := by decide +kernel
theorem dX8_partOf_5 : decode cX8_partOf 5 = .ok (.lload_n 3, 1) := by decide +kernel
theorem dX8_partOf_6 : decode cX8_partOf 6 = .ok (.invokevirtual 395, 3) := by decide +kernel
theorem dX8_partOf_9 : decode cX8_partOf 9 = .ok (.aload_n 0, 1) := by decide +kernel
theorem dX8_partOf_10 : decode cX8_partOf 10 = .ok (.getfield 68, 3) := by decide +kernel
theorem dX8_partOf_13 : decode cX8_partOf 13 = .ok (.iload 5, 2) := by decide +kernel
theorem dX8_partOf_15 : decode cX8_partOf 15 = .ok (.invokevirtual 171, 3) := by decide +kernel
theorem dX8_partOf_18 : decode cX8_partOf 18 = .ok (.lreturn, 1) := by decide +kernel
theorem dX8_paste_0 : decode cX8_paste 0 = .ok (.iload_n 1, 1) := by decide +kernel
theorem dX8_paste_1 : decode cX8_paste 1 = .ok (.invokestatic 364, 3) := by decide +kernel
theorem dX8_paste_4 : decode cX8_paste 4 = .ok (.ifCond .eq 10, 3) := by decide +kernel
theorem dX8_paste_7 : decode cX8_paste 7 = .ok (.iload_n 3, 1) := by decide +kernel
theorem dX8_paste_8 : decode cX8_paste 8 = .ok (.invokestatic 364, 3) := by decide +kernel
theorem dX8_paste_11 : decode cX8_paste 11 = .ok (.ifCond .ne 6, 3) := by decide +kernel
theorem dX8_paste_14 : decode cX8_paste 14 = .ok (.bipush (-2), 2) := by decide +kernel
theorem dX8_paste_16 : decode cX8_paste 16 = .ok (.ireturn, 1) := by decide +kernel
theorem dX8_paste_17 : decode cX8_paste 17 = .ok (.aload_n 0, 1) := by decide +kernel
theorem dX8_paste_18 : decode cX8_paste 18 = .ok (.getfield 47, 3) := by decide +kernel
theorem dX8_paste_21 : decode cX8_paste 21 = .ok (.iload_n 1, 1) := by decide +kernel
theorem dX8_paste_22 : decode cX8_paste 22 = .ok (.invokevirtual 370, 3) := by decide +kernel
theorem dX8_paste_25 : decode cX8_paste 25 = .ok (.ifCond .eq 14, 3) := by decide +kernel
theorem dX8_paste_28 : decode cX8_paste 28 = .ok (.aload_n 0, 1) := by decide +kernel
theorem dX8_paste_29 : decode cX8_paste 29 = .ok (.getfield 47, 3) := by decide +kernel
theorem dX8_paste_32 : decode cX8_paste 32 = .ok (.iload_n 3, 1) := by decide +kernel
theorem dX8_paste_33 : decode cX8_paste 33 = .ok (.invokevirtual 370, 3) := by decide +kernel
theorem dX8_paste_36 : decode cX8_paste 36 = .ok (.ifCond .ne 6, 3) := by decide +kernel
theorem dX8_paste_39 : decode cX8_paste 39 = .ok (.bipush (-6), 2) := by decide +kernel
theorem dX8_paste_41 : decode cX8_paste 41 = .ok (.ireturn, 1) := by decide +kernel
theorem dX8_paste_42 : decode cX8_paste 42 = .ok (.aload_n 0, 1) := by decide +kernel
theorem dX8_paste_43 : decode cX8_paste 43 = .ok (.getfield 47, 3) := by decide +kernel
theorem dX8_paste_46 : decode cX8_paste 46 = .ok (.getfield 380, 3) := by decide +kernel
theorem dX8_paste_49 : decode cX8_paste 49 = .ok (.iload_n 1, 1) := by decide +kernel
theorem dX8_paste_50 : decode cX8_paste 50 = .ok (.iaload, 1) := by decide +kernel
theorem dX8_paste_51 : decode cX8_paste 51 = .ok (.aload_n 0, 1) := by decide +kernel
theorem dX8_paste_52 : decode cX8_paste 52 = .ok (.getfield 47, 3) := by decide +kernel
theorem dX8_paste_55 : decode cX8_paste 55 = .ok (.getfield 380, 3) := by decide +kernel
theorem dX8_paste_58 : decode cX8_paste 58 = .ok (.iload_n 3, 1) := by decide +kernel
theorem dX8_paste_59 : decode cX8_paste 59 = .ok (.iaload, 1) := by decide +kernel
theorem dX8_paste_60 : decode cX8_paste 60 = .ok (.if_icmp .eq 6, 3) := by decide +kernel
theorem dX8_paste_63 : decode cX8_paste 63 = .ok (.bipush (-8), 2) := by decide +kernel
theorem dX8_paste_65 : decode cX8_paste 65 = .ok (.ireturn, 1) := by decide +kernel
theorem dX8_paste_66 : decode cX8_paste 66 = .ok (.aload_n 0, 1) := by decide +kernel
theorem dX8_paste_67 : decode cX8_paste 67 = .ok (.getfield 47, 3) := by decide +kernel
theorem dX8_paste_70 : decode cX8_paste 70 = .ok (.iload_n 1, 1) := by decide +kernel
theorem dX8_paste_71 : decode cX8_paste 71 = .ok (.iload_n 2, 1) := by decide +kernel
theorem dX8_paste_72 : decode cX8_paste 72 = .ok (.iload 5, 2) := by decide +kernel
theorem dX8_paste_74 : decode cX8_paste 74 = .ok (.invokevirtual 383, 3) := by decide +kernel
theorem dX8_paste_77 : decode cX8_paste 77 = .ok (.ifCond .eq 18, 3) := by decide +kernel
theorem dX8_paste_80 : decode cX8_paste 80 = .ok (.aload_n 0, 1) := by decide +kernel
theorem dX8_paste_81 : decode cX8_paste 81 = .ok (.getfield 47, 3) := by decide +kernel
theorem dX8_paste_84 : decode cX8_paste 84 = .ok (.iload_n 3, 1) := by decide +kernel
theorem dX8_paste_85 : decode cX8_paste 85 = .ok (.iload 4, 2) := by decide +kernel
theorem dX8_paste_87 : decode cX8_paste 87 = .ok (.iload 5, 2) := by decide +kernel
theorem dX8_paste_89 : decode cX8_paste 89 = .ok (.invokevirtual 383, 3) := by decide +kernel
theorem dX8_paste_92 : decode cX8_paste 92 = .ok (.ifCond .ne 6, 3) := by decide +kernel
theorem dX8_paste_95 : decode cX8_paste 95 = .ok (.bipush (-7), 2) := by decide +kernel
theorem dX8_paste_97 : decode cX8_paste 97 = .ok (.ireturn, 1) := by decide +kernel
theorem dX8_paste_98 : decode cX8_paste 98 = .ok (.aload_n 0, 1) := by decide +kernel
theorem dX8_paste_99 : decode cX8_paste 99 = .ok (.getfield 47, 3) := by decide +kernel
theorem dX8_paste_102 : decode cX8_paste 102 = .ok (.iload_n 1, 1) := by decide +kernel
theorem dX8_paste_103 : decode cX8_paste 103 = .ok (.iload_n 2, 1) := by decide +kernel
theorem dX8_paste_104 : decode cX8_paste 104 = .ok (.iload_n 3, 1) := by decide +kernel
theorem dX8_paste_105 : decode cX8_paste 105 = .ok (.iload 4, 2) := by decide +kernel
theorem dX8_paste_107 : decode cX8_paste 107 = .ok (.iload 5, 2) := by decide +kernel
theorem dX8_paste_109 : decode cX8_paste 109 = .ok (.invokevirtual 387, 3) := by decide +kernel
theorem dX8_paste_112 : decode cX8_paste 112 = .ok (.iconst 0, 1) := by decide +kernel
theorem dX8_paste_113 : decode cX8_paste 113 = .ok (.ireturn, 1) := by decide +kernel
theorem dX8_power_0 : decode cX8_power 0 = .ok (.lconst 1, 1) := by decide +kernel
theorem dX8_power_1 : decode cX8_power 1 = .ok (.lstore_n 2, 1) := by decide +kernel
theorem dX8_power_2 : decode cX8_power 2 = .ok (.iconst 0, 1) := by decide +kernel
theorem dX8_power_3 : decode cX8_power 3 = .ok (.istore 4, 2) := by decide +kernel
theorem dX8_power_5 : decode cX8_power 5 = .ok (.iload 4, 2) := by decide +kernel
theorem dX8_power_7 : decode cX8_power 7 = .ok (.iload_n 1, 1) := by decide +kernel
theorem dX8_power_8 : decode cX8_power 8 = .ok (.if_icmp .ge 14, 3) := by decide +kernel
theorem dX8_power_11 : decode cX8_power 11 = .ok (.lload_n 2, 1) := by decide +kernel
theorem dX8_power_12 : decode cX8_power 12 = .ok (.iload_n 0, 1) := by decide +kernel
theorem dX8_power_13 : decode cX8_power 13 = .ok (.i2l, 1) := by decide +kernel
theorem dX8_power_14 : decode cX8_power 14 = .ok (.lmul, 1) := by decide +kernel
theorem dX8_power_15 : decode cX8_power 15 = .ok (.lstore_n 2, 1) := by decide +kernel
theorem dX8_power_16 : decode cX8_power 16 = .ok (.iinc 4 1, 3) := by decide +kernel
theorem dX8_power_19 : decode cX8_power 19 = .ok (.goto (-14), 3) := by decide +kernel
theorem dX8_power_22 : decode cX8_power 22 = .ok (.lload_n 2, 1) := by decide +kernel
theorem dX8_power_23 : decode cX8_power 23 = .ok (.lreturn, 1) := by decide +kernel
theorem dX8_rate_0 : decode cX8_rate 0 = .ok (.aload_n 0, 1) := by decide +kernel
theorem dX8_rate_1 : decode cX8_rate 1 = .ok (.iload_n 1, 1) := by decide +kernel
theorem dX8_rate_2 : decode cX8_rate 2 = .ok (.invokevirtual 213, 3) := by decide +kernel
theorem dX8_rate_5 : decode cX8_rate 5 = .ok (.ifCond .eq 13, 3) := by decide +kernel
theorem dX8_rate_8 : decode cX8_rate 8 = .ok (.iload_n 2, 1) := by decide +kernel
theorem dX8_rate_9 : decode cX8_rate 9 = .ok (.ifCond .lt 9, 3) := by decide +kernel
theorem dX8_rate_12 : decode cX8_rate 12 = .ok (.iload_n 2, 1) := by decide +kernel
theorem dX8_rate_13 : decode cX8_rate 13 = .ok (.bipush 60, 2) := by decide +kernel
theorem dX8_rate_15 : decode cX8_rate 15 = .ok (.if_icmp .le 6, 3) := by decide +kernel
theorem dX8_rate_18 : decode cX8_rate 18 = .ok (.bipush (-2), 2) := by decide +kernel
theorem dX8_rate_20 : decode cX8_rate 20 = .ok (.ireturn, 1) := by decide +kernel
theorem dX8_rate_21 : decode cX8_rate 21 = .ok (.aload_n 0, 1) := by decide +kernel
theorem dX8_rate_22 : decode cX8_rate 22 = .ok (.getfield 33, 3) := by decide +kernel
theorem dX8_rate_25 : decode cX8_rate 25 = .ok (.getfield 335, 3) := by decide +kernel
theorem dX8_rate_28 : decode cX8_rate 28 = .ok (.ifCond .le 6, 3) := by decide +kernel
theorem dX8_rate_31 : decode cX8_rate 31 = .ok (.bipush (-5), 2) := by decide +kernel
theorem dX8_rate_33 : decode cX8_rate 33 = .ok (.ireturn, 1) := by decide +kernel
theorem dX8_rate_34 : decode cX8_rate 34 = .ok (.aload_n 0, 1) := by decide +kernel
theorem dX8_rate_35 : decode cX8_rate 35 = .ok (.getfield 33, 3) := by decide +kernel
theorem dX8_rate_38 : decode cX8_rate 38 = .ok (.getfield 131, 3) := by decide +kernel
theorem dX8_rate_41 : decode cX8_rate 41 = .ok (.iload_n 1, 1) := by decide +kernel
theorem dX8_rate_42 : decode cX8_rate 42 = .ok (.iaload, 1) := by decide +kernel
theorem dX8_rate_43 : decode cX8_rate 43 = .ok (.istore_n 3, 1) := by decide +kernel
theorem dX8_rate_44 : decode cX8_rate 44 = .ok (.aload_n 0, 1) := by decide +kernel
theorem dX8_rate_45 : decode cX8_rate 45 = .ok (.getfield 33, 3) := by decide +kernel
theorem dX8_rate_48 : decode cX8_rate 48 = .ok (.getfield 131, 3) := by decide +kernel
theorem dX8_rate_51 : decode cX8_rate 51 = .ok (.iload_n 1, 1) := by decide +kernel
theorem dX8_rate_52 : decode cX8_rate 52 = .ok (.iload_n 2, 1) := by decide +kernel
theorem dX8_rate_53 : decode cX8_rate 53 = .ok (.iastore, 1) := by decide +kernel
theorem dX8_rate_54 : decode cX8_rate 54 = .ok (.iload_n 3, 1) := by decide +kernel
theorem dX8_rate_55 : decode cX8_rate 55 = .ok (.ireturn, 1) := by decide +kernel
theorem dX8_reach_0 : decode cX8_reach 0 = .ok (.aload_n 0, 1) := by decide +kernel
theorem dX8_reach_1 : decode cX8_reach 1 = .ok (.iload_n 1, 1) := by decide +kernel
theorem dX8_reach_2 : decode cX8_reach 2 = .ok (.invokevirtual 145, 3) := by decide +kernel
theorem dX8_reach_5 : decode cX8_reach 5 = .ok (.ifCond .ne 6, 3) := by decide +kernel
theorem dX8_reach_8 : decode cX8_reach 8 = .ok (.bipush (-2), 2) := by decide +kernel
theorem dX8_reach_10 : decode cX8_reach 10 = .ok (.ireturn, 1) := by decide +kernel
theorem dX8_reach_11 : decode cX8_reach 11 = .ok (.aload_n 0, 1) := by decide +kernel
theorem dX8_reach_12 : decode cX8_reach 12 = .ok (.getfield 54, 3) := by decide +kernel
theorem dX8_reach_15 : decode cX8_reach 15 = .ok (.aload_n 0, 1) := by decide +kernel
theorem dX8_reach_16 : decode cX8_reach 16 = .ok (.getfield 33, 3) := by decide +kernel
theorem dX8_reach_19 : decode cX8_reach 19 = .ok (.invokevirtual 148, 3) := by decide +kernel
theorem dX8_reach_22 : decode cX8_reach 22 = .ok (.aload_n 0, 1) := by decide +kernel
theorem dX8_reach_23 : decode cX8_reach 23 = .ok (.iload_n 1, 1) := by decide +kernel
theorem dX8_reach_24 : decode cX8_reach 24 = .ok (.invokevirtual 207, 3) := by decide +kernel
theorem dX8_reach_27 : decode cX8_reach 27 = .ok (.invokestatic 236, 3) := by decide +kernel
theorem dX8_reach_30 : decode cX8_reach 30 = .ok (.ireturn, 1) := by decide +kernel
theorem dX8_readByLeaks_0 : decode cX8_readByLeaks 0 = .ok (.aload_n 0, 1) := by decide +kernel
theorem dX8_readByLeaks_1 : decode cX8_readByLeaks 1 = .ok (.getfield 54, 3) := by decide +kernel
theorem dX8_readByLeaks_4 : decode cX8_readByLeaks 4 = .ok (.aload_n 0, 1) := by decide +kernel
theorem dX8_readByLeaks_5 : decode cX8_readByLeaks 5 = .ok (.getfield 33, 3) := by decide +kernel
theorem dX8_readByLeaks_8 : decode cX8_readByLeaks 8 = .ok (.invokevirtual 148, 3) := by decide +kernel
theorem dX8_readByLeaks_11 : decode cX8_readByLeaks 11 = .ok (.iconst 1, 1) := by decide +kernel
theorem dX8_readByLeaks_12 : decode cX8_readByLeaks 12 = .ok (.istore 4, 2) := by decide +kernel
theorem dX8_readByLeaks_14 : decode cX8_readByLeaks 14 = .ok (.iload 4, 2) := by decide +kernel
theorem dX8_readByLeaks_16 : decode cX8_readByLeaks 16 = .ok (.bipush 30, 2) := by decide +kernel
theorem dX8_readByLeaks_18 : decode cX8_readByLeaks 18 = .ok (.if_icmp .gt 84, 3) := by decide +kernel
theorem dX8_readByLeaks_21 : decode cX8_readByLeaks 21 = .ok (.iload_n 1, 1) := by decide +kernel
theorem dX8_readByLeaks_22 : decode cX8_readByLeaks 22 = .ok (.iload 4, 2) := by decide +kernel
theorem dX8_readByLeaks_24 : decode cX8_readByLeaks 24 = .ok (.invokestatic 272, 3) := by decide +kernel
theorem dX8_readByLeaks_27 : decode cX8_readByLeaks 27 = .ok (.ifCond .eq 69, 3) := by decide +kernel
theorem dX8_readByLeaks_30 : decode cX8_readByLeaks 30 = .ok (.aload_n 0, 1) := by decide +kernel
theorem dX8_readByLeaks_31 : decode cX8_readByLeaks 31 = .ok (.getfield 54, 3) := by decide +kernel
theorem dX8_readByLeaks_34 : decode cX8_readByLeaks 34 = .ok (.getfield 426, 3) := by decide +kernel
theorem dX8_readByLeaks_37 : decode cX8_readByLeaks 37 = .ok (.iload_n 2, 1) := by decide +kernel
theorem dX8_readByLeaks_38 : decode cX8_readByLeaks 38 = .ok (.iload 4, 2) := by decide +kernel
theorem dX8_readByLeaks_40 : decode cX8_readByLeaks 40 = .ok (.iastore, 1) := by decide +kernel
theorem dX8_readByLeaks_41 : decode cX8_readByLeaks 41 = .ok (.aload_n 0, 1) := by decide +kernel
theorem dX8_readByLeaks_42 : decode cX8_readByLeaks 42 = .ok (.getfield 61, 3) := by decide +kernel
theorem dX8_readByLeaks_45 : decode cX8_readByLeaks 45 = .ok (.aload_n 0, 1) := by decide +kernel
theorem dX8_readByLeaks_46 : decode cX8_readByLeaks 46 = .ok (.getfield 33, 3) := by decide +kernel
theorem dX8_readByLeaks_49 : decode cX8_readByLeaks 49 = .ok (.aload_n 0, 1) := by decide +kernel
theorem dX8_readByLeaks_50 : decode cX8_readByLeaks 50 = .ok (.getfield 54, 3) := by decide +kernel
theorem dX8_readByLeaks_53 : decode cX8_readByLeaks 53 = .ok (.iload_n 3, 1) := by decide +kernel
theorem dX8_readByLeaks_54 : decode cX8_readByLeaks 54 = .ok (.invokevirtual 281, 3) := by decide +kernel
theorem dX8_readByLeaks_57 : decode cX8_readByLeaks 57 = .ok (.aload_n 0, 1) := by decide +kernel
theorem dX8_readByLeaks_58 : decode cX8_readByLeaks 58 = .ok (.getfield 61, 3) := by decide +kernel
theorem dX8_readByLeaks_61 : decode cX8_readByLeaks 61 = .ok (.aload_n 0, 1) := by decide +kernel
theorem dX8_readByLeaks_62 : decode cX8_readByLeaks 62 = .ok (.getfield 68, 3) := by decide +kernel
theorem dX8_readByLeaks_65 : decode cX8_readByLeaks 65 = .ok (.invokevirtual 167, 3) := by decide +kernel
theorem dX8_readByLeaks_68 : decode cX8_readByLeaks 68 = .ok (.aload_n 0, 1) := by decide +kernel
theorem dX8_readByLeaks_69 : decode cX8_readByLeaks 69 = .ok (.getfield 79, 3) := by decide +kernel
theorem dX8_readByLeaks_72 : decode cX8_readByLeaks 72 = .ok (.iload 4, 2) := by decide +kernel
theorem dX8_readByLeaks_74 : decode cX8_readByLeaks 74 = .ok (.aload_n 0, 1) := by decide +kernel
theorem dX8_readByLeaks_75 : decode cX8_readByLeaks 75 = .ok (.getfield 68, 3) := by decide +kernel
theorem dX8_readByLeaks_78 : decode cX8_readByLeaks 78 = .ok (.getfield 420, 3) := by decide +kernel
theorem dX8_readByLeaks_81 : decode cX8_readByLeaks 81 = .ok (.lastore, 1) := by decide +kernel
theorem dX8_readByLeaks_82 : decode cX8_readByLeaks 82 = .ok (.aload_n 0, 1) := by decide +kernel
theorem dX8_readByLeaks_83 : decode cX8_readByLeaks 83 = .ok (.getfield 83, 3) := by decide +kernel
theorem dX8_readByLeaks_86 : decode cX8_readByLeaks 86 = .ok (.iload 4, 2) := by decide +kernel
theorem dX8_readByLeaks_88 : decode cX8_readByLeaks 88 = .ok (.aload_n 0, 1) := by decide +kernel
theorem dX8_readByLeaks_89 : decode cX8_readByLeaks 89 = .ok (.getfield 68, 3) := by decide +kernel
theorem dX8_readByLeaks_92 : decode cX8_readByLeaks 92 = .ok (.getfield 423, 3) := by decide +kernel
theorem dX8_readByLeaks_95 : decode cX8_readByLeaks 95 = .ok (.lastore, 1) := by decide +kernel
theorem dX8_readByLeaks_96 : decode cX8_readByLeaks 96 = .ok (.iinc 4 1, 3) := by decide +kernel
theorem dX8_readByLeaks_99 : decode cX8_readByLeaks 99 = .ok (.goto (-85), 3) := by decide +kernel
theorem dX8_readByLeaks_102 : decode cX8_readByLeaks 102 = .ok (.return_, 1) := by decide +kernel
theorem dX8_refusalOfRow_0 : decode cX8_refusalOfRow 0 = .ok (.aload_n 0, 1) := by decide +kernel
theorem dX8_refusalOfRow_1 : decode cX8_refusalOfRow 1 = .ok (.invokevirtual 134, 3) := by decide +kernel
theorem dX8_refusalOfRow_4 : decode cX8_refusalOfRow 4 = .ok (.ifCond .eq 10, 3) := by decide +kernel
theorem dX8_refusalOfRow_7 : decode cX8_refusalOfRow 7 = .ok (.iload_n 1, 1) := by decide +kernel
theorem dX8_refusalOfRow_8 : decode cX8_refusalOfRow 8 = .ok (.invokestatic 364, 3) := by decide +kernel
theorem dX8_refusalOfRow_11 : decode cX8_refusalOfRow 11 = .ok (.ifCond .ne 6, 3) := by decide +kernel
theorem dX8_refusalOfRow_14 : decode cX8_refusalOfRow 14 = .ok (.bipush (-2), 2) := by decide +kernel
theorem dX8_refusalOfRow_16 : decode cX8_refusalOfRow 16 = .ok (.ireturn, 1) := by decide +kernel
theorem dX8_refusalOfRow_17 : decode cX8_refusalOfRow 17 = .ok (.aload_n 0, 1) := by decide +kernel
theorem dX8_refusalOfRow_18 : decode cX8_refusalOfRow 18 = .ok (.getfield 47, 3) := by decide +kernel
theorem dX8_refusalOfRow_21 : decode cX8_refusalOfRow 21 = .ok (.iload_n 1, 1) := by decide +kernel
theorem dX8_refusalOfRow_22 : decode cX8_refusalOfRow 22 = .ok (.invokevirtual 370, 3) := by decide +kernel
theorem dX8_refusalOfRow_25 : decode cX8_refusalOfRow 25 = .ok (.ifCond .ne 6, 3) := by decide +kernel
theorem dX8_refusalOfRow_28 : decode cX8_refusalOfRow 28 = .ok (.bipush (-6), 2) := by decide +kernel
theorem dX8_refusalOfRow_30 : decode cX8_refusalOfRow 30 = .ok (.ireturn, 1) := by decide +kernel
theorem dX8_refusalOfRow_31 : decode cX8_refusalOfRow 31 = .ok (.aload_n 0, 1) := by decide +kernel
theorem dX8_refusalOfRow_32 : decode cX8_refusalOfRow 32 = .ok (.getfield 47, 3) := by decide +kernel
theorem dX8_refusalOfRow_35 : decode cX8_refusalOfRow 35 = .ok (.getfield 373, 3) := by decide +kernel
theorem dX8_refusalOfRow_38 : decode cX8_refusalOfRow 38 = .ok (.iload_n 1, 1) := by decide +kernel
theorem dX8_refusalOfRow_39 : decode cX8_refusalOfRow 39 = .ok (.iaload, 1) := by decide +kernel
theorem dX8_refusalOfRow_40 : decode cX8_refusalOfRow 40 = .ok (.istore_n 2, 1) := by decide +kernel
theorem dX8_refusalOfRow_41 : decode cX8_refusalOfRow 41 = .ok (.iload_n 2, 1) := by decide +kernel
theorem dX8_refusalOfRow_42 : decode cX8_refusalOfRow 42 = .ok (.iconst 3, 1) := by decide +kernel
theorem dX8_refusalOfRow_43 : decode cX8_refusalOfRow 43 = .ok (.irem, 1) := by decide +kernel
theorem dX8_refusalOfRow_44 : decode cX8_refusalOfRow 44 = .ok (.ifCond .eq 6, 3) := by decide +kernel
theorem dX8_refusalOfRow_47 : decode cX8_refusalOfRow 47 = .ok (.bipush (-2), 2) := by decide +kernel
theorem dX8_refusalOfRow_49 : decode cX8_refusalOfRow 49 = .ok (.ireturn, 1) := by decide +kernel
theorem dX8_refusalOfRow_50 : decode cX8_refusalOfRow 50 = .ok (.iconst 0, 1) := by decide +kernel
theorem dX8_refusalOfRow_51 : decode cX8_refusalOfRow 51 = .ok (.istore_n 3, 1) := by decide +kernel
theorem dX8_refusalOfRow_52 : decode cX8_refusalOfRow 52 = .ok (.iload_n 3, 1) := by decide +kernel
theorem dX8_refusalOfRow_53 : decode cX8_refusalOfRow 53 = .ok (.iconst 2, 1) := by decide +kernel
theorem dX8_refusalOfRow_54 : decode cX8_refusalOfRow 54 = .ok (.iadd, 1) := by decide +kernel
theorem dX8_refusalOfRow_55 : decode cX8_refusalOfRow 55 = .ok (.iload_n 2, 1) := by decide +kernel
