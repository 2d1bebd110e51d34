theorem dX8_wire_66 : decode cX8_wire 66 = .ok (.bipush (-4), 2) := by decide +kernel
theorem dX8_wire_68 : decode cX8_wire 68 = .ok (.ireturn, 1) := by decide +kernel
theorem dX8_wire_69 : decode cX8_wire 69 = .ok (.aload_n 0, 1) := by decide +kernel
theorem dX8_wire_70 : decode cX8_wire 70 = .ok (.getfield 10, 3) := by decide +kernel
theorem dX8_wire_73 : decode cX8_wire 73 = .ok (.iconst 0, 1) := by decide +kernel
theorem dX8_wire_74 : decode cX8_wire 74 = .ok (.putfield 93, 3) := by decide +kernel
theorem dX8_wire_77 : decode cX8_wire 77 = .ok (.aload_n 0, 1) := by decide +kernel
theorem dX8_wire_78 : decode cX8_wire 78 = .ok (.getfield 33, 3) := by decide +kernel
theorem dX8_wire_81 : decode cX8_wire 81 = .ok (.aload_n 0, 1) := by decide +kernel
theorem dX8_wire_82 : decode cX8_wire 82 = .ok (.getfield 37, 3) := by decide +kernel
theorem dX8_wire_85 : decode cX8_wire 85 = .ok (.invokevirtual 114, 3) := by decide +kernel
theorem dX8_wire_88 : decode cX8_wire 88 = .ok (.aload_n 0, 1) := by decide +kernel
theorem dX8_wire_89 : decode cX8_wire 89 = .ok (.getfield 33, 3) := by decide +kernel
theorem dX8_wire_92 : decode cX8_wire 92 = .ok (.getfield 118, 3) := by decide +kernel
theorem dX8_wire_95 : decode cX8_wire 95 = .ok (.ireturn, 1) := by decide +kernel
theorem dX8_without_0 : decode cX8_without 0 = .ok (.aload_n 0, 1) := by decide +kernel
theorem dX8_without_1 : decode cX8_without 1 = .ok (.iload_n 1, 1) := by decide +kernel
theorem dX8_without_2 : decode cX8_without 2 = .ok (.invokevirtual 121, 3) := by decide +kernel
theorem dX8_without_5 : decode cX8_without 5 = .ok (.ifCond .ne 6, 3) := by decide +kernel
theorem dX8_without_8 : decode cX8_without 8 = .ok (.bipush (-2), 2) := by decide +kernel
theorem dX8_without_10 : decode cX8_without 10 = .ok (.ireturn, 1) := by decide +kernel
theorem dX8_without_11 : decode cX8_without 11 = .ok (.aload_n 0, 1) := by decide +kernel
theorem dX8_without_12 : decode cX8_without 12 = .ok (.getfield 54, 3) := by decide +kernel
theorem dX8_without_15 : decode cX8_without 15 = .ok (.aload_n 0, 1) := by decide +kernel
theorem dX8_without_16 : decode cX8_without 16 = .ok (.getfield 33, 3) := by decide +kernel
theorem dX8_without_19 : decode cX8_without 19 = .ok (.invokevirtual 148, 3) := by decide +kernel
theorem dX8_without_22 : decode cX8_without 22 = .ok (.aload_n 0, 1) := by decide +kernel
theorem dX8_without_23 : decode cX8_without 23 = .ok (.getfield 54, 3) := by decide +kernel
theorem dX8_without_26 : decode cX8_without 26 = .ok (.iload_n 1, 1) := by decide +kernel
theorem dX8_without_27 : decode cX8_without 27 = .ok (.putfield 263, 3) := by decide +kernel
theorem dX8_without_30 : decode cX8_without 30 = .ok (.aload_n 0, 1) := by decide +kernel
theorem dX8_without_31 : decode cX8_without 31 = .ok (.invokevirtual 245, 3) := by decide +kernel
theorem dX8_without_34 : decode cX8_without 34 = .ok (.ireturn, 1) := by decide +kernel
theorem dX8_worst_0 : decode cX8_worst 0 = .ok (.aload_n 0, 1) := by decide +kernel
theorem dX8_worst_1 : decode cX8_worst 1 = .ok (.iload_n 1, 1) := by decide +kernel
theorem dX8_worst_2 : decode cX8_worst 2 = .ok (.invokevirtual 145, 3) := by decide +kernel
theorem dX8_worst_5 : decode cX8_worst 5 = .ok (.ifCond .ne 6, 3) := by decide +kernel
theorem dX8_worst_8 : decode cX8_worst 8 = .ok (.bipush (-2), 2) := by decide +kernel
theorem dX8_worst_10 : decode cX8_worst 10 = .ok (.ireturn, 1) := by decide +kernel
theorem dX8_worst_11 : decode cX8_worst 11 = .ok (.aload_n 0, 1) := by decide +kernel
theorem dX8_worst_12 : decode cX8_worst 12 = .ok (.iload_n 1, 1) := by decide +kernel
theorem dX8_worst_13 : decode cX8_worst 13 = .ok (.invokevirtual 164, 3) := by decide +kernel
theorem dX8_worst_16 : decode cX8_worst 16 = .ok (.iconst (-1), 1) := by decide +kernel
theorem dX8_worst_17 : decode cX8_worst 17 = .ok (.istore_n 2, 1) := by decide +kernel
theorem dX8_worst_18 : decode cX8_worst 18 = .ok (.iconst 0, 1) := by decide +kernel
theorem dX8_worst_19 : decode cX8_worst 19 = .ok (.istore_n 3, 1) := by decide +kernel
theorem dX8_worst_20 : decode cX8_worst 20 = .ok (.iload_n 3, 1) := by decide +kernel
theorem dX8_worst_21 : decode cX8_worst 21 = .ok (.aload_n 0, 1) := by decide +kernel
theorem dX8_worst_22 : decode cX8_worst 22 = .ok (.getfield 33, 3) := by decide +kernel
theorem dX8_worst_25 : decode cX8_worst 25 = .ok (.getfield 210, 3) := by decide +kernel
theorem dX8_worst_28 : decode cX8_worst 28 = .ok (.if_icmp .ge 37, 3) := by decide +kernel
theorem dX8_worst_31 : decode cX8_worst 31 = .ok (.iload_n 2, 1) := by decide +kernel
theorem dX8_worst_32 : decode cX8_worst 32 = .ok (.iconst (-1), 1) := by decide +kernel
theorem dX8_worst_33 : decode cX8_worst 33 = .ok (.if_icmp .eq 24, 3) := by decide +kernel
theorem dX8_worst_36 : decode cX8_worst 36 = .ok (.aload_n 0, 1) := by decide +kernel
theorem dX8_worst_37 : decode cX8_worst 37 = .ok (.getfield 61, 3) := by decide +kernel
theorem dX8_worst_40 : decode cX8_worst 40 = .ok (.getfield 199, 3) := by decide +kernel
theorem dX8_worst_43 : decode cX8_worst 43 = .ok (.iload_n 3, 1) := by decide +kernel
theorem dX8_worst_44 : decode cX8_worst 44 = .ok (.iaload, 1) := by decide +kernel
theorem dX8_worst_45 : decode cX8_worst 45 = .ok (.aload_n 0, 1) := by decide +kernel
theorem dX8_worst_46 : decode cX8_worst 46 = .ok (.getfield 61, 3) := by decide +kernel
theorem dX8_worst_49 : decode cX8_worst 49 = .ok (.getfield 199, 3) := by decide +kernel
theorem dX8_worst_52 : decode cX8_worst 52 = .ok (.iload_n 2, 1) := by decide +kernel
theorem dX8_worst_53 : decode cX8_worst 53 = .ok (.iaload, 1) := by decide +kernel
theorem dX8_worst_54 : decode cX8_worst 54 = .ok (.if_icmp .ge 5, 3) := by decide +kernel
theorem dX8_worst_57 : decode cX8_worst 57 = .ok (.iload_n 3, 1) := by decide +kernel
theorem dX8_worst_58 : decode cX8_worst 58 = .ok (.istore_n 2, 1) := by decide +kernel
theorem dX8_worst_59 : decode cX8_worst 59 = .ok (.iinc 3 1, 3) := by decide +kernel
theorem dX8_worst_62 : decode cX8_worst 62 = .ok (.goto (-42), 3) := by decide +kernel
theorem dX8_worst_65 : decode cX8_worst 65 = .ok (.iload_n 2, 1) := by decide +kernel
theorem dX8_worst_66 : decode cX8_worst 66 = .ok (.ireturn, 1) := by decide +kernel
theorem dX8_worth_0 : decode cX8_worth 0 = .ok (.aload_n 0, 1) := by decide +kernel
theorem dX8_worth_1 : decode cX8_worth 1 = .ok (.invokevirtual 134, 3) := by decide +kernel
theorem dX8_worth_4 : decode cX8_worth 4 = .ok (.ifCond .eq 15, 3) := by decide +kernel
theorem dX8_worth_7 : decode cX8_worth 7 = .ok (.iload_n 1, 1) := by decide +kernel
theorem dX8_worth_8 : decode cX8_worth 8 = .ok (.ifCond .lt 11, 3) := by decide +kernel
theorem dX8_worth_11 : decode cX8_worth 11 = .ok (.iload_n 1, 1) := by decide +kernel
theorem dX8_worth_12 : decode cX8_worth 12 = .ok (.aload_n 0, 1) := by decide +kernel
theorem dX8_worth_13 : decode cX8_worth 13 = .ok (.invokevirtual 257, 3) := by decide +kernel
theorem dX8_worth_16 : decode cX8_worth 16 = .ok (.if_icmp .le 6, 3) := by decide +kernel
theorem dX8_worth_19 : decode cX8_worth 19 = .ok (.bipush (-2), 2) := by decide +kernel
theorem dX8_worth_21 : decode cX8_worth 21 = .ok (.ireturn, 1) := by decide +kernel
theorem dX8_worth_22 : decode cX8_worth 22 = .ok (.aload_n 0, 1) := by decide +kernel
theorem dX8_worth_23 : decode cX8_worth 23 = .ok (.iload_n 1, 1) := by decide +kernel
theorem dX8_worth_24 : decode cX8_worth 24 = .ok (.invokevirtual 260, 3) := by decide +kernel
theorem dX8_worth_27 : decode cX8_worth 27 = .ok (.ireturn, 1) := by decide +kernel
theorem dX8_worthOf_0 : decode cX8_worthOf 0 = .ok (.aload_n 0, 1) := by decide +kernel
theorem dX8_worthOf_1 : decode cX8_worthOf 1 = .ok (.getfield 54, 3) := by decide +kernel
theorem dX8_worthOf_4 : decode cX8_worthOf 4 = .ok (.aload_n 0, 1) := by decide +kernel
theorem dX8_worthOf_5 : decode cX8_worthOf 5 = .ok (.getfield 33, 3) := by decide +kernel
theorem dX8_worthOf_8 : decode cX8_worthOf 8 = .ok (.invokevirtual 148, 3) := by decide +kernel
theorem dX8_worthOf_11 : decode cX8_worthOf 11 = .ok (.aload_n 0, 1) := by decide +kernel
theorem dX8_worthOf_12 : decode cX8_worthOf 12 = .ok (.getfield 54, 3) := by decide +kernel
theorem dX8_worthOf_15 : decode cX8_worthOf 15 = .ok (.iload_n 1, 1) := by decide +kernel
theorem dX8_worthOf_16 : decode cX8_worthOf 16 = .ok (.putfield 409, 3) := by decide +kernel
theorem dX8_worthOf_19 : decode cX8_worthOf 19 = .ok (.aload_n 0, 1) := by decide +kernel
theorem dX8_worthOf_20 : decode cX8_worthOf 20 = .ok (.invokevirtual 245, 3) := by decide +kernel
theorem dX8_worthOf_23 : decode cX8_worthOf 23 = .ok (.ireturn, 1) := by decide +kernel
theorem dX8_write_0 : decode cX8_write 0 = .ok (.iload_n 1, 1) := by decide +kernel
theorem dX8_write_1 : decode cX8_write 1 = .ok (.invokestatic 364, 3) := by decide +kernel
theorem dX8_write_4 : decode cX8_write 4 = .ok (.ifCond .ne 6, 3) := by decide +kernel
theorem dX8_write_7 : decode cX8_write 7 = .ok (.bipush (-2), 2) := by decide +kernel
theorem dX8_write_9 : decode cX8_write 9 = .ok (.ireturn, 1) := by decide +kernel
theorem dX8_write_10 : decode cX8_write 10 = .ok (.aload_n 0, 1) := by decide +kernel
theorem dX8_write_11 : decode cX8_write 11 = .ok (.getfield 47, 3) := by decide +kernel
theorem dX8_write_14 : decode cX8_write 14 = .ok (.iload_n 1, 1) := by decide +kernel
theorem dX8_write_15 : decode cX8_write 15 = .ok (.invokevirtual 370, 3) := by decide +kernel
theorem dX8_write_18 : decode cX8_write 18 = .ok (.ifCond .ne 6, 3) := by decide +kernel
theorem dX8_write_21 : decode cX8_write 21 = .ok (.bipush (-6), 2) := by decide +kernel
theorem dX8_write_23 : decode cX8_write 23 = .ok (.ireturn, 1) := by decide +kernel
theorem dX8_write_24 : decode cX8_write 24 = .ok (.iload_n 2, 1) := by decide +kernel
theorem dX8_write_25 : decode cX8_write 25 = .ok (.ifCond .lt 16, 3) := by decide +kernel
theorem dX8_write_28 : decode cX8_write 28 = .ok (.iload_n 2, 1) := by decide +kernel
theorem dX8_write_29 : decode cX8_write 29 = .ok (.aload_n 0, 1) := by decide +kernel
theorem dX8_write_30 : decode cX8_write 30 = .ok (.getfield 47, 3) := by decide +kernel
theorem dX8_write_33 : decode cX8_write 33 = .ok (.getfield 373, 3) := by decide +kernel
theorem dX8_write_36 : decode cX8_write 36 = .ok (.iload_n 1, 1) := by decide +kernel
theorem dX8_write_37 : decode cX8_write 37 = .ok (.iaload, 1) := by decide +kernel
theorem dX8_write_38 : decode cX8_write 38 = .ok (.if_icmp .lt 6, 3) := by decide +kernel
theorem dX8_write_41 : decode cX8_write 41 = .ok (.bipush (-7), 2) := by decide +kernel
theorem dX8_write_43 : decode cX8_write 43 = .ok (.ireturn, 1) := by decide +kernel
theorem dX8_write_44 : decode cX8_write 44 = .ok (.aload_n 0, 1) := by decide +kernel
theorem dX8_write_45 : decode cX8_write 45 = .ok (.getfield 47, 3) := by decide +kernel
theorem dX8_write_48 : decode cX8_write 48 = .ok (.iload_n 1, 1) := by decide +kernel
theorem dX8_write_49 : decode cX8_write 49 = .ok (.iload_n 2, 1) := by decide +kernel
theorem dX8_write_50 : decode cX8_write 50 = .ok (.lload_n 3, 1) := by decide +kernel
theorem dX8_write_51 : decode cX8_write 51 = .ok (.invokevirtual 376, 3) := by decide +kernel
theorem dX8_write_54 : decode cX8_write 54 = .ok (.iconst 0, 1) := by decide +kernel
theorem dX8_write_55 : decode cX8_write 55 = .ok (.ireturn, 1) := by decide +kernel
theorem dX9_all_0 : decode cX9_all 0 = .ok (.aload_n 0, 1) := by decide +kernel
theorem dX9_all_1 : decode cX9_all 1 = .ok (.iconst 0, 1) := by decide +kernel
theorem dX9_all_2 : decode cX9_all 2 = .ok (.putfield 68, 3) := by decide +kernel
theorem dX9_all_5 : decode cX9_all 5 = .ok (.aload_n 0, 1) := by decide +kernel
theorem dX9_all_6 : decode cX9_all 6 = .ok (.invokevirtual 219, 3) := by decide +kernel
theorem dX9_all_9 : decode cX9_all 9 = .ok (.ifCond .eq 18, 3) := by decide +kernel
theorem dX9_all_12 : decode cX9_all 12 = .ok (.aload_n 0, 1) := by decide +kernel
theorem dX9_all_13 : decode cX9_all 13 = .ok (.iconst 1, 1) := by decide +kernel
theorem dX9_all_14 : decode cX9_all 14 = .ok (.aload_n 0, 1) := by decide +kernel
theorem dX9_all_15 : decode cX9_all 15 = .ok (.invokevirtual 212, 3) := by decide +kernel
theorem dX9_all_18 : decode cX9_all 18 = .ok (.ishl, 1) := by decide +kernel
theorem dX9_all_19 : decode cX9_all 19 = .ok (.iconst 1, 1) := by decide +kernel
theorem dX9_all_20 : decode cX9_all 20 = .ok (.isub, 1) := by decide +kernel
theorem dX9_all_21 : decode cX9_all 21 = .ok (.invokevirtual 325, 3) := by decide +kernel
theorem dX9_all_24 : decode cX9_all 24 = .ok (.goto 5, 3) := by decide +kernel
theorem dX9_all_27 : decode cX9_all 27 = .ok (.bipush (-2), 2) := by decide +kernel
theorem dX9_all_29 : decode cX9_all 29 = .ok (.ireturn, 1) := by decide +kernel
theorem dX9_amps_0 : decode cX9_amps 0 = .ok (.aload_n 0, 1) := by decide +kernel
theorem dX9_amps_1 : decode cX9_amps 1 = .ok (.iconst 0, 1) := by decide +kernel
theorem dX9_amps_2 : decode cX9_amps 2 = .ok (.putfield 68, 3) := by decide +kernel
theorem dX9_amps_5 : decode cX9_amps 5 = .ok (.aload_n 0, 1) := by decide +kernel
theorem dX9_amps_6 : decode cX9_amps 6 = .ok (.iload_n 1, 1) := by decide +kernel
theorem dX9_amps_7 : decode cX9_amps 7 = .ok (.i2l, 1) := by decide +kernel
theorem dX9_amps_8 : decode cX9_amps 8 = .ok (.invokevirtual 289, 3) := by decide +kernel
theorem dX9_amps_11 : decode cX9_amps 11 = .ok (.ifCond .eq 10, 3) := by decide +kernel
theorem dX9_amps_14 : decode cX9_amps 14 = .ok (.iload_n 2, 1) := by decide +kernel
theorem dX9_amps_15 : decode cX9_amps 15 = .ok (.invokestatic 292, 3) := by decide +kernel
theorem dX9_amps_18 : decode cX9_amps 18 = .ok (.ifCond .ne 7, 3) := by decide +kernel
theorem dX9_amps_21 : decode cX9_amps 21 = .ok (.ldc2_w 295, 3) := by decide +kernel
theorem dX9_amps_24 : decode cX9_amps 24 = .ok (.lreturn, 1) := by decide +kernel
theorem dX9_amps_25 : decode cX9_amps 25 = .ok (.aload_n 0, 1) := by decide +kernel
theorem dX9_amps_26 : decode cX9_amps 26 = .ok (.invokevirtual 286, 3) := by decide +kernel
theorem dX9_amps_29 : decode cX9_amps 29 = .ok (.aload_n 0, 1) := by decide +kernel
theorem dX9_amps_30 : decode cX9_amps 30 = .ok (.iload_n 1, 1) := by decide +kernel
theorem dX9_amps_31 : decode cX9_amps 31 = .ok (.invokevirtual 262, 3) := by decide +kernel
theorem dX9_amps_34 : decode cX9_amps 34 = .ok (.aload_n 0, 1) := by decide +kernel
theorem dX9_amps_35 : decode cX9_amps 35 = .ok (.getfield 250, 3) := by decide +kernel
theorem dX9_amps_38 : decode cX9_amps 38 = .ok (.ifCond .ne 8, 3) := by decide +kernel
theorem dX9_amps_41 : decode cX9_amps 41 = .ok (.iload_n 2, 1) := by decide +kernel
theorem dX9_amps_42 : decode cX9_amps 42 = .ok (.i2l, 1) := by decide +kernel
theorem dX9_amps_43 : decode cX9_amps 43 = .ok (.goto 23, 3) := by decide +kernel
theorem dX9_amps_46 : decode cX9_amps 46 = .ok (.aload_n 0, 1) := by decide +kernel
theorem dX9_amps_47 : decode cX9_amps 47 = .ok (.getfield 237, 3) := by decide +kernel
theorem dX9_amps_50 : decode cX9_amps 50 = .ok (.i2l, 1) := by decide +kernel
theorem dX9_amps_51 : decode cX9_amps 51 = .ok (.aload_n 0, 1) := by decide +kernel
theorem dX9_amps_52 : decode cX9_amps 52 = .ok (.getfield 59, 3) := by decide +kernel
theorem dX9_amps_55 : decode cX9_amps 55 = .ok (.iconst 0, 1) := by decide +kernel
theorem dX9_amps_56 : decode cX9_amps 56 = .ok (.laload, 1) := by decide +kernel
theorem dX9_amps_57 : decode cX9_amps 57 = .ok (.lmul, 1) := by decide +kernel
theorem dX9_amps_58 : decode cX9_amps 58 = .ok (.aload_n 0, 1) := by decide +kernel
theorem dX9_amps_59 : decode cX9_amps 59 = .ok (.getfield 259, 3) := by decide +kernel
theorem dX9_amps_62 : decode cX9_amps 62 = .ok (.iload_n 2, 1) := by decide +kernel
theorem dX9_amps_63 : decode cX9_amps 63 = .ok (.invokestatic 297, 3) := by decide +kernel
theorem dX9_amps_66 : decode cX9_amps 66 = .ok (.lreturn, 1) := by decide +kernel
theorem dX9_anew_0 : decode cX9_anew 0 = .ok (.aload_n 0, 1) := by decide +kernel
theorem dX9_anew_1 : decode cX9_anew 1 = .ok (.iconst 0, 1) := by decide +kernel
theorem dX9_anew_2 : decode cX9_anew 2 = .ok (.putfield 68, 3) := by decide +kernel
theorem dX9_anew_5 : decode cX9_anew 5 = .ok (.aload_n 0, 1) := by decide +kernel
theorem dX9_anew_6 : decode cX9_anew 6 = .ok (.invokevirtual 219, 3) := by decide +kernel
theorem dX9_anew_9 : decode cX9_anew 9 = .ok (.ifCond .ne 6, 3) := by decide +kernel
theorem dX9_anew_12 : decode cX9_anew 12 = .ok (.bipush (-2), 2) := by decide +kernel
theorem dX9_anew_14 : decode cX9_anew 14 = .ok (.ireturn, 1) := by decide +kernel
theorem dX9_anew_15 : decode cX9_anew 15 = .ok (.aload_n 0, 1) := by decide +kernel
theorem dX9_anew_16 : decode cX9_anew 16 = .ok (.getfield 34, 3) := by decide +kernel
theorem dX9_anew_19 : decode cX9_anew 19 = .ok (.bipush 6, 2) := by decide +kernel
theorem dX9_anew_21 : decode cX9_anew 21 = .ok (.iaload, 1) := by decide +kernel
theorem dX9_anew_22 : decode cX9_anew 22 = .ok (.istore_n 1, 1) := by decide +kernel
theorem dX9_anew_23 : decode cX9_anew 23 = .ok (.aload_n 0, 1) := by decide +kernel
theorem dX9_anew_24 : decode cX9_anew 24 = .ok (.getfield 34, 3) := by decide +kernel
theorem dX9_anew_27 : decode cX9_anew 27 = .ok (.bipush 6, 2) := by decide +kernel
theorem dX9_anew_29 : decode cX9_anew 29 = .ok (.iconst 0, 1) := by decide +kernel
theorem dX9_anew_30 : decode cX9_anew 30 = .ok (.iastore, 1) := by decide +kernel
theorem dX9_anew_31 : decode cX9_anew 31 = .ok (.iload_n 1, 1) := by decide +kernel
theorem dX9_anew_32 : decode cX9_anew 32 = .ok (.ireturn, 1) := by decide +kernel
theorem dX9_apart_0 : decode cX9_apart 0 = .ok (.aload_n 0, 1) := by decide +kernel
theorem dX9_apart_1 : decode cX9_apart 1 = .ok (.iconst 0, 1) := by decide +kernel
theorem dX9_apart_2 : decode cX9_apart 2 = .ok (.putfield 68, 3) := by decide +kernel
theorem dX9_apart_5 : decode cX9_apart 5 = .ok (.aload_n 0, 1) := by decide +kernel
theorem dX9_apart_6 : decode cX9_apart 6 = .ok (.iload_n 1, 1) := by decide +kernel
theorem dX9_apart_7 : decode cX9_apart 7 = .ok (.invokevirtual 268, 3) := by decide +kernel
theorem dX9_apart_10 : decode cX9_apart 10 = .ok (.ifCond .eq 21, 3) := by decide +kernel
theorem dX9_apart_13 : decode cX9_apart 13 = .ok (.aload_n 0, 1) := by decide +kernel
theorem dX9_apart_14 : decode cX9_apart 14 = .ok (.iload_n 2, 1) := by decide +kernel
theorem dX9_apart_15 : decode cX9_apart 15 = .ok (.invokevirtual 268, 3) := by decide +kernel
theorem dX9_apart_18 : decode cX9_apart 18 = .ok (.ifCond .eq 13, 3) := by decide +kernel
theorem dX9_apart_21 : decode cX9_apart 21 = .ok (.aload_n 0, 1) := by decide +kernel
theorem dX9_apart_22 : decode cX9_apart 22 = .ok (.iload_n 1, 1) := by decide +kernel
theorem dX9_apart_23 : decode cX9_apart 23 = .ok (.iload_n 2, 1) := by decide +kernel
theorem dX9_apart_24 : decode cX9_apart 24 = .ok (.iconst 0, 1) := by decide +kernel
theorem dX9_apart_25 : decode cX9_apart 25 = .ok (.invokevirtual 321, 3) := by decide +kernel
theorem dX9_apart_28 : decode cX9_apart 28 = .ok (.goto 5, 3) := by decide +kernel
theorem dX9_apart_31 : decode cX9_apart 31 = .ok (.bipush (-2), 2) := by decide +kernel
theorem dX9_apart_33 : decode cX9_apart 33 = .ok (.ireturn, 1) := by decide +kernel
theorem dX9_areTwo_0 : decode cX9_areTwo 0 = .ok (.aload_n 0, 1) := by decide +kernel
theorem dX9_areTwo_1 : decode cX9_areTwo 1 = .ok (.iload_n 1, 1) := by decide +kernel
theorem dX9_areTwo_2 : decode cX9_areTwo 2 = .ok (.invokevirtual 216, 3) := by decide +kernel
theorem dX9_areTwo_5 : decode cX9_areTwo 5 = .ok (.ifCond .eq 20, 3) := by decide +kernel
theorem dX9_areTwo_8 : decode cX9_areTwo 8 = .ok (.aload_n 0, 1) := by decide +kernel
theorem dX9_areTwo_9 : decode cX9_areTwo 9 = .ok (.iload_n 2, 1) := by decide +kernel
theorem dX9_areTwo_10 : decode cX9_areTwo 10 = .ok (.invokevirtual 216, 3) := by decide +kernel
theorem dX9_areTwo_13 : decode cX9_areTwo 13 = .ok (.ifCond .eq 12, 3) := by decide +kernel
theorem dX9_areTwo_16 : decode cX9_areTwo 16 = .ok (.iload_n 1, 1) := by decide +kernel
theorem dX9_areTwo_17 : decode cX9_areTwo 17 = .ok (.iload_n 2, 1) := by decide +kernel
theorem dX9_areTwo_18 : decode cX9_areTwo 18 = .ok (.if_icmp .eq 7, 3) := by decide +kernel
theorem dX9_areTwo_21 : decode cX9_areTwo 21 = .ok (.iconst 1, 1) := by decide +kernel
theorem dX9_areTwo_22 : decode cX9_areTwo 22 = .ok (.goto 4, 3) := by decide +kernel
theorem dX9_areTwo_25 : decode cX9_areTwo 25 = .ok (.iconst 0, 1) := by decide +kernel
theorem dX9_areTwo_26 : decode cX9_areTwo 26 = .ok (.ireturn, 1) := by decide +kernel
theorem dX9_ask_0 : decode cX9_ask 0 = .ok (.aload_n 0, 1) := by decide +kernel
theorem dX9_ask_1 : decode cX9_ask 1 = .ok (.iconst 0, 1) := by decide +kernel
theorem dX9_ask_2 : decode cX9_ask 2 = .ok (.putfield 68, 3) := by decide +kernel
theorem dX9_ask_5 : decode cX9_ask 5 = .ok (.aload_n 0, 1) := by decide +kernel
theorem dX9_ask_6 : decode cX9_ask 6 = .ok (.iload_n 1, 1) := by decide +kernel
theorem dX9_ask_7 : decode cX9_ask 7 = .ok (.aload_n 0, 1) := by decide +kernel
theorem dX9_ask_8 : decode cX9_ask 8 = .ok (.iload_n 2, 1) := by decide +kernel
theorem dX9_ask_9 : decode cX9_ask 9 = .ok (.invokevirtual 216, 3) := by decide +kernel
theorem dX9_ask_12 : decode cX9_ask 12 = .ok (.invokevirtual 358, 3) := by decide +kernel
theorem dX9_ask_15 : decode cX9_ask 15 = .ok (.istore_n 3, 1) := by decide +kernel
theorem dX9_ask_16 : decode cX9_ask 16 = .ok (.iload_n 3, 1) := by decide +kernel
theorem dX9_ask_17 : decode cX9_ask 17 = .ok (.ifCond .eq 5, 3) := by decide +kernel
theorem dX9_ask_20 : decode cX9_ask 20 = .ok (.iload_n 3, 1) := by decide +kernel
theorem dX9_ask_21 : decode cX9_ask 21 = .ok (.ireturn, 1) := by decide +kernel
theorem dX9_ask_22 : decode cX9_ask 22 = .ok (.aload_n 0, 1) := by decide +kernel
theorem dX9_ask_23 : decode cX9_ask 23 = .ok (.iload_n 1, 1) := by decide +kernel
theorem dX9_ask_24 : decode cX9_ask 24 = .ok (.iload_n 2, 1) := by decide +kernel
theorem dX9_ask_25 : decode cX9_ask 25 = .ok (.invokevirtual 362, 3) := by decide +kernel
theorem dX9_ask_28 : decode cX9_ask 28 = .ok (.aload_n 0, 1) := by decide +kernel
theorem dX9_ask_29 : decode cX9_ask 29 = .ok (.getfield 349, 3) := by decide +kernel
theorem dX9_ask_32 : decode cX9_ask 32 = .ok (.ireturn, 1) := by decide +kernel
theorem dX9_asks_0 : decode cX9_asks 0 = .ok (.aload_n 0, 1) := by decide +kernel
theorem dX9_asks_1 : decode cX9_asks 1 = .ok (.lload_n 1, 1) := by decide +kernel
theorem dX9_asks_2 : decode cX9_asks 2 = .ok (.invokevirtual 133, 3) := by decide +kernel
theorem dX9_asks_5 : decode cX9_asks 5 = .ok (.ifCond .ne 8, 3) := by decide +kernel
theorem dX9_asks_8 : decode cX9_asks 8 = .ok (.aload_n 0, 1) := by decide +kernel
theorem dX9_asks_9 : decode cX9_asks 9 = .ok (.iconst 1, 1) := by decide +kernel
theorem dX9_asks_10 : decode cX9_asks 10 = .ok (.invokevirtual 136, 3) := by decide +kernel
theorem dX9_asks_13 : decode cX9_asks 13 = .ok (.return_, 1) := by decide +kernel
theorem dX9_back_0 : decode cX9_back 0 = .ok (.aload_n 0, 1) := by decide +kernel
theorem dX9_back_1 : decode cX9_back 1 = .ok (.iconst 0, 1) := by decide +kernel
theorem dX9_back_2 : decode cX9_back 2 = .ok (.putfield 68, 3) := by decide +kernel
theorem dX9_back_5 : decode cX9_back 5 = .ok (.iload_n 1, 1) := by decide +kernel
theorem dX9_back_6 : decode cX9_back 6 = .ok (.i2l, 1) := by decide +kernel
theorem dX9_back_7 : decode cX9_back 7 = .ok (.lconst 0, 1) := by decide +kernel
theorem dX9_back_8 : decode cX9_back 8 = .ok (.ldc2_w 281, 3) := by decide +kernel
theorem dX9_back_11 : decode cX9_back 11 = .ok (.invokestatic 73, 3) := by decide +kernel
theorem dX9_back_14 : decode cX9_back 14 = .ok (.ifCond .ne 6, 3) := by decide +kernel
theorem dX9_back_17 : decode cX9_back 17 = .ok (.bipush (-2), 2) := by decide +kernel
theorem dX9_back_19 : decode cX9_back 19 = .ok (.ireturn, 1) := by decide +kernel
theorem dX9_back_20 : decode cX9_back 20 = .ok (.aload_n 0, 1) := by decide +kernel
theorem dX9_back_21 : decode cX9_back 21 = .ok (.getfield 46, 3) := by decide +kernel
theorem dX9_back_24 : decode cX9_back 24 = .ok (.iload_n 1, 1) := by decide +kernel
theorem dX9_back_25 : decode cX9_back 25 = .ok (.baload, 1) := by decide +kernel
theorem dX9_back_26 : decode cX9_back 26 = .ok (.ifCond .ne 6, 3) := by decide +kernel
theorem dX9_back_29 : decode cX9_back 29 = .ok (.bipush (-6), 2) := by decide +kernel
theorem dX9_back_31 : decode cX9_back 31 = .ok (.ireturn, 1) := by decide +kernel
theorem dX9_back_32 : decode cX9_back 32 = .ok (.aload_n 0, 1) := by decide +kernel
theorem dX9_back_33 : decode cX9_back 33 = .ok (.iconst 1, 1) := by decide +kernel
theorem dX9_back_34 : decode cX9_back 34 = .ok (.iload_n 1, 1) := by decide +kernel
theorem dX9_back_35 : decode cX9_back 35 = .ok (.iadd, 1) := by decide +kernel
theorem dX9_back_36 : decode cX9_back 36 = .ok (.iconst 0, 1) := by decide +kernel
theorem dX9_back_37 : decode cX9_back 37 = .ok (.invokevirtual 205, 3) := by decide +kernel
theorem dX9_back_40 : decode cX9_back 40 = .ok (.iconst 0, 1) := by decide +kernel
theorem dX9_back_41 : decode cX9_back 41 = .ok (.ireturn, 1) := by decide +kernel
theorem dX9_batteries_0 : decode cX9_batteries 0 = .ok (.aload_n 0, 1) := by decide +kernel
theorem dX9_batteries_1 : decode cX9_batteries 1 = .ok (.iconst 0, 1) := by decide +kernel
theorem dX9_batteries_2 : decode cX9_batteries 2 = .ok (.putfield 68, 3) := by decide +kernel
theorem dX9_batteries_5 : decode cX9_batteries 5 = .ok (.aload_n 0, 1) := by decide +kernel
theorem dX9_batteries_6 : decode cX9_batteries 6 = .ok (.invokevirtual 219, 3) := by decide +kernel
theorem dX9_batteries_9 : decode cX9_batteries 9 = .ok (.ifCond .eq 15, 3) := by decide +kernel
theorem dX9_batteries_12 : decode cX9_batteries 12 = .ok (.aload_n 0, 1) := by decide +kernel
theorem dX9_batteries_13 : decode cX9_batteries 13 = .ok (.iconst 0, 1) := by decide +kernel
theorem dX9_batteries_14 : decode cX9_batteries 14 = .ok (.aload_n 0, 1) := by decide +kernel
theorem dX9_batteries_15 : decode cX9_batteries 15 = .ok (.invokevirtual 222, 3) := by decide +kernel
theorem dX9_batteries_18 : decode cX9_batteries 18 = .ok (.invokevirtual 334, 3) := by decide +kernel
theorem dX9_batteries_21 : decode cX9_batteries 21 = .ok (.goto 5, 3) := by decide +kernel
theorem dX9_batteries_24 : decode cX9_batteries 24 = .ok (.bipush (-2), 2) := by decide +kernel
theorem dX9_batteries_26 : decode cX9_batteries 26 = .ok (.ireturn, 1) := by decide +kernel
theorem dX9_battery_0 : decode cX9_battery 0 = .ok (.aload_n 0, 1) := by decide +kernel
theorem dX9_battery_1 : decode cX9_battery 1 = .ok (.iconst 0, 1) := by decide +kernel
theorem dX9_battery_2 : decode cX9_battery 2 = .ok (.putfield 68, 3) := by decide +kernel
theorem dX9_battery_5 : decode cX9_battery 5 = .ok (.aload_n 0, 1) := by decide +kernel
theorem dX9_battery_6 : decode cX9_battery 6 = .ok (.iload_n 1, 1) := by decide +kernel
theorem dX9_battery_7 : decode cX9_battery 7 = .ok (.i2l, 1) := by decide +kernel
theorem dX9_battery_8 : decode cX9_battery 8 = .ok (.invokevirtual 289, 3) := by decide +kernel
theorem dX9_battery_11 : decode cX9_battery 11 = .ok (.ifCond .eq 12, 3) := by decide +kernel
theorem dX9_battery_14 : decode cX9_battery 14 = .ok (.aload_n 0, 1) := by decide +kernel
theorem dX9_battery_15 : decode cX9_battery 15 = .ok (.iload_n 1, 1) := by decide +kernel
theorem dX9_battery_16 : decode cX9_battery 16 = .ok (.iload_n 1, 1) := by decide +kernel
theorem dX9_battery_17 : decode cX9_battery 17 = .ok (.invokevirtual 334, 3) := by decide +kernel
theorem dX9_battery_20 : decode cX9_battery 20 = .ok (.goto 5, 3) := by decide +kernel
theorem dX9_battery_23 : decode cX9_battery 23 = .ok (.bipush (-2), 2) := by decide +kernel
theorem dX9_battery_25 : decode cX9_battery 25 = .ok (.ireturn, 1) := by decide +kernel
theorem dX9_batteryOf_0 : decode cX9_batteryOf 0 = .ok (.aload_n 0, 1) := by decide +kernel
theorem dX9_batteryOf_1 : decode cX9_batteryOf 1 = .ok (.invokevirtual 286, 3) := by decide +kernel
theorem dX9_batteryOf_4 : decode cX9_batteryOf 4 = .ok (.iconst 1, 1) := by decide +kernel
theorem dX9_batteryOf_5 : decode cX9_batteryOf 5 = .ok (.istore_n 3, 1) := by decide +kernel
theorem dX9_batteryOf_6 : decode cX9_batteryOf 6 = .ok (.iload_n 3, 1) := by decide +kernel
theorem dX9_batteryOf_7 : decode cX9_batteryOf 7 = .ok (.sipush 200, 3) := by decide +kernel
theorem dX9_batteryOf_10 : decode cX9_batteryOf 10 = .ok (.if_icmp .gt 25, 3) := by decide +kernel
theorem dX9_batteryOf_13 : decode cX9_batteryOf 13 = .ok (.aload_n 0, 1) := by decide +kernel
theorem dX9_batteryOf_14 : decode cX9_batteryOf 14 = .ok (.iload_n 3, 1) := by decide +kernel
theorem dX9_batteryOf_15 : decode cX9_batteryOf 15 = .ok (.putfield 237, 3) := by decide +kernel
theorem dX9_batteryOf_18 : decode cX9_batteryOf 18 = .ok (.aload_n 0, 1) := by decide +kernel
theorem dX9_batteryOf_19 : decode cX9_batteryOf 19 = .ok (.iload_n 1, 1) := by decide +kernel
theorem dX9_batteryOf_20 : decode cX9_batteryOf 20 = .ok (.iload_n 2, 1) := by decide +kernel
theorem dX9_batteryOf_21 : decode cX9_batteryOf 21 = .ok (.invokevirtual 331, 3) := by decide +kernel
theorem dX9_batteryOf_24 : decode cX9_batteryOf 24 = .ok (.ifCond .eq 5, 3) := by decide +kernel
theorem dX9_batteryOf_27 : decode cX9_batteryOf 27 = .ok (.iload_n 3, 1) := by decide +kernel
theorem dX9_batteryOf_28 : decode cX9_batteryOf 28 = .ok (.ireturn, 1) := by decide +kernel
theorem dX9_batteryOf_29 : decode cX9_batteryOf 29 = .ok (.iinc 3 1, 3) := by decide +kernel
theorem dX9_batteryOf_32 : decode cX9_batteryOf 32 = .ok (.goto (-26), 3) := by decide +kernel
theorem dX9_batteryOf_35 : decode cX9_batteryOf 35 = .ok (.iconst (-1), 1) := by decide +kernel
theorem dX9_batteryOf_36 : decode cX9_batteryOf 36 = .ok (.ireturn, 1) := by decide +kernel
theorem dX9_begins_0 : decode cX9_begins 0 = .ok (.aload_n 0, 1) := by decide +kernel
theorem dX9_begins_1 : decode cX9_begins 1 = .ok (.iconst 0, 1) := by decide +kernel
theorem dX9_begins_2 : decode cX9_begins 2 = .ok (.putfield 120, 3) := by decide +kernel
theorem dX9_begins_5 : decode cX9_begins 5 = .ok (.aload_n 0, 1) := by decide +kernel
theorem dX9_begins_6 : decode cX9_begins 6 = .ok (.iconst (-1), 1) := by decide +kernel
theorem dX9_begins_7 : decode cX9_begins 7 = .ok (.putfield 123, 3) := by decide +kernel
theorem dX9_begins_10 : decode cX9_begins 10 = .ok (.aload_n 0, 1) := by decide +kernel
theorem dX9_begins_11 : decode cX9_begins 11 = .ok (.iconst 0, 1) := by decide +kernel
theorem dX9_begins_12 : decode cX9_begins 12 = .ok (.putfield 92, 3) := by decide +kernel
theorem dX9_begins_15 : decode cX9_begins 15 = .ok (.aload_n 0, 1) := by decide +kernel
theorem dX9_begins_16 : decode cX9_begins 16 = .ok (.invokevirtual 130, 3) := by decide +kernel
theorem dX9_begins_19 : decode cX9_begins 19 = .ok (.return_, 1) := by decide +kernel
theorem dX9_best_0 : decode cX9_best 0 = .ok (.aload_n 0, 1) := by decide +kernel
theorem dX9_best_1 : decode cX9_best 1 = .ok (.iconst 0, 1) := by decide +kernel
theorem dX9_best_2 : decode cX9_best 2 = .ok (.putfield 68, 3) := by decide +kernel
theorem dX9_best_5 : decode cX9_best 5 = .ok (.aload_n 0, 1) := by decide +kernel
theorem dX9_best_6 : decode cX9_best 6 = .ok (.invokevirtual 219, 3) := by decide +kernel
theorem dX9_best_9 : decode cX9_best 9 = .ok (.ifCond .ne 6, 3) := by decide +kernel
theorem dX9_best_12 : decode cX9_best 12 = .ok (.bipush (-2), 2) := by decide +kernel
theorem dX9_best_14 : decode cX9_best 14 = .ok (.ireturn, 1) := by decide +kernel
theorem dX9_best_15 : decode cX9_best 15 = .ok (.aload_n 0, 1) := by decide +kernel
theorem dX9_best_16 : decode cX9_best 16 = .ok (.iconst 0, 1) := by decide +kernel
theorem dX9_best_17 : decode cX9_best 17 = .ok (.invokevirtual 325, 3) := by decide +kernel
theorem dX9_best_20 : decode cX9_best 20 = .ok (.istore_n 1, 1) := by decide +kernel
theorem dX9_best_21 : decode cX9_best 21 = .ok (.iconst (-1), 1) := by decide +kernel
theorem dX9_best_22 : decode cX9_best 22 = .ok (.istore_n 2, 1) := by decide +kernel
theorem dX9_best_23 : decode cX9_best 23 = .ok (.iconst 0, 1) := by decide +kernel
theorem dX9_best_24 : decode cX9_best 24 = .ok (.istore_n 3, 1) := by decide +kernel
theorem dX9_best_25 : decode cX9_best 25 = .ok (.iload_n 3, 1) := by decide +kernel
theorem dX9_best_26 : decode cX9_best 26 = .ok (.aload_n 0, 1) := by decide +kernel
theorem dX9_best_27 : decode cX9_best 27 = .ok (.invokevirtual 212, 3) := by decide +kernel
theorem dX9_best_30 : decode cX9_best 30 = .ok (.if_icmp .ge 32, 3) := by decide +kernel
theorem dX9_best_33 : decode cX9_best 33 = .ok (.aload_n 0, 1) := by decide +kernel
theorem dX9_best_34 : decode cX9_best 34 = .ok (.iconst 1, 1) := by decide +kernel
theorem dX9_best_35 : decode cX9_best 35 = .ok (.iload_n 3, 1) := by decide +kernel
theorem dX9_best_36 : decode cX9_best 36 = .ok (.ishl, 1) := by decide +kernel
theorem dX9_best_37 : decode cX9_best 37 = .ok (.invokevirtual 325, 3) := by decide +kernel
theorem dX9_best_40 : decode cX9_best 40 = .ok (.istore 4, 2) := by decide +kernel
theorem dX9_best_42 : decode cX9_best 42 = .ok (.iload 4, 2) := by decide +kernel
theorem dX9_best_44 : decode cX9_best 44 = .ok (.iload_n 1, 1) := by decide +kernel
theorem dX9_best_45 : decode cX9_best 45 = .ok (.if_icmp .gt 6, 3) := by decide +kernel
theorem dX9_best_48 : decode cX9_best 48 = .ok (.goto 8, 3) := by decide +kernel
theorem dX9_best_51 : decode cX9_best 51 = .ok (.iload_n 3, 1) := by decide +kernel
theorem dX9_best_52 : decode cX9_best 52 = .ok (.istore_n 2, 1) := by decide +kernel
theorem dX9_best_53 : decode cX9_best 53 = .ok (.iload 4, 2) := by decide +kernel
theorem dX9_best_55 : decode cX9_best 55 = .ok (.istore_n 1, 1) := by decide +kernel
theorem dX9_best_56 : decode cX9_best 56 = .ok (.iinc 3 1, 3) := by decide +kernel
theorem dX9_best_59 : decode cX9_best 59 = .ok (.goto (-34), 3) := by decide +kernel
theorem dX9_best_62 : decode cX9_best 62 = .ok (.iload_n 2, 1) := by decide +kernel
theorem dX9_best_63 : decode cX9_best 63 = .ok (.ireturn, 1) := by decide +kernel
theorem dX9_both_0 : decode cX9_both 0 = .ok (.aload_n 0, 1) := by decide +kernel
theorem dX9_both_1 : decode cX9_both 1 = .ok (.iconst 0, 1) := by decide +kernel
theorem dX9_both_2 : decode cX9_both 2 = .ok (.putfield 68, 3) := by decide +kernel
theorem dX9_both_5 : decode cX9_both 5 = .ok (.aload_n 0, 1) := by decide +kernel
theorem dX9_both_6 : decode cX9_both 6 = .ok (.iload_n 1, 1) := by decide +kernel
theorem dX9_both_7 : decode cX9_both 7 = .ok (.invokevirtual 268, 3) := by decide +kernel
theorem dX9_both_10 : decode cX9_both 10 = .ok (.ifCond .eq 21, 3) := by decide +kernel
theorem dX9_both_13 : decode cX9_both 13 = .ok (.aload_n 0, 1) := by decide +kernel
