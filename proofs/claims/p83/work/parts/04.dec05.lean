theorem dX8_anew_22 : decode cX8_anew 22 = .ok (.iconst 0, 1) := by decide +kernel
theorem dX8_anew_23 : decode cX8_anew 23 = .ok (.invokevirtual 342, 3) := by decide +kernel
theorem dX8_anew_26 : decode cX8_anew 26 = .ok (.iload_n 1, 1) := by decide +kernel
theorem dX8_anew_27 : decode cX8_anew 27 = .ok (.ireturn, 1) := by decide +kernel
theorem dX8_apart_0 : decode cX8_apart 0 = .ok (.aload_n 0, 1) := by decide +kernel
theorem dX8_apart_1 : decode cX8_apart 1 = .ok (.iload_n 1, 1) := by decide +kernel
theorem dX8_apart_2 : decode cX8_apart 2 = .ok (.invokevirtual 213, 3) := by decide +kernel
theorem dX8_apart_5 : decode cX8_apart 5 = .ok (.ifCond .eq 11, 3) := by decide +kernel
theorem dX8_apart_8 : decode cX8_apart 8 = .ok (.aload_n 0, 1) := by decide +kernel
theorem dX8_apart_9 : decode cX8_apart 9 = .ok (.iload_n 2, 1) := by decide +kernel
theorem dX8_apart_10 : decode cX8_apart 10 = .ok (.invokevirtual 213, 3) := by decide +kernel
theorem dX8_apart_13 : decode cX8_apart 13 = .ok (.ifCond .ne 6, 3) := by decide +kernel
theorem dX8_apart_16 : decode cX8_apart 16 = .ok (.bipush (-2), 2) := by decide +kernel
theorem dX8_apart_18 : decode cX8_apart 18 = .ok (.ireturn, 1) := by decide +kernel
theorem dX8_apart_19 : decode cX8_apart 19 = .ok (.aload_n 0, 1) := by decide +kernel
theorem dX8_apart_20 : decode cX8_apart 20 = .ok (.iload_n 1, 1) := by decide +kernel
theorem dX8_apart_21 : decode cX8_apart 21 = .ok (.invokevirtual 219, 3) := by decide +kernel
theorem dX8_apart_24 : decode cX8_apart 24 = .ok (.aload_n 0, 1) := by decide +kernel
theorem dX8_apart_25 : decode cX8_apart 25 = .ok (.iload_n 2, 1) := by decide +kernel
theorem dX8_apart_26 : decode cX8_apart 26 = .ok (.invokevirtual 219, 3) := by decide +kernel
theorem dX8_apart_29 : decode cX8_apart 29 = .ok (.ixor, 1) := by decide +kernel
theorem dX8_apart_30 : decode cX8_apart 30 = .ok (.invokestatic 227, 3) := by decide +kernel
theorem dX8_apart_33 : decode cX8_apart 33 = .ok (.ireturn, 1) := by decide +kernel
theorem dX8_ask_0 : decode cX8_ask 0 = .ok (.aload_n 0, 1) := by decide +kernel
theorem dX8_ask_1 : decode cX8_ask 1 = .ok (.iload_n 1, 1) := by decide +kernel
theorem dX8_ask_2 : decode cX8_ask 2 = .ok (.iload_n 2, 1) := by decide +kernel
theorem dX8_ask_3 : decode cX8_ask 3 = .ok (.invokevirtual 289, 3) := by decide +kernel
theorem dX8_ask_6 : decode cX8_ask 6 = .ok (.istore_n 3, 1) := by decide +kernel
theorem dX8_ask_7 : decode cX8_ask 7 = .ok (.iload_n 3, 1) := by decide +kernel
theorem dX8_ask_8 : decode cX8_ask 8 = .ok (.ifCond .eq 7, 3) := by decide +kernel
theorem dX8_ask_11 : decode cX8_ask 11 = .ok (.iload_n 3, 1) := by decide +kernel
theorem dX8_ask_12 : decode cX8_ask 12 = .ok (.goto 14, 3) := by decide +kernel
theorem dX8_ask_15 : decode cX8_ask 15 = .ok (.aload_n 0, 1) := by decide +kernel
theorem dX8_ask_16 : decode cX8_ask 16 = .ok (.aload_n 0, 1) := by decide +kernel
theorem dX8_ask_17 : decode cX8_ask 17 = .ok (.iload_n 1, 1) := by decide +kernel
theorem dX8_ask_18 : decode cX8_ask 18 = .ok (.iload_n 2, 1) := by decide +kernel
theorem dX8_ask_19 : decode cX8_ask 19 = .ok (.invokevirtual 292, 3) := by decide +kernel
theorem dX8_ask_22 : decode cX8_ask 22 = .ok (.iload_n 2, 1) := by decide +kernel
theorem dX8_ask_23 : decode cX8_ask 23 = .ok (.invokevirtual 295, 3) := by decide +kernel
theorem dX8_ask_26 : decode cX8_ask 26 = .ok (.ireturn, 1) := by decide +kernel
theorem dX8_back_0 : decode cX8_back 0 = .ok (.iload_n 1, 1) := by decide +kernel
theorem dX8_back_1 : decode cX8_back 1 = .ok (.ifCond .lt 12, 3) := by decide +kernel
theorem dX8_back_4 : decode cX8_back 4 = .ok (.iload_n 1, 1) := by decide +kernel
theorem dX8_back_5 : decode cX8_back 5 = .ok (.aload_n 0, 1) := by decide +kernel
theorem dX8_back_6 : decode cX8_back 6 = .ok (.getfield 40, 3) := by decide +kernel
theorem dX8_back_9 : decode cX8_back 9 = .ok (.arraylength, 1) := by decide +kernel
theorem dX8_back_10 : decode cX8_back 10 = .ok (.if_icmp .lt 6, 3) := by decide +kernel
theorem dX8_back_13 : decode cX8_back 13 = .ok (.bipush (-2), 2) := by decide +kernel
theorem dX8_back_15 : decode cX8_back 15 = .ok (.ireturn, 1) := by decide +kernel
theorem dX8_back_16 : decode cX8_back 16 = .ok (.aload_n 0, 1) := by decide +kernel
theorem dX8_back_17 : decode cX8_back 17 = .ok (.getfield 40, 3) := by decide +kernel
theorem dX8_back_20 : decode cX8_back 20 = .ok (.iload_n 1, 1) := by decide +kernel
theorem dX8_back_21 : decode cX8_back 21 = .ok (.aaload, 1) := by decide +kernel
theorem dX8_back_22 : decode cX8_back 22 = .ok (.astore_n 2, 1) := by decide +kernel
theorem dX8_back_23 : decode cX8_back 23 = .ok (.aload_n 2, 1) := by decide +kernel
theorem dX8_back_24 : decode cX8_back 24 = .ok (.ifnonnull 6, 3) := by decide +kernel
theorem dX8_back_27 : decode cX8_back 27 = .ok (.bipush (-6), 2) := by decide +kernel
theorem dX8_back_29 : decode cX8_back 29 = .ok (.ireturn, 1) := by decide +kernel
theorem dX8_back_30 : decode cX8_back 30 = .ok (.aload_n 0, 1) := by decide +kernel
theorem dX8_back_31 : decode cX8_back 31 = .ok (.getfield 33, 3) := by decide +kernel
theorem dX8_back_34 : decode cX8_back 34 = .ok (.aload_n 2, 1) := by decide +kernel
theorem dX8_back_35 : decode cX8_back 35 = .ok (.invokevirtual 114, 3) := by decide +kernel
theorem dX8_back_38 : decode cX8_back 38 = .ok (.iconst 0, 1) := by decide +kernel
theorem dX8_back_39 : decode cX8_back 39 = .ok (.ireturn, 1) := by decide +kernel
theorem dX8_batteries_0 : decode cX8_batteries 0 = .ok (.aload_n 0, 1) := by decide +kernel
theorem dX8_batteries_1 : decode cX8_batteries 1 = .ok (.invokevirtual 134, 3) := by decide +kernel
theorem dX8_batteries_4 : decode cX8_batteries 4 = .ok (.ifCond .ne 6, 3) := by decide +kernel
theorem dX8_batteries_7 : decode cX8_batteries 7 = .ok (.bipush (-2), 2) := by decide +kernel
theorem dX8_batteries_9 : decode cX8_batteries 9 = .ok (.ireturn, 1) := by decide +kernel
theorem dX8_batteries_10 : decode cX8_batteries 10 = .ok (.aload_n 0, 1) := by decide +kernel
theorem dX8_batteries_11 : decode cX8_batteries 11 = .ok (.getfield 54, 3) := by decide +kernel
theorem dX8_batteries_14 : decode cX8_batteries 14 = .ok (.aload_n 0, 1) := by decide +kernel
theorem dX8_batteries_15 : decode cX8_batteries 15 = .ok (.getfield 33, 3) := by decide +kernel
theorem dX8_batteries_18 : decode cX8_batteries 18 = .ok (.invokevirtual 148, 3) := by decide +kernel
theorem dX8_batteries_21 : decode cX8_batteries 21 = .ok (.iconst 1, 1) := by decide +kernel
theorem dX8_batteries_22 : decode cX8_batteries 22 = .ok (.istore_n 1, 1) := by decide +kernel
theorem dX8_batteries_23 : decode cX8_batteries 23 = .ok (.iconst 0, 1) := by decide +kernel
theorem dX8_batteries_24 : decode cX8_batteries 24 = .ok (.istore_n 2, 1) := by decide +kernel
theorem dX8_batteries_25 : decode cX8_batteries 25 = .ok (.iload_n 2, 1) := by decide +kernel
theorem dX8_batteries_26 : decode cX8_batteries 26 = .ok (.aload_n 0, 1) := by decide +kernel
theorem dX8_batteries_27 : decode cX8_batteries 27 = .ok (.getfield 33, 3) := by decide +kernel
theorem dX8_batteries_30 : decode cX8_batteries 30 = .ok (.getfield 242, 3) := by decide +kernel
theorem dX8_batteries_33 : decode cX8_batteries 33 = .ok (.if_icmp .gt 43, 3) := by decide +kernel
theorem dX8_batteries_36 : decode cX8_batteries 36 = .ok (.aload_n 0, 1) := by decide +kernel
theorem dX8_batteries_37 : decode cX8_batteries 37 = .ok (.getfield 61, 3) := by decide +kernel
theorem dX8_batteries_40 : decode cX8_batteries 40 = .ok (.aload_n 0, 1) := by decide +kernel
theorem dX8_batteries_41 : decode cX8_batteries 41 = .ok (.getfield 33, 3) := by decide +kernel
theorem dX8_batteries_44 : decode cX8_batteries 44 = .ok (.aload_n 0, 1) := by decide +kernel
theorem dX8_batteries_45 : decode cX8_batteries 45 = .ok (.getfield 54, 3) := by decide +kernel
theorem dX8_batteries_48 : decode cX8_batteries 48 = .ok (.iload_n 2, 1) := by decide +kernel
theorem dX8_batteries_49 : decode cX8_batteries 49 = .ok (.invokevirtual 281, 3) := by decide +kernel
theorem dX8_batteries_52 : decode cX8_batteries 52 = .ok (.aload_n 0, 1) := by decide +kernel
theorem dX8_batteries_53 : decode cX8_batteries 53 = .ok (.invokevirtual 278, 3) := by decide +kernel
theorem dX8_batteries_56 : decode cX8_batteries 56 = .ok (.istore_n 3, 1) := by decide +kernel
theorem dX8_batteries_57 : decode cX8_batteries 57 = .ok (.iload_n 3, 1) := by decide +kernel
theorem dX8_batteries_58 : decode cX8_batteries 58 = .ok (.iconst (-1), 1) := by decide +kernel
theorem dX8_batteries_59 : decode cX8_batteries 59 = .ok (.if_icmp .ne 5, 3) := by decide +kernel
theorem dX8_batteries_62 : decode cX8_batteries 62 = .ok (.iconst (-1), 1) := by decide +kernel
theorem dX8_batteries_63 : decode cX8_batteries 63 = .ok (.ireturn, 1) := by decide +kernel
theorem dX8_batteries_64 : decode cX8_batteries 64 = .ok (.iload_n 1, 1) := by decide +kernel
theorem dX8_batteries_65 : decode cX8_batteries 65 = .ok (.iload_n 3, 1) := by decide +kernel
theorem dX8_batteries_66 : decode cX8_batteries 66 = .ok (.invokestatic 249, 3) := by decide +kernel
theorem dX8_batteries_69 : decode cX8_batteries 69 = .ok (.istore_n 1, 1) := by decide +kernel
theorem dX8_batteries_70 : decode cX8_batteries 70 = .ok (.iinc 2 1, 3) := by decide +kernel
theorem dX8_batteries_73 : decode cX8_batteries 73 = .ok (.goto (-48), 3) := by decide +kernel
theorem dX8_batteries_76 : decode cX8_batteries 76 = .ok (.iload_n 1, 1) := by decide +kernel
theorem dX8_batteries_77 : decode cX8_batteries 77 = .ok (.ireturn, 1) := by decide +kernel
theorem dX8_battery_0 : decode cX8_battery 0 = .ok (.aload_n 0, 1) := by decide +kernel
theorem dX8_battery_1 : decode cX8_battery 1 = .ok (.iload_n 1, 1) := by decide +kernel
theorem dX8_battery_2 : decode cX8_battery 2 = .ok (.invokevirtual 145, 3) := by decide +kernel
theorem dX8_battery_5 : decode cX8_battery 5 = .ok (.ifCond .ne 6, 3) := by decide +kernel
theorem dX8_battery_8 : decode cX8_battery 8 = .ok (.bipush (-2), 2) := by decide +kernel
theorem dX8_battery_10 : decode cX8_battery 10 = .ok (.ireturn, 1) := by decide +kernel
theorem dX8_battery_11 : decode cX8_battery 11 = .ok (.aload_n 0, 1) := by decide +kernel
theorem dX8_battery_12 : decode cX8_battery 12 = .ok (.iload_n 1, 1) := by decide +kernel
theorem dX8_battery_13 : decode cX8_battery 13 = .ok (.invokevirtual 164, 3) := by decide +kernel
theorem dX8_battery_16 : decode cX8_battery 16 = .ok (.aload_n 0, 1) := by decide +kernel
theorem dX8_battery_17 : decode cX8_battery 17 = .ok (.invokevirtual 278, 3) := by decide +kernel
theorem dX8_battery_20 : decode cX8_battery 20 = .ok (.ireturn, 1) := by decide +kernel
theorem dX8_best_0 : decode cX8_best 0 = .ok (.aload_n 0, 1) := by decide +kernel
theorem dX8_best_1 : decode cX8_best 1 = .ok (.invokevirtual 134, 3) := by decide +kernel
theorem dX8_best_4 : decode cX8_best 4 = .ok (.ifCond .ne 6, 3) := by decide +kernel
theorem dX8_best_7 : decode cX8_best 7 = .ok (.bipush (-2), 2) := by decide +kernel
theorem dX8_best_9 : decode cX8_best 9 = .ok (.ireturn, 1) := by decide +kernel
theorem dX8_best_10 : decode cX8_best 10 = .ok (.aload_n 0, 1) := by decide +kernel
theorem dX8_best_11 : decode cX8_best 11 = .ok (.iconst 0, 1) := by decide +kernel
theorem dX8_best_12 : decode cX8_best 12 = .ok (.invokevirtual 260, 3) := by decide +kernel
theorem dX8_best_15 : decode cX8_best 15 = .ok (.istore_n 1, 1) := by decide +kernel
theorem dX8_best_16 : decode cX8_best 16 = .ok (.iconst (-1), 1) := by decide +kernel
theorem dX8_best_17 : decode cX8_best 17 = .ok (.istore_n 2, 1) := by decide +kernel
theorem dX8_best_18 : decode cX8_best 18 = .ok (.iconst 0, 1) := by decide +kernel
theorem dX8_best_19 : decode cX8_best 19 = .ok (.istore_n 3, 1) := by decide +kernel
theorem dX8_best_20 : decode cX8_best 20 = .ok (.iload_n 3, 1) := by decide +kernel
theorem dX8_best_21 : decode cX8_best 21 = .ok (.aload_n 0, 1) := by decide +kernel
theorem dX8_best_22 : decode cX8_best 22 = .ok (.getfield 33, 3) := by decide +kernel
theorem dX8_best_25 : decode cX8_best 25 = .ok (.getfield 210, 3) := by decide +kernel
theorem dX8_best_28 : decode cX8_best 28 = .ok (.if_icmp .ge 29, 3) := by decide +kernel
theorem dX8_best_31 : decode cX8_best 31 = .ok (.aload_n 0, 1) := by decide +kernel
theorem dX8_best_32 : decode cX8_best 32 = .ok (.iconst 1, 1) := by decide +kernel
theorem dX8_best_33 : decode cX8_best 33 = .ok (.iload_n 3, 1) := by decide +kernel
theorem dX8_best_34 : decode cX8_best 34 = .ok (.ishl, 1) := by decide +kernel
theorem dX8_best_35 : decode cX8_best 35 = .ok (.invokevirtual 260, 3) := by decide +kernel
theorem dX8_best_38 : decode cX8_best 38 = .ok (.istore 4, 2) := by decide +kernel
theorem dX8_best_40 : decode cX8_best 40 = .ok (.iload 4, 2) := by decide +kernel
theorem dX8_best_42 : decode cX8_best 42 = .ok (.iload_n 1, 1) := by decide +kernel
theorem dX8_best_43 : decode cX8_best 43 = .ok (.if_icmp .le 8, 3) := by decide +kernel
theorem dX8_best_46 : decode cX8_best 46 = .ok (.iload 4, 2) := by decide +kernel
theorem dX8_best_48 : decode cX8_best 48 = .ok (.istore_n 1, 1) := by decide +kernel
theorem dX8_best_49 : decode cX8_best 49 = .ok (.iload_n 3, 1) := by decide +kernel
theorem dX8_best_50 : decode cX8_best 50 = .ok (.istore_n 2, 1) := by decide +kernel
theorem dX8_best_51 : decode cX8_best 51 = .ok (.iinc 3 1, 3) := by decide +kernel
theorem dX8_best_54 : decode cX8_best 54 = .ok (.goto (-34), 3) := by decide +kernel
theorem dX8_best_57 : decode cX8_best 57 = .ok (.iload_n 2, 1) := by decide +kernel
theorem dX8_best_58 : decode cX8_best 58 = .ok (.ireturn, 1) := by decide +kernel
theorem dX8_both_0 : decode cX8_both 0 = .ok (.aload_n 0, 1) := by decide +kernel
theorem dX8_both_1 : decode cX8_both 1 = .ok (.iload_n 1, 1) := by decide +kernel
theorem dX8_both_2 : decode cX8_both 2 = .ok (.invokevirtual 213, 3) := by decide +kernel
theorem dX8_both_5 : decode cX8_both 5 = .ok (.ifCond .eq 11, 3) := by decide +kernel
theorem dX8_both_8 : decode cX8_both 8 = .ok (.aload_n 0, 1) := by decide +kernel
theorem dX8_both_9 : decode cX8_both 9 = .ok (.iload_n 2, 1) := by decide +kernel
theorem dX8_both_10 : decode cX8_both 10 = .ok (.invokevirtual 213, 3) := by decide +kernel
theorem dX8_both_13 : decode cX8_both 13 = .ok (.ifCond .ne 6, 3) := by decide +kernel
theorem dX8_both_16 : decode cX8_both 16 = .ok (.bipush (-2), 2) := by decide +kernel
theorem dX8_both_18 : decode cX8_both 18 = .ok (.ireturn, 1) := by decide +kernel
theorem dX8_both_19 : decode cX8_both 19 = .ok (.aload_n 0, 1) := by decide +kernel
theorem dX8_both_20 : decode cX8_both 20 = .ok (.iload_n 1, 1) := by decide +kernel
theorem dX8_both_21 : decode cX8_both 21 = .ok (.invokevirtual 219, 3) := by decide +kernel
theorem dX8_both_24 : decode cX8_both 24 = .ok (.aload_n 0, 1) := by decide +kernel
theorem dX8_both_25 : decode cX8_both 25 = .ok (.iload_n 2, 1) := by decide +kernel
theorem dX8_both_26 : decode cX8_both 26 = .ok (.invokevirtual 219, 3) := by decide +kernel
theorem dX8_both_29 : decode cX8_both 29 = .ok (.iand, 1) := by decide +kernel
theorem dX8_both_30 : decode cX8_both 30 = .ok (.invokestatic 227, 3) := by decide +kernel
theorem dX8_both_33 : decode cX8_both 33 = .ok (.ireturn, 1) := by decide +kernel
theorem dX8_breaks_0 : decode cX8_breaks 0 = .ok (.aload_n 0, 1) := by decide +kernel
theorem dX8_breaks_1 : decode cX8_breaks 1 = .ok (.iload_n 1, 1) := by decide +kernel
theorem dX8_breaks_2 : decode cX8_breaks 2 = .ok (.invokevirtual 302, 3) := by decide +kernel
theorem dX8_breaks_5 : decode cX8_breaks 5 = .ok (.istore_n 2, 1) := by decide +kernel
theorem dX8_breaks_6 : decode cX8_breaks 6 = .ok (.iload_n 2, 1) := by decide +kernel
theorem dX8_breaks_7 : decode cX8_breaks 7 = .ok (.ifCond .eq 5, 3) := by decide +kernel
theorem dX8_breaks_10 : decode cX8_breaks 10 = .ok (.iload_n 2, 1) := by decide +kernel
theorem dX8_breaks_11 : decode cX8_breaks 11 = .ok (.ireturn, 1) := by decide +kernel
theorem dX8_breaks_12 : decode cX8_breaks 12 = .ok (.aload_n 0, 1) := by decide +kernel
theorem dX8_breaks_13 : decode cX8_breaks 13 = .ok (.getfield 54, 3) := by decide +kernel
theorem dX8_breaks_16 : decode cX8_breaks 16 = .ok (.aload_n 0, 1) := by decide +kernel
theorem dX8_breaks_17 : decode cX8_breaks 17 = .ok (.getfield 33, 3) := by decide +kernel
theorem dX8_breaks_20 : decode cX8_breaks 20 = .ok (.invokevirtual 148, 3) := by decide +kernel
theorem dX8_breaks_23 : decode cX8_breaks 23 = .ok (.iconst 0, 1) := by decide +kernel
theorem dX8_breaks_24 : decode cX8_breaks 24 = .ok (.istore_n 3, 1) := by decide +kernel
theorem dX8_breaks_25 : decode cX8_breaks 25 = .ok (.iconst 0, 1) := by decide +kernel
theorem dX8_breaks_26 : decode cX8_breaks 26 = .ok (.istore 4, 2) := by decide +kernel
theorem dX8_breaks_28 : decode cX8_breaks 28 = .ok (.iload 4, 2) := by decide +kernel
theorem dX8_breaks_30 : decode cX8_breaks 30 = .ok (.aload_n 0, 1) := by decide +kernel
theorem dX8_breaks_31 : decode cX8_breaks 31 = .ok (.getfield 33, 3) := by decide +kernel
theorem dX8_breaks_34 : decode cX8_breaks 34 = .ok (.getfield 210, 3) := by decide +kernel
theorem dX8_breaks_37 : decode cX8_breaks 37 = .ok (.if_icmp .ge 33, 3) := by decide +kernel
theorem dX8_breaks_40 : decode cX8_breaks 40 = .ok (.aload_n 0, 1) := by decide +kernel
theorem dX8_breaks_41 : decode cX8_breaks 41 = .ok (.getfield 54, 3) := by decide +kernel
theorem dX8_breaks_44 : decode cX8_breaks 44 = .ok (.iload 4, 2) := by decide +kernel
theorem dX8_breaks_46 : decode cX8_breaks 46 = .ok (.putfield 263, 3) := by decide +kernel
theorem dX8_breaks_49 : decode cX8_breaks 49 = .ok (.aload_n 0, 1) := by decide +kernel
theorem dX8_breaks_50 : decode cX8_breaks 50 = .ok (.iload_n 1, 1) := by decide +kernel
theorem dX8_breaks_51 : decode cX8_breaks 51 = .ok (.invokevirtual 305, 3) := by decide +kernel
theorem dX8_breaks_54 : decode cX8_breaks 54 = .ok (.ifCond .eq 10, 3) := by decide +kernel
theorem dX8_breaks_57 : decode cX8_breaks 57 = .ok (.iload_n 3, 1) := by decide +kernel
theorem dX8_breaks_58 : decode cX8_breaks 58 = .ok (.iconst 1, 1) := by decide +kernel
theorem dX8_breaks_59 : decode cX8_breaks 59 = .ok (.iload 4, 2) := by decide +kernel
theorem dX8_breaks_61 : decode cX8_breaks 61 = .ok (.ishl, 1) := by decide +kernel
theorem dX8_breaks_62 : decode cX8_breaks 62 = .ok (.ior, 1) := by decide +kernel
theorem dX8_breaks_63 : decode cX8_breaks 63 = .ok (.istore_n 3, 1) := by decide +kernel
theorem dX8_breaks_64 : decode cX8_breaks 64 = .ok (.iinc 4 1, 3) := by decide +kernel
theorem dX8_breaks_67 : decode cX8_breaks 67 = .ok (.goto (-39), 3) := by decide +kernel
theorem dX8_breaks_70 : decode cX8_breaks 70 = .ok (.iload_n 3, 1) := by decide +kernel
theorem dX8_breaks_71 : decode cX8_breaks 71 = .ok (.ireturn, 1) := by decide +kernel
theorem dX8_bright_0 : decode cX8_bright 0 = .ok (.aload_n 0, 1) := by decide +kernel
theorem dX8_bright_1 : decode cX8_bright 1 = .ok (.invokevirtual 134, 3) := by decide +kernel
theorem dX8_bright_4 : decode cX8_bright 4 = .ok (.ifCond .ne 6, 3) := by decide +kernel
theorem dX8_bright_7 : decode cX8_bright 7 = .ok (.bipush (-2), 2) := by decide +kernel
theorem dX8_bright_9 : decode cX8_bright 9 = .ok (.ireturn, 1) := by decide +kernel
theorem dX8_bright_10 : decode cX8_bright 10 = .ok (.aload_n 0, 1) := by decide +kernel
theorem dX8_bright_11 : decode cX8_bright 11 = .ok (.invokevirtual 239, 3) := by decide +kernel
theorem dX8_bright_14 : decode cX8_bright 14 = .ok (.iconst 0, 1) := by decide +kernel
theorem dX8_bright_15 : decode cX8_bright 15 = .ok (.istore_n 1, 1) := by decide +kernel
theorem dX8_bright_16 : decode cX8_bright 16 = .ok (.iconst 1, 1) := by decide +kernel
theorem dX8_bright_17 : decode cX8_bright 17 = .ok (.istore_n 2, 1) := by decide +kernel
theorem dX8_bright_18 : decode cX8_bright 18 = .ok (.iload_n 2, 1) := by decide +kernel
theorem dX8_bright_19 : decode cX8_bright 19 = .ok (.aload_n 0, 1) := by decide +kernel
theorem dX8_bright_20 : decode cX8_bright 20 = .ok (.getfield 33, 3) := by decide +kernel
theorem dX8_bright_23 : decode cX8_bright 23 = .ok (.getfield 242, 3) := by decide +kernel
theorem dX8_bright_26 : decode cX8_bright 26 = .ok (.if_icmp .gt 32, 3) := by decide +kernel
theorem dX8_bright_29 : decode cX8_bright 29 = .ok (.aload_n 0, 1) := by decide +kernel
theorem dX8_bright_30 : decode cX8_bright 30 = .ok (.getfield 72, 3) := by decide +kernel
theorem dX8_bright_33 : decode cX8_bright 33 = .ok (.iload_n 2, 1) := by decide +kernel
theorem dX8_bright_34 : decode cX8_bright 34 = .ok (.iaload, 1) := by decide +kernel
theorem dX8_bright_35 : decode cX8_bright 35 = .ok (.invokestatic 227, 3) := by decide +kernel
theorem dX8_bright_38 : decode cX8_bright 38 = .ok (.aload_n 0, 1) := by decide +kernel
theorem dX8_bright_39 : decode cX8_bright 39 = .ok (.getfield 72, 3) := by decide +kernel
theorem dX8_bright_42 : decode cX8_bright 42 = .ok (.iload_n 1, 1) := by decide +kernel
theorem dX8_bright_43 : decode cX8_bright 43 = .ok (.iaload, 1) := by decide +kernel
theorem dX8_bright_44 : decode cX8_bright 44 = .ok (.invokestatic 227, 3) := by decide +kernel
theorem dX8_bright_47 : decode cX8_bright 47 = .ok (.if_icmp .le 5, 3) := by decide +kernel
theorem dX8_bright_50 : decode cX8_bright 50 = .ok (.iload_n 2, 1) := by decide +kernel
theorem dX8_bright_51 : decode cX8_bright 51 = .ok (.istore_n 1, 1) := by decide +kernel
theorem dX8_bright_52 : decode cX8_bright 52 = .ok (.iinc 2 1, 3) := by decide +kernel
theorem dX8_bright_55 : decode cX8_bright 55 = .ok (.goto (-37), 3) := by decide +kernel
theorem dX8_bright_58 : decode cX8_bright 58 = .ok (.iload_n 1, 1) := by decide +kernel
theorem dX8_bright_59 : decode cX8_bright 59 = .ok (.ireturn, 1) := by decide +kernel
theorem dX8_by_0 : decode cX8_by 0 = .ok (.aload_n 0, 1) := by decide +kernel
theorem dX8_by_1 : decode cX8_by 1 = .ok (.invokevirtual 134, 3) := by decide +kernel
theorem dX8_by_4 : decode cX8_by 4 = .ok (.ifCond .eq 12, 3) := by decide +kernel
theorem dX8_by_7 : decode cX8_by 7 = .ok (.iload_n 1, 1) := by decide +kernel
theorem dX8_by_8 : decode cX8_by 8 = .ok (.ifCond .lt 8, 3) := by decide +kernel
theorem dX8_by_11 : decode cX8_by 11 = .ok (.iload_n 1, 1) := by decide +kernel
theorem dX8_by_12 : decode cX8_by 12 = .ok (.iconst 4, 1) := by decide +kernel
theorem dX8_by_13 : decode cX8_by 13 = .ok (.if_icmp .lt 6, 3) := by decide +kernel
theorem dX8_by_16 : decode cX8_by 16 = .ok (.bipush (-2), 2) := by decide +kernel
theorem dX8_by_18 : decode cX8_by 18 = .ok (.ireturn, 1) := by decide +kernel
theorem dX8_by_19 : decode cX8_by 19 = .ok (.aload_n 0, 1) := by decide +kernel
theorem dX8_by_20 : decode cX8_by 20 = .ok (.iload_n 1, 1) := by decide +kernel
theorem dX8_by_21 : decode cX8_by 21 = .ok (.invokevirtual 311, 3) := by decide +kernel
theorem dX8_by_24 : decode cX8_by 24 = .ok (.ireturn, 1) := by decide +kernel
theorem dX8_chance_0 : decode cX8_chance 0 = .ok (.aload_n 0, 1) := by decide +kernel
theorem dX8_chance_1 : decode cX8_chance 1 = .ok (.iload_n 1, 1) := by decide +kernel
theorem dX8_chance_2 : decode cX8_chance 2 = .ok (.invokevirtual 213, 3) := by decide +kernel
theorem dX8_chance_5 : decode cX8_chance 5 = .ok (.ifCond .eq 18, 3) := by decide +kernel
theorem dX8_chance_8 : decode cX8_chance 8 = .ok (.aload_n 0, 1) := by decide +kernel
theorem dX8_chance_9 : decode cX8_chance 9 = .ok (.iload_n 2, 1) := by decide +kernel
theorem dX8_chance_10 : decode cX8_chance 10 = .ok (.invokevirtual 325, 3) := by decide +kernel
theorem dX8_chance_13 : decode cX8_chance 13 = .ok (.ifCond .eq 10, 3) := by decide +kernel
theorem dX8_chance_16 : decode cX8_chance 16 = .ok (.iload_n 3, 1) := by decide +kernel
theorem dX8_chance_17 : decode cX8_chance 17 = .ok (.invokestatic 159, 3) := by decide +kernel
theorem dX8_chance_20 : decode cX8_chance 20 = .ok (.ifCond .ne 6, 3) := by decide +kernel
theorem dX8_chance_23 : decode cX8_chance 23 = .ok (.bipush (-2), 2) := by decide +kernel
theorem dX8_chance_25 : decode cX8_chance 25 = .ok (.ireturn, 1) := by decide +kernel
theorem dX8_chance_26 : decode cX8_chance 26 = .ok (.aload_n 0, 1) := by decide +kernel
theorem dX8_chance_27 : decode cX8_chance 27 = .ok (.aload_n 0, 1) := by decide +kernel
theorem dX8_chance_28 : decode cX8_chance 28 = .ok (.iload_n 2, 1) := by decide +kernel
theorem dX8_chance_29 : decode cX8_chance 29 = .ok (.iconst 1, 1) := by decide +kernel
theorem dX8_chance_30 : decode cX8_chance 30 = .ok (.iload_n 1, 1) := by decide +kernel
theorem dX8_chance_31 : decode cX8_chance 31 = .ok (.ishl, 1) := by decide +kernel
theorem dX8_chance_32 : decode cX8_chance 32 = .ok (.invokevirtual 328, 3) := by decide +kernel
theorem dX8_chance_35 : decode cX8_chance 35 = .ok (.bipush 10, 2) := by decide +kernel
theorem dX8_chance_37 : decode cX8_chance 37 = .ok (.iload_n 2, 1) := by decide +kernel
theorem dX8_chance_38 : decode cX8_chance 38 = .ok (.iconst 1, 1) := by decide +kernel
theorem dX8_chance_39 : decode cX8_chance 39 = .ok (.iadd, 1) := by decide +kernel
theorem dX8_chance_40 : decode cX8_chance 40 = .ok (.invokestatic 332, 3) := by decide +kernel
theorem dX8_chance_43 : decode cX8_chance 43 = .ok (.iload_n 3, 1) := by decide +kernel
theorem dX8_chance_44 : decode cX8_chance 44 = .ok (.invokevirtual 186, 3) := by decide +kernel
theorem dX8_chance_47 : decode cX8_chance 47 = .ok (.l2i, 1) := by decide +kernel
theorem dX8_chance_48 : decode cX8_chance 48 = .ok (.ireturn, 1) := by decide +kernel
theorem dX8_changes_0 : decode cX8_changes 0 = .ok (.aload_n 0, 1) := by decide +kernel
theorem dX8_changes_1 : decode cX8_changes 1 = .ok (.invokevirtual 134, 3) := by decide +kernel
theorem dX8_changes_4 : decode cX8_changes 4 = .ok (.ifCond .ne 6, 3) := by decide +kernel
theorem dX8_changes_7 : decode cX8_changes 7 = .ok (.bipush (-2), 2) := by decide +kernel
theorem dX8_changes_9 : decode cX8_changes 9 = .ok (.ireturn, 1) := by decide +kernel
theorem dX8_changes_10 : decode cX8_changes 10 = .ok (.aload_n 0, 1) := by decide +kernel
theorem dX8_changes_11 : decode cX8_changes 11 = .ok (.invokevirtual 239, 3) := by decide +kernel
theorem dX8_changes_14 : decode cX8_changes 14 = .ok (.iconst 0, 1) := by decide +kernel
theorem dX8_changes_15 : decode cX8_changes 15 = .ok (.istore_n 1, 1) := by decide +kernel
theorem dX8_changes_16 : decode cX8_changes 16 = .ok (.iconst 1, 1) := by decide +kernel
theorem dX8_changes_17 : decode cX8_changes 17 = .ok (.istore_n 2, 1) := by decide +kernel
theorem dX8_changes_18 : decode cX8_changes 18 = .ok (.iload_n 2, 1) := by decide +kernel
theorem dX8_changes_19 : decode cX8_changes 19 = .ok (.aload_n 0, 1) := by decide +kernel
theorem dX8_changes_20 : decode cX8_changes 20 = .ok (.getfield 33, 3) := by decide +kernel
theorem dX8_changes_23 : decode cX8_changes 23 = .ok (.getfield 242, 3) := by decide +kernel
theorem dX8_changes_26 : decode cX8_changes 26 = .ok (.if_icmp .gt 29, 3) := by decide +kernel
theorem dX8_changes_29 : decode cX8_changes 29 = .ok (.aload_n 0, 1) := by decide +kernel
theorem dX8_changes_30 : decode cX8_changes 30 = .ok (.getfield 72, 3) := by decide +kernel
theorem dX8_changes_33 : decode cX8_changes 33 = .ok (.iload_n 2, 1) := by decide +kernel
theorem dX8_changes_34 : decode cX8_changes 34 = .ok (.iaload, 1) := by decide +kernel
theorem dX8_changes_35 : decode cX8_changes 35 = .ok (.aload_n 0, 1) := by decide +kernel
theorem dX8_changes_36 : decode cX8_changes 36 = .ok (.getfield 72, 3) := by decide +kernel
theorem dX8_changes_39 : decode cX8_changes 39 = .ok (.iload_n 2, 1) := by decide +kernel
theorem dX8_changes_40 : decode cX8_changes 40 = .ok (.iconst 1, 1) := by decide +kernel
theorem dX8_changes_41 : decode cX8_changes 41 = .ok (.isub, 1) := by decide +kernel
theorem dX8_changes_42 : decode cX8_changes 42 = .ok (.iaload, 1) := by decide +kernel
theorem dX8_changes_43 : decode cX8_changes 43 = .ok (.if_icmp .eq 6, 3) := by decide +kernel
theorem dX8_changes_46 : decode cX8_changes 46 = .ok (.iinc 1 1, 3) := by decide +kernel
theorem dX8_changes_49 : decode cX8_changes 49 = .ok (.iinc 2 1, 3) := by decide +kernel
theorem dX8_changes_52 : decode cX8_changes 52 = .ok (.goto (-34), 3) := by decide +kernel
theorem dX8_changes_55 : decode cX8_changes 55 = .ok (.iload_n 1, 1) := by decide +kernel
theorem dX8_changes_56 : decode cX8_changes 56 = .ok (.ireturn, 1) := by decide +kernel
theorem dX8_clear_0 : decode cX8_clear 0 = .ok (.aload_n 0, 1) := by decide +kernel
theorem dX8_clear_1 : decode cX8_clear 1 = .ok (.invokevirtual 134, 3) := by decide +kernel
theorem dX8_clear_4 : decode cX8_clear 4 = .ok (.ifCond .eq 10, 3) := by decide +kernel
theorem dX8_clear_7 : decode cX8_clear 7 = .ok (.aload_n 0, 1) := by decide +kernel
theorem dX8_clear_8 : decode cX8_clear 8 = .ok (.invokevirtual 233, 3) := by decide +kernel
theorem dX8_clear_11 : decode cX8_clear 11 = .ok (.goto 5, 3) := by decide +kernel
theorem dX8_clear_14 : decode cX8_clear 14 = .ok (.bipush (-2), 2) := by decide +kernel
theorem dX8_clear_16 : decode cX8_clear 16 = .ok (.ireturn, 1) := by decide +kernel
theorem dX8_clearDays_0 : decode cX8_clearDays 0 = .ok (.aload_n 0, 1) := by decide +kernel
theorem dX8_clearDays_1 : decode cX8_clearDays 1 = .ok (.invokevirtual 239, 3) := by decide +kernel
theorem dX8_clearDays_4 : decode cX8_clearDays 4 = .ok (.iconst 0, 1) := by decide +kernel
theorem dX8_clearDays_5 : decode cX8_clearDays 5 = .ok (.istore_n 1, 1) := by decide +kernel
theorem dX8_clearDays_6 : decode cX8_clearDays 6 = .ok (.iconst 0, 1) := by decide +kernel
theorem dX8_clearDays_7 : decode cX8_clearDays 7 = .ok (.istore_n 2, 1) := by decide +kernel
theorem dX8_clearDays_8 : decode cX8_clearDays 8 = .ok (.iload_n 2, 1) := by decide +kernel
theorem dX8_clearDays_9 : decode cX8_clearDays 9 = .ok (.aload_n 0, 1) := by decide +kernel
theorem dX8_clearDays_10 : decode cX8_clearDays 10 = .ok (.getfield 33, 3) := by decide +kernel
theorem dX8_clearDays_13 : decode cX8_clearDays 13 = .ok (.getfield 242, 3) := by decide +kernel
theorem dX8_clearDays_16 : decode cX8_clearDays 16 = .ok (.if_icmp .gt 31, 3) := by decide +kernel
theorem dX8_clearDays_19 : decode cX8_clearDays 19 = .ok (.aload_n 0, 1) := by decide +kernel
theorem dX8_clearDays_20 : decode cX8_clearDays 20 = .ok (.getfield 72, 3) := by decide +kernel
theorem dX8_clearDays_23 : decode cX8_clearDays 23 = .ok (.iload_n 2, 1) := by decide +kernel
theorem dX8_clearDays_24 : decode cX8_clearDays 24 = .ok (.iaload, 1) := by decide +kernel
theorem dX8_clearDays_25 : decode cX8_clearDays 25 = .ok (.aload_n 0, 1) := by decide +kernel
theorem dX8_clearDays_26 : decode cX8_clearDays 26 = .ok (.getfield 33, 3) := by decide +kernel
theorem dX8_clearDays_29 : decode cX8_clearDays 29 = .ok (.invokevirtual 138, 3) := by decide +kernel
theorem dX8_clearDays_32 : decode cX8_clearDays 32 = .ok (.if_icmp .ne 9, 3) := by decide +kernel
theorem dX8_clearDays_35 : decode cX8_clearDays 35 = .ok (.iload_n 1, 1) := by decide +kernel
theorem dX8_clearDays_36 : decode cX8_clearDays 36 = .ok (.iconst 1, 1) := by decide +kernel
theorem dX8_clearDays_37 : decode cX8_clearDays 37 = .ok (.iload_n 2, 1) := by decide +kernel
theorem dX8_clearDays_38 : decode cX8_clearDays 38 = .ok (.ishl, 1) := by decide +kernel
theorem dX8_clearDays_39 : decode cX8_clearDays 39 = .ok (.ior, 1) := by decide +kernel
theorem dX8_clearDays_40 : decode cX8_clearDays 40 = .ok (.istore_n 1, 1) := by decide +kernel
theorem dX8_clearDays_41 : decode cX8_clearDays 41 = .ok (.iinc 2 1, 3) := by decide +kernel
theorem dX8_clearDays_44 : decode cX8_clearDays 44 = .ok (.goto (-36), 3) := by decide +kernel
theorem dX8_clearDays_47 : decode cX8_clearDays 47 = .ok (.iload_n 1, 1) := by decide +kernel
theorem dX8_clearDays_48 : decode cX8_clearDays 48 = .ok (.ireturn, 1) := by decide +kernel
theorem dX8_count_0 : decode cX8_count 0 = .ok (.iload_n 1, 1) := by decide +kernel
theorem dX8_count_1 : decode cX8_count 1 = .ok (.tableswitch 135 0 9 #[55, 63, 71, 79, 87, 95, 103, 111, 119, 127], 55) := by decide +kernel
theorem dX8_count_56 : decode cX8_count 56 = .ok (.aload_n 0, 1) := by decide +kernel
theorem dX8_count_57 : decode cX8_count 57 = .ok (.getfield 33, 3) := by decide +kernel
theorem dX8_count_60 : decode cX8_count 60 = .ok (.getfield 242, 3) := by decide +kernel
theorem dX8_count_63 : decode cX8_count 63 = .ok (.ireturn, 1) := by decide +kernel
theorem dX8_count_64 : decode cX8_count 64 = .ok (.aload_n 0, 1) := by decide +kernel
theorem dX8_count_65 : decode cX8_count 65 = .ok (.getfield 33, 3) := by decide +kernel
theorem dX8_count_68 : decode cX8_count 68 = .ok (.getfield 354, 3) := by decide +kernel
theorem dX8_count_71 : decode cX8_count 71 = .ok (.ireturn, 1) := by decide +kernel
theorem dX8_count_72 : decode cX8_count 72 = .ok (.aload_n 0, 1) := by decide +kernel
theorem dX8_count_73 : decode cX8_count 73 = .ok (.getfield 33, 3) := by decide +kernel
theorem dX8_count_76 : decode cX8_count 76 = .ok (.getfield 355, 3) := by decide +kernel
theorem dX8_count_79 : decode cX8_count 79 = .ok (.ireturn, 1) := by decide +kernel
theorem dX8_count_80 : decode cX8_count 80 = .ok (.aload_n 0, 1) := by decide +kernel
theorem dX8_count_81 : decode cX8_count 81 = .ok (.getfield 33, 3) := by decide +kernel
theorem dX8_count_84 : decode cX8_count 84 = .ok (.getfield 175, 3) := by decide +kernel
theorem dX8_count_87 : decode cX8_count 87 = .ok (.ireturn, 1) := by decide +kernel
theorem dX8_count_88 : decode cX8_count 88 = .ok (.aload_n 0, 1) := by decide +kernel
theorem dX8_count_89 : decode cX8_count 89 = .ok (.getfield 33, 3) := by decide +kernel
theorem dX8_count_92 : decode cX8_count 92 = .ok (.getfield 210, 3) := by decide +kernel
theorem dX8_count_95 : decode cX8_count 95 = .ok (.ireturn, 1) := by decide +kernel
theorem dX8_count_96 : decode cX8_count 96 = .ok (.aload_n 0, 1) := by decide +kernel
theorem dX8_count_97 : decode cX8_count 97 = .ok (.getfield 33, 3) := by decide +kernel
theorem dX8_count_100 : decode cX8_count 100 = .ok (.getfield 358, 3) := by decide +kernel
theorem dX8_count_103 : decode cX8_count 103 = .ok (.ireturn, 1) := by decide +kernel
theorem dX8_count_104 : decode cX8_count 104 = .ok (.aload_n 0, 1) := by decide +kernel
theorem dX8_count_105 : decode cX8_count 105 = .ok (.getfield 33, 3) := by decide +kernel
theorem dX8_count_108 : decode cX8_count 108 = .ok (.getfield 335, 3) := by decide +kernel
theorem dX8_count_111 : decode cX8_count 111 = .ok (.ireturn, 1) := by decide +kernel
theorem dX8_count_112 : decode cX8_count 112 = .ok (.aload_n 0, 1) := by decide +kernel
theorem dX8_count_113 : decode cX8_count 113 = .ok (.getfield 33, 3) := by decide +kernel
theorem dX8_count_116 : decode cX8_count 116 = .ok (.getfield 118, 3) := by decide +kernel
theorem dX8_count_119 : decode cX8_count 119 = .ok (.ireturn, 1) := by decide +kernel
theorem dX8_count_120 : decode cX8_count 120 = .ok (.aload_n 0, 1) := by decide +kernel
theorem dX8_count_121 : decode cX8_count 121 = .ok (.getfield 10, 3) := by decide +kernel
theorem dX8_count_124 : decode cX8_count 124 = .ok (.getfield 93, 3) := by decide +kernel
theorem dX8_count_127 : decode cX8_count 127 = .ok (.ireturn, 1) := by decide +kernel
theorem dX8_count_128 : decode cX8_count 128 = .ok (.aload_n 0, 1) := by decide +kernel
theorem dX8_count_129 : decode cX8_count 129 = .ok (.getfield 47, 3) := by decide +kernel
theorem dX8_count_132 : decode cX8_count 132 = .ok (.invokevirtual 361, 3) := by decide +kernel
theorem dX8_count_135 : decode cX8_count 135 = .ok (.ireturn, 1) := by decide +kernel
