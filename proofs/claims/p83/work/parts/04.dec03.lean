theorem dX5_at_4 : decode cX5_at 4 = .ok (.iload_n 1, 1) := by decide +kernel
theorem dX5_at_5 : decode cX5_at 5 = .ok (.aload_n 0, 1) := by decide +kernel
theorem dX5_at_6 : decode cX5_at 6 = .ok (.getfield 15, 3) := by decide +kernel
theorem dX5_at_9 : decode cX5_at 9 = .ok (.if_icmp .ge 16, 3) := by decide +kernel
theorem dX5_at_12 : decode cX5_at 12 = .ok (.aload_n 0, 1) := by decide +kernel
theorem dX5_at_13 : decode cX5_at 13 = .ok (.getfield 9, 3) := by decide +kernel
theorem dX5_at_16 : decode cX5_at 16 = .ok (.iload_n 1, 1) := by decide +kernel
theorem dX5_at_17 : decode cX5_at 17 = .ok (.baload, 1) := by decide +kernel
theorem dX5_at_18 : decode cX5_at 18 = .ok (.sipush 255, 3) := by decide +kernel
theorem dX5_at_21 : decode cX5_at 21 = .ok (.iand, 1) := by decide +kernel
theorem dX5_at_22 : decode cX5_at 22 = .ok (.goto 4, 3) := by decide +kernel
theorem dX5_at_25 : decode cX5_at 25 = .ok (.iconst 0, 1) := by decide +kernel
theorem dX5_at_26 : decode cX5_at 26 = .ok (.ireturn, 1) := by decide +kernel
theorem dX5_init_0 : decode cX5_init 0 = .ok (.aload_n 0, 1) := by decide +kernel
theorem dX5_init_1 : decode cX5_init 1 = .ok (.invokespecial 3, 3) := by decide +kernel
theorem dX5_init_4 : decode cX5_init 4 = .ok (.aload_n 0, 1) := by decide +kernel
theorem dX5_init_5 : decode cX5_init 5 = .ok (.sipush 500, 3) := by decide +kernel
theorem dX5_init_8 : decode cX5_init 8 = .ok (.newarray .byte, 2) := by decide +kernel
theorem dX5_init_10 : decode cX5_init 10 = .ok (.putfield 9, 3) := by decide +kernel
theorem dX5_init_13 : decode cX5_init 13 = .ok (.aload_n 0, 1) := by decide +kernel
theorem dX5_init_14 : decode cX5_init 14 = .ok (.iconst 0, 1) := by decide +kernel
theorem dX5_init_15 : decode cX5_init 15 = .ok (.putfield 15, 3) := by decide +kernel
theorem dX5_init_18 : decode cX5_init 18 = .ok (.return_, 1) := by decide +kernel
theorem dX6_fail_0 : decode cX6_fail 0 = .ok (.aload_n 0, 1) := by decide +kernel
theorem dX6_fail_1 : decode cX6_fail 1 = .ok (.iload_n 1, 1) := by decide +kernel
theorem dX6_fail_2 : decode cX6_fail 2 = .ok (.putfield 9, 3) := by decide +kernel
theorem dX6_fail_5 : decode cX6_fail 5 = .ok (.iconst 0, 1) := by decide +kernel
theorem dX6_fail_6 : decode cX6_fail 6 = .ok (.ireturn, 1) := by decide +kernel
theorem dX6_init_0 : decode cX6_init 0 = .ok (.aload_n 0, 1) := by decide +kernel
theorem dX6_init_1 : decode cX6_init 1 = .ok (.invokespecial 3, 3) := by decide +kernel
theorem dX6_init_4 : decode cX6_init 4 = .ok (.aload_n 0, 1) := by decide +kernel
theorem dX6_init_5 : decode cX6_init 5 = .ok (.iconst 0, 1) := by decide +kernel
theorem dX6_init_6 : decode cX6_init 6 = .ok (.putfield 9, 3) := by decide +kernel
theorem dX6_init_9 : decode cX6_init 9 = .ok (.aload_n 0, 1) := by decide +kernel
theorem dX6_init_10 : decode cX6_init 10 = .ok (.iconst 0, 1) := by decide +kernel
theorem dX6_init_11 : decode cX6_init 11 = .ok (.putfield 15, 3) := by decide +kernel
theorem dX6_init_14 : decode cX6_init 14 = .ok (.aload_n 0, 1) := by decide +kernel
theorem dX6_init_15 : decode cX6_init 15 = .ok (.iconst 0, 1) := by decide +kernel
theorem dX6_init_16 : decode cX6_init 16 = .ok (.putfield 18, 3) := by decide +kernel
theorem dX6_init_19 : decode cX6_init 19 = .ok (.aload_n 0, 1) := by decide +kernel
theorem dX6_init_20 : decode cX6_init 20 = .ok (.iconst 0, 1) := by decide +kernel
theorem dX6_init_21 : decode cX6_init 21 = .ok (.putfield 23, 3) := by decide +kernel
theorem dX6_init_24 : decode cX6_init 24 = .ok (.aload_n 0, 1) := by decide +kernel
theorem dX6_init_25 : decode cX6_init 25 = .ok (.iconst 0, 1) := by decide +kernel
theorem dX6_init_26 : decode cX6_init 26 = .ok (.putfield 26, 3) := by decide +kernel
theorem dX6_init_29 : decode cX6_init 29 = .ok (.return_, 1) := by decide +kernel
theorem dX6_isSign_0 : decode cX6_isSign 0 = .ok (.aload_n 0, 1) := by decide +kernel
theorem dX6_isSign_1 : decode cX6_isSign 1 = .ok (.getfield 23, 3) := by decide +kernel
theorem dX6_isSign_4 : decode cX6_isSign 4 = .ok (.iconst 2, 1) := by decide +kernel
theorem dX6_isSign_5 : decode cX6_isSign 5 = .ok (.if_icmp .eq 11, 3) := by decide +kernel
theorem dX6_isSign_8 : decode cX6_isSign 8 = .ok (.aload_n 0, 1) := by decide +kernel
theorem dX6_isSign_9 : decode cX6_isSign 9 = .ok (.iconst 1, 1) := by decide +kernel
theorem dX6_isSign_10 : decode cX6_isSign 10 = .ok (.invokevirtual 51, 3) := by decide +kernel
theorem dX6_isSign_13 : decode cX6_isSign 13 = .ok (.ifCond .eq 7, 3) := by decide +kernel
theorem dX6_isSign_16 : decode cX6_isSign 16 = .ok (.iconst 1, 1) := by decide +kernel
theorem dX6_isSign_17 : decode cX6_isSign 17 = .ok (.goto 4, 3) := by decide +kernel
theorem dX6_isSign_20 : decode cX6_isSign 20 = .ok (.iconst 0, 1) := by decide +kernel
theorem dX6_isSign_21 : decode cX6_isSign 21 = .ok (.ireturn, 1) := by decide +kernel
theorem dX6_read_0 : decode cX6_read 0 = .ok (.aload_n 2, 1) := by decide +kernel
theorem dX6_read_1 : decode cX6_read 1 = .ok (.invokevirtual 29, 3) := by decide +kernel
theorem dX6_read_4 : decode cX6_read 4 = .ok (.aload_n 0, 1) := by decide +kernel
theorem dX6_read_5 : decode cX6_read 5 = .ok (.iconst 0, 1) := by decide +kernel
theorem dX6_read_6 : decode cX6_read 6 = .ok (.putfield 9, 3) := by decide +kernel
theorem dX6_read_9 : decode cX6_read 9 = .ok (.aload_n 0, 1) := by decide +kernel
theorem dX6_read_10 : decode cX6_read 10 = .ok (.iconst 0, 1) := by decide +kernel
theorem dX6_read_11 : decode cX6_read 11 = .ok (.putfield 18, 3) := by decide +kernel
theorem dX6_read_14 : decode cX6_read 14 = .ok (.iconst 0, 1) := by decide +kernel
theorem dX6_read_15 : decode cX6_read 15 = .ok (.istore_n 3, 1) := by decide +kernel
theorem dX6_read_16 : decode cX6_read 16 = .ok (.iload_n 3, 1) := by decide +kernel
theorem dX6_read_17 : decode cX6_read 17 = .ok (.aload_n 1, 1) := by decide +kernel
theorem dX6_read_18 : decode cX6_read 18 = .ok (.getfield 34, 3) := by decide +kernel
theorem dX6_read_21 : decode cX6_read 21 = .ok (.if_icmp .ge 41, 3) := by decide +kernel
theorem dX6_read_24 : decode cX6_read 24 = .ok (.aload_n 0, 1) := by decide +kernel
theorem dX6_read_25 : decode cX6_read 25 = .ok (.aload_n 1, 1) := by decide +kernel
theorem dX6_read_26 : decode cX6_read 26 = .ok (.invokevirtual 37, 3) := by decide +kernel
theorem dX6_read_29 : decode cX6_read 29 = .ok (.aload_n 0, 1) := by decide +kernel
theorem dX6_read_30 : decode cX6_read 30 = .ok (.getfield 23, 3) := by decide +kernel
theorem dX6_read_33 : decode cX6_read 33 = .ok (.ifCond .eq 12, 3) := by decide +kernel
theorem dX6_read_36 : decode cX6_read 36 = .ok (.aload_n 0, 1) := by decide +kernel
theorem dX6_read_37 : decode cX6_read 37 = .ok (.aload_n 1, 1) := by decide +kernel
theorem dX6_read_38 : decode cX6_read 38 = .ok (.aload_n 2, 1) := by decide +kernel
theorem dX6_read_39 : decode cX6_read 39 = .ok (.invokevirtual 41, 3) := by decide +kernel
theorem dX6_read_42 : decode cX6_read 42 = .ok (.ifCond .ne 4, 3) := by decide +kernel
theorem dX6_read_45 : decode cX6_read 45 = .ok (.return_, 1) := by decide +kernel
theorem dX6_read_46 : decode cX6_read 46 = .ok (.aload_n 2, 1) := by decide +kernel
theorem dX6_read_47 : decode cX6_read 47 = .ok (.dup, 1) := by decide +kernel
theorem dX6_read_48 : decode cX6_read 48 = .ok (.getfield 45, 3) := by decide +kernel
theorem dX6_read_51 : decode cX6_read 51 = .ok (.iconst 1, 1) := by decide +kernel
theorem dX6_read_52 : decode cX6_read 52 = .ok (.iadd, 1) := by decide +kernel
theorem dX6_read_53 : decode cX6_read 53 = .ok (.putfield 45, 3) := by decide +kernel
theorem dX6_read_56 : decode cX6_read 56 = .ok (.iinc 3 1, 3) := by decide +kernel
theorem dX6_read_59 : decode cX6_read 59 = .ok (.goto (-43), 3) := by decide +kernel
theorem dX6_read_62 : decode cX6_read 62 = .ok (.return_, 1) := by decide +kernel
theorem dX6_readHead_0 : decode cX6_readHead 0 = .ok (.aload_n 0, 1) := by decide +kernel
theorem dX6_readHead_1 : decode cX6_readHead 1 = .ok (.aload_n 1, 1) := by decide +kernel
theorem dX6_readHead_2 : decode cX6_readHead 2 = .ok (.iconst 5, 1) := by decide +kernel
theorem dX6_readHead_3 : decode cX6_readHead 3 = .ok (.iconst 1, 1) := by decide +kernel
theorem dX6_readHead_4 : decode cX6_readHead 4 = .ok (.bipush 13, 2) := by decide +kernel
theorem dX6_readHead_6 : decode cX6_readHead 6 = .ok (.invokevirtual 61, 3) := by decide +kernel
theorem dX6_readHead_9 : decode cX6_readHead 9 = .ok (.ifCond .ne 5, 3) := by decide +kernel
theorem dX6_readHead_12 : decode cX6_readHead 12 = .ok (.iconst 0, 1) := by decide +kernel
theorem dX6_readHead_13 : decode cX6_readHead 13 = .ok (.ireturn, 1) := by decide +kernel
theorem dX6_readHead_14 : decode cX6_readHead 14 = .ok (.aload_n 2, 1) := by decide +kernel
theorem dX6_readHead_15 : decode cX6_readHead 15 = .ok (.aload_n 0, 1) := by decide +kernel
theorem dX6_readHead_16 : decode cX6_readHead 16 = .ok (.getfield 26, 3) := by decide +kernel
theorem dX6_readHead_19 : decode cX6_readHead 19 = .ok (.putfield 65, 3) := by decide +kernel
theorem dX6_readHead_22 : decode cX6_readHead 22 = .ok (.aload_n 0, 1) := by decide +kernel
theorem dX6_readHead_23 : decode cX6_readHead 23 = .ok (.aload_n 1, 1) := by decide +kernel
theorem dX6_readHead_24 : decode cX6_readHead 24 = .ok (.bipush 6, 2) := by decide +kernel
theorem dX6_readHead_26 : decode cX6_readHead 26 = .ok (.iconst 0, 1) := by decide +kernel
theorem dX6_readHead_27 : decode cX6_readHead 27 = .ok (.iconst 3, 1) := by decide +kernel
theorem dX6_readHead_28 : decode cX6_readHead 28 = .ok (.invokevirtual 61, 3) := by decide +kernel
theorem dX6_readHead_31 : decode cX6_readHead 31 = .ok (.ifCond .ne 5, 3) := by decide +kernel
theorem dX6_readHead_34 : decode cX6_readHead 34 = .ok (.iconst 0, 1) := by decide +kernel
theorem dX6_readHead_35 : decode cX6_readHead 35 = .ok (.ireturn, 1) := by decide +kernel
theorem dX6_readHead_36 : decode cX6_readHead 36 = .ok (.aload_n 2, 1) := by decide +kernel
theorem dX6_readHead_37 : decode cX6_readHead 37 = .ok (.aload_n 0, 1) := by decide +kernel
theorem dX6_readHead_38 : decode cX6_readHead 38 = .ok (.getfield 26, 3) := by decide +kernel
theorem dX6_readHead_41 : decode cX6_readHead 41 = .ok (.putfield 68, 3) := by decide +kernel
theorem dX6_readHead_44 : decode cX6_readHead 44 = .ok (.aload_n 0, 1) := by decide +kernel
theorem dX6_readHead_45 : decode cX6_readHead 45 = .ok (.aload_n 1, 1) := by decide +kernel
theorem dX6_readHead_46 : decode cX6_readHead 46 = .ok (.bipush 7, 2) := by decide +kernel
theorem dX6_readHead_48 : decode cX6_readHead 48 = .ok (.iconst 0, 1) := by decide +kernel
theorem dX6_readHead_49 : decode cX6_readHead 49 = .ok (.bipush 10, 2) := by decide +kernel
theorem dX6_readHead_51 : decode cX6_readHead 51 = .ok (.invokevirtual 61, 3) := by decide +kernel
theorem dX6_readHead_54 : decode cX6_readHead 54 = .ok (.ifCond .ne 5, 3) := by decide +kernel
theorem dX6_readHead_57 : decode cX6_readHead 57 = .ok (.iconst 0, 1) := by decide +kernel
theorem dX6_readHead_58 : decode cX6_readHead 58 = .ok (.ireturn, 1) := by decide +kernel
theorem dX6_readHead_59 : decode cX6_readHead 59 = .ok (.aload_n 2, 1) := by decide +kernel
theorem dX6_readHead_60 : decode cX6_readHead 60 = .ok (.aload_n 0, 1) := by decide +kernel
theorem dX6_readHead_61 : decode cX6_readHead 61 = .ok (.getfield 26, 3) := by decide +kernel
theorem dX6_readHead_64 : decode cX6_readHead 64 = .ok (.putfield 71, 3) := by decide +kernel
theorem dX6_readHead_67 : decode cX6_readHead 67 = .ok (.aload_n 0, 1) := by decide +kernel
theorem dX6_readHead_68 : decode cX6_readHead 68 = .ok (.aload_n 1, 1) := by decide +kernel
theorem dX6_readHead_69 : decode cX6_readHead 69 = .ok (.bipush 8, 2) := by decide +kernel
theorem dX6_readHead_71 : decode cX6_readHead 71 = .ok (.iconst 1, 1) := by decide +kernel
theorem dX6_readHead_72 : decode cX6_readHead 72 = .ok (.bipush 60, 2) := by decide +kernel
theorem dX6_readHead_74 : decode cX6_readHead 74 = .ok (.invokevirtual 61, 3) := by decide +kernel
theorem dX6_readHead_77 : decode cX6_readHead 77 = .ok (.ifCond .ne 5, 3) := by decide +kernel
theorem dX6_readHead_80 : decode cX6_readHead 80 = .ok (.iconst 0, 1) := by decide +kernel
theorem dX6_readHead_81 : decode cX6_readHead 81 = .ok (.ireturn, 1) := by decide +kernel
theorem dX6_readHead_82 : decode cX6_readHead 82 = .ok (.aload_n 2, 1) := by decide +kernel
theorem dX6_readHead_83 : decode cX6_readHead 83 = .ok (.aload_n 0, 1) := by decide +kernel
theorem dX6_readHead_84 : decode cX6_readHead 84 = .ok (.getfield 26, 3) := by decide +kernel
theorem dX6_readHead_87 : decode cX6_readHead 87 = .ok (.putfield 74, 3) := by decide +kernel
theorem dX6_readHead_90 : decode cX6_readHead 90 = .ok (.aload_n 0, 1) := by decide +kernel
theorem dX6_readHead_91 : decode cX6_readHead 91 = .ok (.aload_n 1, 1) := by decide +kernel
theorem dX6_readHead_92 : decode cX6_readHead 92 = .ok (.invokevirtual 37, 3) := by decide +kernel
theorem dX6_readHead_95 : decode cX6_readHead 95 = .ok (.aload_n 0, 1) := by decide +kernel
theorem dX6_readHead_96 : decode cX6_readHead 96 = .ok (.invokevirtual 77, 3) := by decide +kernel
theorem dX6_readHead_99 : decode cX6_readHead 99 = .ok (.ireturn, 1) := by decide +kernel
theorem dX6_readLine_0 : decode cX6_readLine 0 = .ok (.aload_n 2, 1) := by decide +kernel
theorem dX6_readLine_1 : decode cX6_readLine 1 = .ok (.getfield 45, 3) := by decide +kernel
theorem dX6_readLine_4 : decode cX6_readLine 4 = .ok (.ifCond .ne 26, 3) := by decide +kernel
theorem dX6_readLine_7 : decode cX6_readLine 7 = .ok (.aload_n 0, 1) := by decide +kernel
theorem dX6_readLine_8 : decode cX6_readLine 8 = .ok (.getfield 23, 3) := by decide +kernel
theorem dX6_readLine_11 : decode cX6_readLine 11 = .ok (.iconst 4, 1) := by decide +kernel
theorem dX6_readLine_12 : decode cX6_readLine 12 = .ok (.if_icmp .ne 12, 3) := by decide +kernel
theorem dX6_readLine_15 : decode cX6_readLine 15 = .ok (.aload_n 0, 1) := by decide +kernel
theorem dX6_readLine_16 : decode cX6_readLine 16 = .ok (.aload_n 1, 1) := by decide +kernel
theorem dX6_readLine_17 : decode cX6_readLine 17 = .ok (.aload_n 2, 1) := by decide +kernel
theorem dX6_readLine_18 : decode cX6_readLine 18 = .ok (.invokevirtual 48, 3) := by decide +kernel
theorem dX6_readLine_21 : decode cX6_readLine 21 = .ok (.goto 8, 3) := by decide +kernel
theorem dX6_readLine_24 : decode cX6_readLine 24 = .ok (.aload_n 0, 1) := by decide +kernel
theorem dX6_readLine_25 : decode cX6_readLine 25 = .ok (.iconst 1, 1) := by decide +kernel
theorem dX6_readLine_26 : decode cX6_readLine 26 = .ok (.invokevirtual 51, 3) := by decide +kernel
theorem dX6_readLine_29 : decode cX6_readLine 29 = .ok (.ireturn, 1) := by decide +kernel
theorem dX6_readLine_30 : decode cX6_readLine 30 = .ok (.aload_n 0, 1) := by decide +kernel
theorem dX6_readLine_31 : decode cX6_readLine 31 = .ok (.getfield 23, 3) := by decide +kernel
theorem dX6_readLine_34 : decode cX6_readLine 34 = .ok (.lookupswitch 40 #[(9, 26), (12, 33)], 26) := by decide +kernel
theorem dX6_readLine_60 : decode cX6_readLine 60 = .ok (.aload_n 0, 1) := by decide +kernel
theorem dX6_readLine_61 : decode cX6_readLine 61 = .ok (.aload_n 1, 1) := by decide +kernel
theorem dX6_readLine_62 : decode cX6_readLine 62 = .ok (.aload_n 2, 1) := by decide +kernel
theorem dX6_readLine_63 : decode cX6_readLine 63 = .ok (.invokevirtual 55, 3) := by decide +kernel
theorem dX6_readLine_66 : decode cX6_readLine 66 = .ok (.ireturn, 1) := by decide +kernel
theorem dX6_readLine_67 : decode cX6_readLine 67 = .ok (.aload_n 0, 1) := by decide +kernel
theorem dX6_readLine_68 : decode cX6_readLine 68 = .ok (.aload_n 1, 1) := by decide +kernel
theorem dX6_readLine_69 : decode cX6_readLine 69 = .ok (.aload_n 2, 1) := by decide +kernel
theorem dX6_readLine_70 : decode cX6_readLine 70 = .ok (.invokevirtual 58, 3) := by decide +kernel
theorem dX6_readLine_73 : decode cX6_readLine 73 = .ok (.ireturn, 1) := by decide +kernel
theorem dX6_readLine_74 : decode cX6_readLine 74 = .ok (.aload_n 0, 1) := by decide +kernel
theorem dX6_readLine_75 : decode cX6_readLine 75 = .ok (.iconst 1, 1) := by decide +kernel
theorem dX6_readLine_76 : decode cX6_readLine 76 = .ok (.invokevirtual 51, 3) := by decide +kernel
theorem dX6_readLine_79 : decode cX6_readLine 79 = .ok (.ireturn, 1) := by decide +kernel
theorem dX6_readNumber_0 : decode cX6_readNumber 0 = .ok (.aload_n 0, 1) := by decide +kernel
theorem dX6_readNumber_1 : decode cX6_readNumber 1 = .ok (.aload_n 1, 1) := by decide +kernel
theorem dX6_readNumber_2 : decode cX6_readNumber 2 = .ok (.invokevirtual 37, 3) := by decide +kernel
theorem dX6_readNumber_5 : decode cX6_readNumber 5 = .ok (.aload_n 0, 1) := by decide +kernel
theorem dX6_readNumber_6 : decode cX6_readNumber 6 = .ok (.getfield 23, 3) := by decide +kernel
theorem dX6_readNumber_9 : decode cX6_readNumber 9 = .ok (.iconst 1, 1) := by decide +kernel
theorem dX6_readNumber_10 : decode cX6_readNumber 10 = .ok (.if_icmp .eq 9, 3) := by decide +kernel
theorem dX6_readNumber_13 : decode cX6_readNumber 13 = .ok (.aload_n 0, 1) := by decide +kernel
theorem dX6_readNumber_14 : decode cX6_readNumber 14 = .ok (.iconst 1, 1) := by decide +kernel
theorem dX6_readNumber_15 : decode cX6_readNumber 15 = .ok (.invokevirtual 51, 3) := by decide +kernel
theorem dX6_readNumber_18 : decode cX6_readNumber 18 = .ok (.ireturn, 1) := by decide +kernel
theorem dX6_readNumber_19 : decode cX6_readNumber 19 = .ok (.aload_n 0, 1) := by decide +kernel
theorem dX6_readNumber_20 : decode cX6_readNumber 20 = .ok (.getfield 26, 3) := by decide +kernel
theorem dX6_readNumber_23 : decode cX6_readNumber 23 = .ok (.iload_n 2, 1) := by decide +kernel
theorem dX6_readNumber_24 : decode cX6_readNumber 24 = .ok (.if_icmp .lt 11, 3) := by decide +kernel
theorem dX6_readNumber_27 : decode cX6_readNumber 27 = .ok (.aload_n 0, 1) := by decide +kernel
theorem dX6_readNumber_28 : decode cX6_readNumber 28 = .ok (.getfield 26, 3) := by decide +kernel
theorem dX6_readNumber_31 : decode cX6_readNumber 31 = .ok (.iload_n 3, 1) := by decide +kernel
theorem dX6_readNumber_32 : decode cX6_readNumber 32 = .ok (.if_icmp .le 11, 3) := by decide +kernel
theorem dX6_readNumber_35 : decode cX6_readNumber 35 = .ok (.aload_n 0, 1) := by decide +kernel
theorem dX6_readNumber_36 : decode cX6_readNumber 36 = .ok (.iconst 2, 1) := by decide +kernel
theorem dX6_readNumber_37 : decode cX6_readNumber 37 = .ok (.invokevirtual 51, 3) := by decide +kernel
theorem dX6_readNumber_40 : decode cX6_readNumber 40 = .ok (.ifCond .eq 7, 3) := by decide +kernel
theorem dX6_readNumber_43 : decode cX6_readNumber 43 = .ok (.iconst 1, 1) := by decide +kernel
theorem dX6_readNumber_44 : decode cX6_readNumber 44 = .ok (.goto 4, 3) := by decide +kernel
theorem dX6_readNumber_47 : decode cX6_readNumber 47 = .ok (.iconst 0, 1) := by decide +kernel
theorem dX6_readNumber_48 : decode cX6_readNumber 48 = .ok (.ireturn, 1) := by decide +kernel
theorem dX6_readPair_0 : decode cX6_readPair 0 = .ok (.aload_n 0, 1) := by decide +kernel
theorem dX6_readPair_1 : decode cX6_readPair 1 = .ok (.aload_n 1, 1) := by decide +kernel
theorem dX6_readPair_2 : decode cX6_readPair 2 = .ok (.invokevirtual 37, 3) := by decide +kernel
theorem dX6_readPair_5 : decode cX6_readPair 5 = .ok (.aload_n 0, 1) := by decide +kernel
theorem dX6_readPair_6 : decode cX6_readPair 6 = .ok (.getfield 23, 3) := by decide +kernel
theorem dX6_readPair_9 : decode cX6_readPair 9 = .ok (.iload_n 2, 1) := by decide +kernel
theorem dX6_readPair_10 : decode cX6_readPair 10 = .ok (.if_icmp .ne 14, 3) := by decide +kernel
theorem dX6_readPair_13 : decode cX6_readPair 13 = .ok (.aload_n 0, 1) := by decide +kernel
theorem dX6_readPair_14 : decode cX6_readPair 14 = .ok (.aload_n 1, 1) := by decide +kernel
theorem dX6_readPair_15 : decode cX6_readPair 15 = .ok (.iload_n 3, 1) := by decide +kernel
theorem dX6_readPair_16 : decode cX6_readPair 16 = .ok (.iload 4, 2) := by decide +kernel
theorem dX6_readPair_18 : decode cX6_readPair 18 = .ok (.invokevirtual 84, 3) := by decide +kernel
theorem dX6_readPair_21 : decode cX6_readPair 21 = .ok (.goto 8, 3) := by decide +kernel
theorem dX6_readPair_24 : decode cX6_readPair 24 = .ok (.aload_n 0, 1) := by decide +kernel
theorem dX6_readPair_25 : decode cX6_readPair 25 = .ok (.iconst 1, 1) := by decide +kernel
theorem dX6_readPair_26 : decode cX6_readPair 26 = .ok (.invokevirtual 51, 3) := by decide +kernel
theorem dX6_readPair_29 : decode cX6_readPair 29 = .ok (.ireturn, 1) := by decide +kernel
theorem dX6_readSpan_0 : decode cX6_readSpan 0 = .ok (.aload_n 2, 1) := by decide +kernel
theorem dX6_readSpan_1 : decode cX6_readSpan 1 = .ok (.getfield 81, 3) := by decide +kernel
theorem dX6_readSpan_4 : decode cX6_readSpan 4 = .ok (.istore_n 3, 1) := by decide +kernel
theorem dX6_readSpan_5 : decode cX6_readSpan 5 = .ok (.iload_n 3, 1) := by decide +kernel
theorem dX6_readSpan_6 : decode cX6_readSpan 6 = .ok (.iconst 5, 1) := by decide +kernel
theorem dX6_readSpan_7 : decode cX6_readSpan 7 = .ok (.if_icmp .lt 9, 3) := by decide +kernel
theorem dX6_readSpan_10 : decode cX6_readSpan 10 = .ok (.aload_n 0, 1) := by decide +kernel
theorem dX6_readSpan_11 : decode cX6_readSpan 11 = .ok (.iconst 3, 1) := by decide +kernel
theorem dX6_readSpan_12 : decode cX6_readSpan 12 = .ok (.invokevirtual 51, 3) := by decide +kernel
theorem dX6_readSpan_15 : decode cX6_readSpan 15 = .ok (.ireturn, 1) := by decide +kernel
theorem dX6_readSpan_16 : decode cX6_readSpan 16 = .ok (.aload_n 0, 1) := by decide +kernel
theorem dX6_readSpan_17 : decode cX6_readSpan 17 = .ok (.aload_n 1, 1) := by decide +kernel
theorem dX6_readSpan_18 : decode cX6_readSpan 18 = .ok (.iconst 1, 1) := by decide +kernel
theorem dX6_readSpan_19 : decode cX6_readSpan 19 = .ok (.bipush 12, 2) := by decide +kernel
theorem dX6_readSpan_21 : decode cX6_readSpan 21 = .ok (.invokevirtual 84, 3) := by decide +kernel
theorem dX6_readSpan_24 : decode cX6_readSpan 24 = .ok (.ifCond .ne 5, 3) := by decide +kernel
theorem dX6_readSpan_27 : decode cX6_readSpan 27 = .ok (.iconst 0, 1) := by decide +kernel
theorem dX6_readSpan_28 : decode cX6_readSpan 28 = .ok (.ireturn, 1) := by decide +kernel
theorem dX6_readSpan_29 : decode cX6_readSpan 29 = .ok (.aload_n 2, 1) := by decide +kernel
theorem dX6_readSpan_30 : decode cX6_readSpan 30 = .ok (.getfield 88, 3) := by decide +kernel
theorem dX6_readSpan_33 : decode cX6_readSpan 33 = .ok (.iload_n 3, 1) := by decide +kernel
theorem dX6_readSpan_34 : decode cX6_readSpan 34 = .ok (.aload_n 0, 1) := by decide +kernel
theorem dX6_readSpan_35 : decode cX6_readSpan 35 = .ok (.getfield 26, 3) := by decide +kernel
theorem dX6_readSpan_38 : decode cX6_readSpan 38 = .ok (.iastore, 1) := by decide +kernel
theorem dX6_readSpan_39 : decode cX6_readSpan 39 = .ok (.aload_n 0, 1) := by decide +kernel
theorem dX6_readSpan_40 : decode cX6_readSpan 40 = .ok (.aload_n 1, 1) := by decide +kernel
theorem dX6_readSpan_41 : decode cX6_readSpan 41 = .ok (.bipush 10, 2) := by decide +kernel
theorem dX6_readSpan_43 : decode cX6_readSpan 43 = .ok (.iconst 1, 1) := by decide +kernel
theorem dX6_readSpan_44 : decode cX6_readSpan 44 = .ok (.bipush 30, 2) := by decide +kernel
theorem dX6_readSpan_46 : decode cX6_readSpan 46 = .ok (.invokevirtual 61, 3) := by decide +kernel
theorem dX6_readSpan_49 : decode cX6_readSpan 49 = .ok (.ifCond .ne 5, 3) := by decide +kernel
theorem dX6_readSpan_52 : decode cX6_readSpan 52 = .ok (.iconst 0, 1) := by decide +kernel
theorem dX6_readSpan_53 : decode cX6_readSpan 53 = .ok (.ireturn, 1) := by decide +kernel
theorem dX6_readSpan_54 : decode cX6_readSpan 54 = .ok (.aload_n 2, 1) := by decide +kernel
theorem dX6_readSpan_55 : decode cX6_readSpan 55 = .ok (.getfield 92, 3) := by decide +kernel
theorem dX6_readSpan_58 : decode cX6_readSpan 58 = .ok (.iload_n 3, 1) := by decide +kernel
theorem dX6_readSpan_59 : decode cX6_readSpan 59 = .ok (.aload_n 0, 1) := by decide +kernel
theorem dX6_readSpan_60 : decode cX6_readSpan 60 = .ok (.getfield 26, 3) := by decide +kernel
theorem dX6_readSpan_63 : decode cX6_readSpan 63 = .ok (.iastore, 1) := by decide +kernel
theorem dX6_readSpan_64 : decode cX6_readSpan 64 = .ok (.aload_n 2, 1) := by decide +kernel
theorem dX6_readSpan_65 : decode cX6_readSpan 65 = .ok (.getfield 95, 3) := by decide +kernel
theorem dX6_readSpan_68 : decode cX6_readSpan 68 = .ok (.iload_n 3, 1) := by decide +kernel
theorem dX6_readSpan_69 : decode cX6_readSpan 69 = .ok (.iconst (-1), 1) := by decide +kernel
theorem dX6_readSpan_70 : decode cX6_readSpan 70 = .ok (.iastore, 1) := by decide +kernel
theorem dX6_readSpan_71 : decode cX6_readSpan 71 = .ok (.aload_n 0, 1) := by decide +kernel
theorem dX6_readSpan_72 : decode cX6_readSpan 72 = .ok (.aload_n 1, 1) := by decide +kernel
theorem dX6_readSpan_73 : decode cX6_readSpan 73 = .ok (.invokevirtual 37, 3) := by decide +kernel
theorem dX6_readSpan_76 : decode cX6_readSpan 76 = .ok (.aload_n 0, 1) := by decide +kernel
theorem dX6_readSpan_77 : decode cX6_readSpan 77 = .ok (.getfield 23, 3) := by decide +kernel
theorem dX6_readSpan_80 : decode cX6_readSpan 80 = .ok (.bipush 11, 2) := by decide +kernel
theorem dX6_readSpan_82 : decode cX6_readSpan 82 = .ok (.if_icmp .ne 31, 3) := by decide +kernel
theorem dX6_readSpan_85 : decode cX6_readSpan 85 = .ok (.aload_n 0, 1) := by decide +kernel
theorem dX6_readSpan_86 : decode cX6_readSpan 86 = .ok (.aload_n 1, 1) := by decide +kernel
theorem dX6_readSpan_87 : decode cX6_readSpan 87 = .ok (.iconst 0, 1) := by decide +kernel
theorem dX6_readSpan_88 : decode cX6_readSpan 88 = .ok (.bipush 60, 2) := by decide +kernel
theorem dX6_readSpan_90 : decode cX6_readSpan 90 = .ok (.invokevirtual 84, 3) := by decide +kernel
theorem dX6_readSpan_93 : decode cX6_readSpan 93 = .ok (.ifCond .ne 5, 3) := by decide +kernel
theorem dX6_readSpan_96 : decode cX6_readSpan 96 = .ok (.iconst 0, 1) := by decide +kernel
theorem dX6_readSpan_97 : decode cX6_readSpan 97 = .ok (.ireturn, 1) := by decide +kernel
theorem dX6_readSpan_98 : decode cX6_readSpan 98 = .ok (.aload_n 2, 1) := by decide +kernel
theorem dX6_readSpan_99 : decode cX6_readSpan 99 = .ok (.getfield 95, 3) := by decide +kernel
theorem dX6_readSpan_102 : decode cX6_readSpan 102 = .ok (.iload_n 3, 1) := by decide +kernel
theorem dX6_readSpan_103 : decode cX6_readSpan 103 = .ok (.aload_n 0, 1) := by decide +kernel
theorem dX6_readSpan_104 : decode cX6_readSpan 104 = .ok (.getfield 26, 3) := by decide +kernel
theorem dX6_readSpan_107 : decode cX6_readSpan 107 = .ok (.iastore, 1) := by decide +kernel
theorem dX6_readSpan_108 : decode cX6_readSpan 108 = .ok (.aload_n 0, 1) := by decide +kernel
theorem dX6_readSpan_109 : decode cX6_readSpan 109 = .ok (.aload_n 1, 1) := by decide +kernel
theorem dX6_readSpan_110 : decode cX6_readSpan 110 = .ok (.invokevirtual 37, 3) := by decide +kernel
theorem dX6_readSpan_113 : decode cX6_readSpan 113 = .ok (.aload_n 2, 1) := by decide +kernel
theorem dX6_readSpan_114 : decode cX6_readSpan 114 = .ok (.dup, 1) := by decide +kernel
theorem dX6_readSpan_115 : decode cX6_readSpan 115 = .ok (.getfield 81, 3) := by decide +kernel
theorem dX6_readSpan_118 : decode cX6_readSpan 118 = .ok (.iconst 1, 1) := by decide +kernel
theorem dX6_readSpan_119 : decode cX6_readSpan 119 = .ok (.iadd, 1) := by decide +kernel
theorem dX6_readSpan_120 : decode cX6_readSpan 120 = .ok (.putfield 81, 3) := by decide +kernel
theorem dX6_readSpan_123 : decode cX6_readSpan 123 = .ok (.aload_n 0, 1) := by decide +kernel
theorem dX6_readSpan_124 : decode cX6_readSpan 124 = .ok (.invokevirtual 77, 3) := by decide +kernel
theorem dX6_readSpan_127 : decode cX6_readSpan 127 = .ok (.ireturn, 1) := by decide +kernel
theorem dX6_readWet_0 : decode cX6_readWet 0 = .ok (.aload_n 2, 1) := by decide +kernel
theorem dX6_readWet_1 : decode cX6_readWet 1 = .ok (.getfield 98, 3) := by decide +kernel
theorem dX6_readWet_4 : decode cX6_readWet 4 = .ok (.bipush 8, 2) := by decide +kernel
theorem dX6_readWet_6 : decode cX6_readWet 6 = .ok (.if_icmp .lt 9, 3) := by decide +kernel
theorem dX6_readWet_9 : decode cX6_readWet 9 = .ok (.aload_n 0, 1) := by decide +kernel
theorem dX6_readWet_10 : decode cX6_readWet 10 = .ok (.iconst 3, 1) := by decide +kernel
theorem dX6_readWet_11 : decode cX6_readWet 11 = .ok (.invokevirtual 51, 3) := by decide +kernel
theorem dX6_readWet_14 : decode cX6_readWet 14 = .ok (.ireturn, 1) := by decide +kernel
theorem dX6_readWet_15 : decode cX6_readWet 15 = .ok (.aload_n 0, 1) := by decide +kernel
theorem dX6_readWet_16 : decode cX6_readWet 16 = .ok (.aload_n 1, 1) := by decide +kernel
theorem dX6_readWet_17 : decode cX6_readWet 17 = .ok (.iconst 0, 1) := by decide +kernel
theorem dX6_readWet_18 : decode cX6_readWet 18 = .ok (.bipush 13, 2) := by decide +kernel
theorem dX6_readWet_20 : decode cX6_readWet 20 = .ok (.invokevirtual 84, 3) := by decide +kernel
theorem dX6_readWet_23 : decode cX6_readWet 23 = .ok (.ifCond .ne 5, 3) := by decide +kernel
theorem dX6_readWet_26 : decode cX6_readWet 26 = .ok (.iconst 0, 1) := by decide +kernel
theorem dX6_readWet_27 : decode cX6_readWet 27 = .ok (.ireturn, 1) := by decide +kernel
theorem dX6_readWet_28 : decode cX6_readWet 28 = .ok (.aload_n 0, 1) := by decide +kernel
theorem dX6_readWet_29 : decode cX6_readWet 29 = .ok (.getfield 26, 3) := by decide +kernel
theorem dX6_readWet_32 : decode cX6_readWet 32 = .ok (.aload_n 2, 1) := by decide +kernel
theorem dX6_readWet_33 : decode cX6_readWet 33 = .ok (.getfield 65, 3) := by decide +kernel
theorem dX6_readWet_36 : decode cX6_readWet 36 = .ok (.if_icmp .gt 18, 3) := by decide +kernel
theorem dX6_readWet_39 : decode cX6_readWet 39 = .ok (.aload_n 2, 1) := by decide +kernel
theorem dX6_readWet_40 : decode cX6_readWet 40 = .ok (.dup, 1) := by decide +kernel
theorem dX6_readWet_41 : decode cX6_readWet 41 = .ok (.getfield 101, 3) := by decide +kernel
theorem dX6_readWet_44 : decode cX6_readWet 44 = .ok (.iconst 1, 1) := by decide +kernel
theorem dX6_readWet_45 : decode cX6_readWet 45 = .ok (.aload_n 0, 1) := by decide +kernel
theorem dX6_readWet_46 : decode cX6_readWet 46 = .ok (.getfield 26, 3) := by decide +kernel
theorem dX6_readWet_49 : decode cX6_readWet 49 = .ok (.ishl, 1) := by decide +kernel
theorem dX6_readWet_50 : decode cX6_readWet 50 = .ok (.ior, 1) := by decide +kernel
theorem dX6_readWet_51 : decode cX6_readWet 51 = .ok (.putfield 101, 3) := by decide +kernel
theorem dX6_readWet_54 : decode cX6_readWet 54 = .ok (.aload_n 2, 1) := by decide +kernel
theorem dX6_readWet_55 : decode cX6_readWet 55 = .ok (.dup, 1) := by decide +kernel
theorem dX6_readWet_56 : decode cX6_readWet 56 = .ok (.getfield 98, 3) := by decide +kernel
theorem dX6_readWet_59 : decode cX6_readWet 59 = .ok (.iconst 1, 1) := by decide +kernel
theorem dX6_readWet_60 : decode cX6_readWet 60 = .ok (.iadd, 1) := by decide +kernel
theorem dX6_readWet_61 : decode cX6_readWet 61 = .ok (.putfield 98, 3) := by decide +kernel
theorem dX6_readWet_64 : decode cX6_readWet 64 = .ok (.aload_n 0, 1) := by decide +kernel
theorem dX6_readWet_65 : decode cX6_readWet 65 = .ok (.aload_n 1, 1) := by decide +kernel
theorem dX6_readWet_66 : decode cX6_readWet 66 = .ok (.invokevirtual 37, 3) := by decide +kernel
theorem dX6_readWet_69 : decode cX6_readWet 69 = .ok (.aload_n 0, 1) := by decide +kernel
theorem dX6_readWet_70 : decode cX6_readWet 70 = .ok (.invokevirtual 77, 3) := by decide +kernel
theorem dX6_readWet_73 : decode cX6_readWet 73 = .ok (.ireturn, 1) := by decide +kernel
theorem dX6_step_0 : decode cX6_step 0 = .ok (.aload_n 0, 1) := by decide +kernel
theorem dX6_step_1 : decode cX6_step 1 = .ok (.getfield 18, 3) := by decide +kernel
theorem dX6_step_4 : decode cX6_step 4 = .ok (.aload_n 1, 1) := by decide +kernel
theorem dX6_step_5 : decode cX6_step 5 = .ok (.getfield 34, 3) := by decide +kernel
theorem dX6_step_8 : decode cX6_step 8 = .ok (.if_icmp .ge 52, 3) := by decide +kernel
theorem dX6_step_11 : decode cX6_step 11 = .ok (.aload_n 0, 1) := by decide +kernel
theorem dX6_step_12 : decode cX6_step 12 = .ok (.aload_n 1, 1) := by decide +kernel
theorem dX6_step_13 : decode cX6_step 13 = .ok (.getfield 104, 3) := by decide +kernel
theorem dX6_step_16 : decode cX6_step 16 = .ok (.aload_n 0, 1) := by decide +kernel
theorem dX6_step_17 : decode cX6_step 17 = .ok (.getfield 18, 3) := by decide +kernel
theorem dX6_step_20 : decode cX6_step 20 = .ok (.iaload, 1) := by decide +kernel
theorem dX6_step_21 : decode cX6_step 21 = .ok (.putfield 23, 3) := by decide +kernel
theorem dX6_step_24 : decode cX6_step 24 = .ok (.aload_n 0, 1) := by decide +kernel
theorem dX6_step_25 : decode cX6_step 25 = .ok (.aload_n 1, 1) := by decide +kernel
theorem dX6_step_26 : decode cX6_step 26 = .ok (.getfield 107, 3) := by decide +kernel
theorem dX6_step_29 : decode cX6_step 29 = .ok (.aload_n 0, 1) := by decide +kernel
theorem dX6_step_30 : decode cX6_step 30 = .ok (.getfield 18, 3) := by decide +kernel
theorem dX6_step_33 : decode cX6_step 33 = .ok (.iaload, 1) := by decide +kernel
theorem dX6_step_34 : decode cX6_step 34 = .ok (.putfield 15, 3) := by decide +kernel
theorem dX6_step_37 : decode cX6_step 37 = .ok (.aload_n 0, 1) := by decide +kernel
theorem dX6_step_38 : decode cX6_step 38 = .ok (.aload_n 1, 1) := by decide +kernel
theorem dX6_step_39 : decode cX6_step 39 = .ok (.getfield 110, 3) := by decide +kernel
theorem dX6_step_42 : decode cX6_step 42 = .ok (.aload_n 0, 1) := by decide +kernel
theorem dX6_step_43 : decode cX6_step 43 = .ok (.getfield 18, 3) := by decide +kernel
theorem dX6_step_46 : decode cX6_step 46 = .ok (.iaload, 1) := by decide +kernel
theorem dX6_step_47 : decode cX6_step 47 = .ok (.putfield 26, 3) := by decide +kernel
theorem dX6_step_50 : decode cX6_step 50 = .ok (.aload_n 0, 1) := by decide +kernel
theorem dX6_step_51 : decode cX6_step 51 = .ok (.dup, 1) := by decide +kernel
theorem dX6_step_52 : decode cX6_step 52 = .ok (.getfield 18, 3) := by decide +kernel
theorem dX6_step_55 : decode cX6_step 55 = .ok (.iconst 1, 1) := by decide +kernel
theorem dX6_step_56 : decode cX6_step 56 = .ok (.iadd, 1) := by decide +kernel
theorem dX6_step_57 : decode cX6_step 57 = .ok (.putfield 18, 3) := by decide +kernel
theorem dX6_step_60 : decode cX6_step 60 = .ok (.return_, 1) := by decide +kernel
theorem dX7_add_0 : decode cX7_add 0 = .ok (.aload_n 0, 1) := by decide +kernel
theorem dX7_add_1 : decode cX7_add 1 = .ok (.getfield 21, 3) := by decide +kernel
theorem dX7_add_4 : decode cX7_add 4 = .ok (.aload_n 0, 1) := by decide +kernel
theorem dX7_add_5 : decode cX7_add 5 = .ok (.getfield 9, 3) := by decide +kernel
theorem dX7_add_8 : decode cX7_add 8 = .ok (.arraylength, 1) := by decide +kernel
theorem dX7_add_9 : decode cX7_add 9 = .ok (.if_icmp .ge 43, 3) := by decide +kernel
theorem dX7_add_12 : decode cX7_add 12 = .ok (.aload_n 0, 1) := by decide +kernel
theorem dX7_add_13 : decode cX7_add 13 = .ok (.getfield 9, 3) := by decide +kernel
theorem dX7_add_16 : decode cX7_add 16 = .ok (.aload_n 0, 1) := by decide +kernel
theorem dX7_add_17 : decode cX7_add 17 = .ok (.getfield 21, 3) := by decide +kernel
theorem dX7_add_20 : decode cX7_add 20 = .ok (.iload_n 1, 1) := by decide +kernel
theorem dX7_add_21 : decode cX7_add 21 = .ok (.iastore, 1) := by decide +kernel
theorem dX7_add_22 : decode cX7_add 22 = .ok (.aload_n 0, 1) := by decide +kernel
theorem dX7_add_23 : decode cX7_add 23 = .ok (.getfield 15, 3) := by decide +kernel
theorem dX7_add_26 : decode cX7_add 26 = .ok (.aload_n 0, 1) := by decide +kernel
theorem dX7_add_27 : decode cX7_add 27 = .ok (.getfield 21, 3) := by decide +kernel
theorem dX7_add_30 : decode cX7_add 30 = .ok (.iload_n 2, 1) := by decide +kernel
theorem dX7_add_31 : decode cX7_add 31 = .ok (.iastore, 1) := by decide +kernel
theorem dX7_add_32 : decode cX7_add 32 = .ok (.aload_n 0, 1) := by decide +kernel
theorem dX7_add_33 : decode cX7_add 33 = .ok (.getfield 18, 3) := by decide +kernel
