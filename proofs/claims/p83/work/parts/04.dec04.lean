theorem dX7_add_36 : decode cX7_add 36 = .ok (.aload_n 0, 1) := by decide +kernel
theorem dX7_add_37 : decode cX7_add 37 = .ok (.getfield 21, 3) := by decide +kernel
theorem dX7_add_40 : decode cX7_add 40 = .ok (.iload_n 3, 1) := by decide +kernel
theorem dX7_add_41 : decode cX7_add 41 = .ok (.iastore, 1) := by decide +kernel
theorem dX7_add_42 : decode cX7_add 42 = .ok (.aload_n 0, 1) := by decide +kernel
theorem dX7_add_43 : decode cX7_add 43 = .ok (.dup, 1) := by decide +kernel
theorem dX7_add_44 : decode cX7_add 44 = .ok (.getfield 21, 3) := by decide +kernel
theorem dX7_add_47 : decode cX7_add 47 = .ok (.iconst 1, 1) := by decide +kernel
theorem dX7_add_48 : decode cX7_add 48 = .ok (.iadd, 1) := by decide +kernel
theorem dX7_add_49 : decode cX7_add 49 = .ok (.putfield 21, 3) := by decide +kernel
theorem dX7_add_52 : decode cX7_add 52 = .ok (.return_, 1) := by decide +kernel
theorem dX7_ifWord_0 : decode cX7_ifWord 0 = .ok (.aload_n 0, 1) := by decide +kernel
theorem dX7_ifWord_1 : decode cX7_ifWord 1 = .ok (.iload_n 1, 1) := by decide +kernel
theorem dX7_ifWord_2 : decode cX7_ifWord 2 = .ok (.iload_n 2, 1) := by decide +kernel
theorem dX7_ifWord_3 : decode cX7_ifWord 3 = .ok (.aload_n 3, 1) := by decide +kernel
theorem dX7_ifWord_4 : decode cX7_ifWord 4 = .ok (.invokestatic 73, 3) := by decide +kernel
theorem dX7_ifWord_7 : decode cX7_ifWord 7 = .ok (.ifCond .eq 8, 3) := by decide +kernel
theorem dX7_ifWord_10 : decode cX7_ifWord 10 = .ok (.iload 4, 2) := by decide +kernel
theorem dX7_ifWord_12 : decode cX7_ifWord 12 = .ok (.goto 4, 3) := by decide +kernel
theorem dX7_ifWord_15 : decode cX7_ifWord 15 = .ok (.iconst 3, 1) := by decide +kernel
theorem dX7_ifWord_16 : decode cX7_ifWord 16 = .ok (.ireturn, 1) := by decide +kernel
theorem dX7_init_0 : decode cX7_init 0 = .ok (.aload_n 0, 1) := by decide +kernel
theorem dX7_init_1 : decode cX7_init 1 = .ok (.invokespecial 3, 3) := by decide +kernel
theorem dX7_init_4 : decode cX7_init 4 = .ok (.aload_n 0, 1) := by decide +kernel
theorem dX7_init_5 : decode cX7_init 5 = .ok (.sipush 501, 3) := by decide +kernel
theorem dX7_init_8 : decode cX7_init 8 = .ok (.newarray .int, 2) := by decide +kernel
theorem dX7_init_10 : decode cX7_init 10 = .ok (.putfield 9, 3) := by decide +kernel
theorem dX7_init_13 : decode cX7_init 13 = .ok (.aload_n 0, 1) := by decide +kernel
theorem dX7_init_14 : decode cX7_init 14 = .ok (.sipush 501, 3) := by decide +kernel
theorem dX7_init_17 : decode cX7_init 17 = .ok (.newarray .int, 2) := by decide +kernel
theorem dX7_init_19 : decode cX7_init 19 = .ok (.putfield 15, 3) := by decide +kernel
theorem dX7_init_22 : decode cX7_init 22 = .ok (.aload_n 0, 1) := by decide +kernel
theorem dX7_init_23 : decode cX7_init 23 = .ok (.sipush 501, 3) := by decide +kernel
theorem dX7_init_26 : decode cX7_init 26 = .ok (.newarray .int, 2) := by decide +kernel
theorem dX7_init_28 : decode cX7_init 28 = .ok (.putfield 18, 3) := by decide +kernel
theorem dX7_init_31 : decode cX7_init 31 = .ok (.aload_n 0, 1) := by decide +kernel
theorem dX7_init_32 : decode cX7_init 32 = .ok (.iconst 0, 1) := by decide +kernel
theorem dX7_init_33 : decode cX7_init 33 = .ok (.putfield 21, 3) := by decide +kernel
theorem dX7_init_36 : decode cX7_init 36 = .ok (.return_, 1) := by decide +kernel
theorem dX7_isBlank_0 : decode cX7_isBlank 0 = .ok (.iload_n 0, 1) := by decide +kernel
theorem dX7_isBlank_1 : decode cX7_isBlank 1 = .ok (.bipush 32, 2) := by decide +kernel
theorem dX7_isBlank_3 : decode cX7_isBlank 3 = .ok (.if_icmp .eq 9, 3) := by decide +kernel
theorem dX7_isBlank_6 : decode cX7_isBlank 6 = .ok (.iload_n 0, 1) := by decide +kernel
theorem dX7_isBlank_7 : decode cX7_isBlank 7 = .ok (.bipush 10, 2) := by decide +kernel
theorem dX7_isBlank_9 : decode cX7_isBlank 9 = .ok (.if_icmp .ne 7, 3) := by decide +kernel
theorem dX7_isBlank_12 : decode cX7_isBlank 12 = .ok (.iconst 1, 1) := by decide +kernel
theorem dX7_isBlank_13 : decode cX7_isBlank 13 = .ok (.goto 4, 3) := by decide +kernel
theorem dX7_isBlank_16 : decode cX7_isBlank 16 = .ok (.iconst 0, 1) := by decide +kernel
theorem dX7_isBlank_17 : decode cX7_isBlank 17 = .ok (.ireturn, 1) := by decide +kernel
theorem dX7_isDigit_0 : decode cX7_isDigit 0 = .ok (.iload_n 0, 1) := by decide +kernel
theorem dX7_isDigit_1 : decode cX7_isDigit 1 = .ok (.bipush 48, 2) := by decide +kernel
theorem dX7_isDigit_3 : decode cX7_isDigit 3 = .ok (.if_icmp .lt 13, 3) := by decide +kernel
theorem dX7_isDigit_6 : decode cX7_isDigit 6 = .ok (.iload_n 0, 1) := by decide +kernel
theorem dX7_isDigit_7 : decode cX7_isDigit 7 = .ok (.bipush 57, 2) := by decide +kernel
theorem dX7_isDigit_9 : decode cX7_isDigit 9 = .ok (.if_icmp .gt 7, 3) := by decide +kernel
theorem dX7_isDigit_12 : decode cX7_isDigit 12 = .ok (.iconst 1, 1) := by decide +kernel
theorem dX7_isDigit_13 : decode cX7_isDigit 13 = .ok (.goto 4, 3) := by decide +kernel
theorem dX7_isDigit_16 : decode cX7_isDigit 16 = .ok (.iconst 0, 1) := by decide +kernel
theorem dX7_isDigit_17 : decode cX7_isDigit 17 = .ok (.ireturn, 1) := by decide +kernel
theorem dX7_isLetter_0 : decode cX7_isLetter 0 = .ok (.iload_n 0, 1) := by decide +kernel
theorem dX7_isLetter_1 : decode cX7_isLetter 1 = .ok (.bipush 97, 2) := by decide +kernel
theorem dX7_isLetter_3 : decode cX7_isLetter 3 = .ok (.if_icmp .lt 13, 3) := by decide +kernel
theorem dX7_isLetter_6 : decode cX7_isLetter 6 = .ok (.iload_n 0, 1) := by decide +kernel
theorem dX7_isLetter_7 : decode cX7_isLetter 7 = .ok (.bipush 122, 2) := by decide +kernel
theorem dX7_isLetter_9 : decode cX7_isLetter 9 = .ok (.if_icmp .gt 7, 3) := by decide +kernel
theorem dX7_isLetter_12 : decode cX7_isLetter 12 = .ok (.iconst 1, 1) := by decide +kernel
theorem dX7_isLetter_13 : decode cX7_isLetter 13 = .ok (.goto 4, 3) := by decide +kernel
theorem dX7_isLetter_16 : decode cX7_isLetter 16 = .ok (.iconst 0, 1) := by decide +kernel
theorem dX7_isLetter_17 : decode cX7_isLetter 17 = .ok (.ireturn, 1) := by decide +kernel
theorem dX7_isWord_0 : decode cX7_isWord 0 = .ok (.iload_n 2, 1) := by decide +kernel
theorem dX7_isWord_1 : decode cX7_isWord 1 = .ok (.iload_n 1, 1) := by decide +kernel
theorem dX7_isWord_2 : decode cX7_isWord 2 = .ok (.isub, 1) := by decide +kernel
theorem dX7_isWord_3 : decode cX7_isWord 3 = .ok (.aload_n 3, 1) := by decide +kernel
theorem dX7_isWord_4 : decode cX7_isWord 4 = .ok (.invokevirtual 97, 3) := by decide +kernel
theorem dX7_isWord_7 : decode cX7_isWord 7 = .ok (.if_icmp .eq 5, 3) := by decide +kernel
theorem dX7_isWord_10 : decode cX7_isWord 10 = .ok (.iconst 0, 1) := by decide +kernel
theorem dX7_isWord_11 : decode cX7_isWord 11 = .ok (.ireturn, 1) := by decide +kernel
theorem dX7_isWord_12 : decode cX7_isWord 12 = .ok (.iconst 0, 1) := by decide +kernel
theorem dX7_isWord_13 : decode cX7_isWord 13 = .ok (.istore 4, 2) := by decide +kernel
theorem dX7_isWord_15 : decode cX7_isWord 15 = .ok (.iload 4, 2) := by decide +kernel
theorem dX7_isWord_17 : decode cX7_isWord 17 = .ok (.aload_n 3, 1) := by decide +kernel
theorem dX7_isWord_18 : decode cX7_isWord 18 = .ok (.invokevirtual 97, 3) := by decide +kernel
theorem dX7_isWord_21 : decode cX7_isWord 21 = .ok (.if_icmp .ge 28, 3) := by decide +kernel
theorem dX7_isWord_24 : decode cX7_isWord 24 = .ok (.aload_n 0, 1) := by decide +kernel
theorem dX7_isWord_25 : decode cX7_isWord 25 = .ok (.iload_n 1, 1) := by decide +kernel
theorem dX7_isWord_26 : decode cX7_isWord 26 = .ok (.iload 4, 2) := by decide +kernel
theorem dX7_isWord_28 : decode cX7_isWord 28 = .ok (.iadd, 1) := by decide +kernel
theorem dX7_isWord_29 : decode cX7_isWord 29 = .ok (.invokevirtual 30, 3) := by decide +kernel
theorem dX7_isWord_32 : decode cX7_isWord 32 = .ok (.aload_n 3, 1) := by decide +kernel
theorem dX7_isWord_33 : decode cX7_isWord 33 = .ok (.iload 4, 2) := by decide +kernel
theorem dX7_isWord_35 : decode cX7_isWord 35 = .ok (.invokevirtual 102, 3) := by decide +kernel
theorem dX7_isWord_38 : decode cX7_isWord 38 = .ok (.if_icmp .eq 5, 3) := by decide +kernel
theorem dX7_isWord_41 : decode cX7_isWord 41 = .ok (.iconst 0, 1) := by decide +kernel
theorem dX7_isWord_42 : decode cX7_isWord 42 = .ok (.ireturn, 1) := by decide +kernel
theorem dX7_isWord_43 : decode cX7_isWord 43 = .ok (.iinc 4 1, 3) := by decide +kernel
theorem dX7_isWord_46 : decode cX7_isWord 46 = .ok (.goto (-31), 3) := by decide +kernel
theorem dX7_isWord_49 : decode cX7_isWord 49 = .ok (.iconst 1, 1) := by decide +kernel
theorem dX7_isWord_50 : decode cX7_isWord 50 = .ok (.ireturn, 1) := by decide +kernel
theorem dX7_numberEnd_0 : decode cX7_numberEnd 0 = .ok (.iload_n 1, 1) := by decide +kernel
theorem dX7_numberEnd_1 : decode cX7_numberEnd 1 = .ok (.istore_n 2, 1) := by decide +kernel
theorem dX7_numberEnd_2 : decode cX7_numberEnd 2 = .ok (.iload_n 2, 1) := by decide +kernel
theorem dX7_numberEnd_3 : decode cX7_numberEnd 3 = .ok (.aload_n 0, 1) := by decide +kernel
theorem dX7_numberEnd_4 : decode cX7_numberEnd 4 = .ok (.getfield 25, 3) := by decide +kernel
theorem dX7_numberEnd_7 : decode cX7_numberEnd 7 = .ok (.if_icmp .ge 20, 3) := by decide +kernel
theorem dX7_numberEnd_10 : decode cX7_numberEnd 10 = .ok (.aload_n 0, 1) := by decide +kernel
theorem dX7_numberEnd_11 : decode cX7_numberEnd 11 = .ok (.iload_n 2, 1) := by decide +kernel
theorem dX7_numberEnd_12 : decode cX7_numberEnd 12 = .ok (.invokevirtual 30, 3) := by decide +kernel
theorem dX7_numberEnd_15 : decode cX7_numberEnd 15 = .ok (.invokestatic 50, 3) := by decide +kernel
theorem dX7_numberEnd_18 : decode cX7_numberEnd 18 = .ok (.ifCond .eq 9, 3) := by decide +kernel
theorem dX7_numberEnd_21 : decode cX7_numberEnd 21 = .ok (.iinc 2 1, 3) := by decide +kernel
theorem dX7_numberEnd_24 : decode cX7_numberEnd 24 = .ok (.goto (-22), 3) := by decide +kernel
theorem dX7_numberEnd_27 : decode cX7_numberEnd 27 = .ok (.iload_n 2, 1) := by decide +kernel
theorem dX7_numberEnd_28 : decode cX7_numberEnd 28 = .ok (.ireturn, 1) := by decide +kernel
theorem dX7_scan_0 : decode cX7_scan 0 = .ok (.aload_n 0, 1) := by decide +kernel
theorem dX7_scan_1 : decode cX7_scan 1 = .ok (.iconst 0, 1) := by decide +kernel
theorem dX7_scan_2 : decode cX7_scan 2 = .ok (.putfield 21, 3) := by decide +kernel
theorem dX7_scan_5 : decode cX7_scan 5 = .ok (.iconst 0, 1) := by decide +kernel
theorem dX7_scan_6 : decode cX7_scan 6 = .ok (.istore_n 2, 1) := by decide +kernel
theorem dX7_scan_7 : decode cX7_scan 7 = .ok (.iload_n 2, 1) := by decide +kernel
theorem dX7_scan_8 : decode cX7_scan 8 = .ok (.aload_n 1, 1) := by decide +kernel
theorem dX7_scan_9 : decode cX7_scan 9 = .ok (.getfield 25, 3) := by decide +kernel
theorem dX7_scan_12 : decode cX7_scan 12 = .ok (.if_icmp .ge 110, 3) := by decide +kernel
theorem dX7_scan_15 : decode cX7_scan 15 = .ok (.aload_n 1, 1) := by decide +kernel
theorem dX7_scan_16 : decode cX7_scan 16 = .ok (.iload_n 2, 1) := by decide +kernel
theorem dX7_scan_17 : decode cX7_scan 17 = .ok (.invokevirtual 30, 3) := by decide +kernel
theorem dX7_scan_20 : decode cX7_scan 20 = .ok (.istore_n 3, 1) := by decide +kernel
theorem dX7_scan_21 : decode cX7_scan 21 = .ok (.iload_n 2, 1) := by decide +kernel
theorem dX7_scan_22 : decode cX7_scan 22 = .ok (.iconst 1, 1) := by decide +kernel
theorem dX7_scan_23 : decode cX7_scan 23 = .ok (.iadd, 1) := by decide +kernel
theorem dX7_scan_24 : decode cX7_scan 24 = .ok (.istore 4, 2) := by decide +kernel
theorem dX7_scan_26 : decode cX7_scan 26 = .ok (.iload_n 3, 1) := by decide +kernel
theorem dX7_scan_27 : decode cX7_scan 27 = .ok (.invokestatic 34, 3) := by decide +kernel
theorem dX7_scan_30 : decode cX7_scan 30 = .ok (.ifCond .eq 26, 3) := by decide +kernel
theorem dX7_scan_33 : decode cX7_scan 33 = .ok (.aload_n 1, 1) := by decide +kernel
theorem dX7_scan_34 : decode cX7_scan 34 = .ok (.iload_n 2, 1) := by decide +kernel
theorem dX7_scan_35 : decode cX7_scan 35 = .ok (.invokestatic 38, 3) := by decide +kernel
theorem dX7_scan_38 : decode cX7_scan 38 = .ok (.istore 4, 2) := by decide +kernel
theorem dX7_scan_40 : decode cX7_scan 40 = .ok (.aload_n 0, 1) := by decide +kernel
theorem dX7_scan_41 : decode cX7_scan 41 = .ok (.aload_n 1, 1) := by decide +kernel
theorem dX7_scan_42 : decode cX7_scan 42 = .ok (.iload_n 2, 1) := by decide +kernel
theorem dX7_scan_43 : decode cX7_scan 43 = .ok (.iload 4, 2) := by decide +kernel
theorem dX7_scan_45 : decode cX7_scan 45 = .ok (.invokestatic 42, 3) := by decide +kernel
theorem dX7_scan_48 : decode cX7_scan 48 = .ok (.iload_n 2, 1) := by decide +kernel
theorem dX7_scan_49 : decode cX7_scan 49 = .ok (.iconst 0, 1) := by decide +kernel
theorem dX7_scan_50 : decode cX7_scan 50 = .ok (.invokevirtual 46, 3) := by decide +kernel
theorem dX7_scan_53 : decode cX7_scan 53 = .ok (.goto 57, 3) := by decide +kernel
theorem dX7_scan_56 : decode cX7_scan 56 = .ok (.iload_n 3, 1) := by decide +kernel
theorem dX7_scan_57 : decode cX7_scan 57 = .ok (.invokestatic 50, 3) := by decide +kernel
theorem dX7_scan_60 : decode cX7_scan 60 = .ok (.ifCond .eq 26, 3) := by decide +kernel
theorem dX7_scan_63 : decode cX7_scan 63 = .ok (.aload_n 1, 1) := by decide +kernel
theorem dX7_scan_64 : decode cX7_scan 64 = .ok (.iload_n 2, 1) := by decide +kernel
theorem dX7_scan_65 : decode cX7_scan 65 = .ok (.invokestatic 53, 3) := by decide +kernel
theorem dX7_scan_68 : decode cX7_scan 68 = .ok (.istore 4, 2) := by decide +kernel
theorem dX7_scan_70 : decode cX7_scan 70 = .ok (.aload_n 0, 1) := by decide +kernel
theorem dX7_scan_71 : decode cX7_scan 71 = .ok (.iconst 1, 1) := by decide +kernel
theorem dX7_scan_72 : decode cX7_scan 72 = .ok (.iload_n 2, 1) := by decide +kernel
theorem dX7_scan_73 : decode cX7_scan 73 = .ok (.aload_n 1, 1) := by decide +kernel
theorem dX7_scan_74 : decode cX7_scan 74 = .ok (.iload_n 2, 1) := by decide +kernel
theorem dX7_scan_75 : decode cX7_scan 75 = .ok (.iload 4, 2) := by decide +kernel
theorem dX7_scan_77 : decode cX7_scan 77 = .ok (.invokestatic 56, 3) := by decide +kernel
theorem dX7_scan_80 : decode cX7_scan 80 = .ok (.invokevirtual 46, 3) := by decide +kernel
theorem dX7_scan_83 : decode cX7_scan 83 = .ok (.goto 27, 3) := by decide +kernel
theorem dX7_scan_86 : decode cX7_scan 86 = .ok (.iload_n 3, 1) := by decide +kernel
theorem dX7_scan_87 : decode cX7_scan 87 = .ok (.invokestatic 59, 3) := by decide +kernel
theorem dX7_scan_90 : decode cX7_scan 90 = .ok (.ifCond .ne 20, 3) := by decide +kernel
theorem dX7_scan_93 : decode cX7_scan 93 = .ok (.aload_n 0, 1) := by decide +kernel
theorem dX7_scan_94 : decode cX7_scan 94 = .ok (.iload_n 3, 1) := by decide +kernel
theorem dX7_scan_95 : decode cX7_scan 95 = .ok (.bipush 59, 2) := by decide +kernel
theorem dX7_scan_97 : decode cX7_scan 97 = .ok (.if_icmp .ne 7, 3) := by decide +kernel
theorem dX7_scan_100 : decode cX7_scan 100 = .ok (.iconst 2, 1) := by decide +kernel
theorem dX7_scan_101 : decode cX7_scan 101 = .ok (.goto 4, 3) := by decide +kernel
theorem dX7_scan_104 : decode cX7_scan 104 = .ok (.iconst 3, 1) := by decide +kernel
theorem dX7_scan_105 : decode cX7_scan 105 = .ok (.iload_n 2, 1) := by decide +kernel
theorem dX7_scan_106 : decode cX7_scan 106 = .ok (.iconst 0, 1) := by decide +kernel
theorem dX7_scan_107 : decode cX7_scan 107 = .ok (.invokevirtual 46, 3) := by decide +kernel
theorem dX7_scan_110 : decode cX7_scan 110 = .ok (.iload 4, 2) := by decide +kernel
theorem dX7_scan_112 : decode cX7_scan 112 = .ok (.iload_n 2, 1) := by decide +kernel
theorem dX7_scan_113 : decode cX7_scan 113 = .ok (.iconst 1, 1) := by decide +kernel
theorem dX7_scan_114 : decode cX7_scan 114 = .ok (.iadd, 1) := by decide +kernel
theorem dX7_scan_115 : decode cX7_scan 115 = .ok (.invokestatic 62, 3) := by decide +kernel
theorem dX7_scan_118 : decode cX7_scan 118 = .ok (.istore_n 2, 1) := by decide +kernel
theorem dX7_scan_119 : decode cX7_scan 119 = .ok (.goto (-112), 3) := by decide +kernel
theorem dX7_scan_122 : decode cX7_scan 122 = .ok (.aload_n 0, 1) := by decide +kernel
theorem dX7_scan_123 : decode cX7_scan 123 = .ok (.iconst 0, 1) := by decide +kernel
theorem dX7_scan_124 : decode cX7_scan 124 = .ok (.aload_n 1, 1) := by decide +kernel
theorem dX7_scan_125 : decode cX7_scan 125 = .ok (.getfield 25, 3) := by decide +kernel
theorem dX7_scan_128 : decode cX7_scan 128 = .ok (.iconst 0, 1) := by decide +kernel
theorem dX7_scan_129 : decode cX7_scan 129 = .ok (.invokevirtual 46, 3) := by decide +kernel
theorem dX7_scan_132 : decode cX7_scan 132 = .ok (.return_, 1) := by decide +kernel
theorem dX7_valueOf_0 : decode cX7_valueOf 0 = .ok (.iconst 0, 1) := by decide +kernel
theorem dX7_valueOf_1 : decode cX7_valueOf 1 = .ok (.istore_n 3, 1) := by decide +kernel
theorem dX7_valueOf_2 : decode cX7_valueOf 2 = .ok (.iload_n 1, 1) := by decide +kernel
theorem dX7_valueOf_3 : decode cX7_valueOf 3 = .ok (.istore 4, 2) := by decide +kernel
theorem dX7_valueOf_5 : decode cX7_valueOf 5 = .ok (.iload 4, 2) := by decide +kernel
theorem dX7_valueOf_7 : decode cX7_valueOf 7 = .ok (.iload_n 2, 1) := by decide +kernel
theorem dX7_valueOf_8 : decode cX7_valueOf 8 = .ok (.if_icmp .ge 30, 3) := by decide +kernel
theorem dX7_valueOf_11 : decode cX7_valueOf 11 = .ok (.sipush 1000, 3) := by decide +kernel
theorem dX7_valueOf_14 : decode cX7_valueOf 14 = .ok (.bipush 10, 2) := by decide +kernel
theorem dX7_valueOf_16 : decode cX7_valueOf 16 = .ok (.iload_n 3, 1) := by decide +kernel
theorem dX7_valueOf_17 : decode cX7_valueOf 17 = .ok (.imul, 1) := by decide +kernel
theorem dX7_valueOf_18 : decode cX7_valueOf 18 = .ok (.aload_n 0, 1) := by decide +kernel
theorem dX7_valueOf_19 : decode cX7_valueOf 19 = .ok (.iload 4, 2) := by decide +kernel
theorem dX7_valueOf_21 : decode cX7_valueOf 21 = .ok (.invokevirtual 30, 3) := by decide +kernel
theorem dX7_valueOf_24 : decode cX7_valueOf 24 = .ok (.iadd, 1) := by decide +kernel
theorem dX7_valueOf_25 : decode cX7_valueOf 25 = .ok (.bipush 48, 2) := by decide +kernel
theorem dX7_valueOf_27 : decode cX7_valueOf 27 = .ok (.isub, 1) := by decide +kernel
theorem dX7_valueOf_28 : decode cX7_valueOf 28 = .ok (.invokestatic 68, 3) := by decide +kernel
theorem dX7_valueOf_31 : decode cX7_valueOf 31 = .ok (.istore_n 3, 1) := by decide +kernel
theorem dX7_valueOf_32 : decode cX7_valueOf 32 = .ok (.iinc 4 1, 3) := by decide +kernel
theorem dX7_valueOf_35 : decode cX7_valueOf 35 = .ok (.goto (-30), 3) := by decide +kernel
theorem dX7_valueOf_38 : decode cX7_valueOf 38 = .ok (.iload_n 3, 1) := by decide +kernel
theorem dX7_valueOf_39 : decode cX7_valueOf 39 = .ok (.ireturn, 1) := by decide +kernel
theorem dX7_wordEnd_0 : decode cX7_wordEnd 0 = .ok (.iload_n 1, 1) := by decide +kernel
theorem dX7_wordEnd_1 : decode cX7_wordEnd 1 = .ok (.istore_n 2, 1) := by decide +kernel
theorem dX7_wordEnd_2 : decode cX7_wordEnd 2 = .ok (.iload_n 2, 1) := by decide +kernel
theorem dX7_wordEnd_3 : decode cX7_wordEnd 3 = .ok (.aload_n 0, 1) := by decide +kernel
theorem dX7_wordEnd_4 : decode cX7_wordEnd 4 = .ok (.getfield 25, 3) := by decide +kernel
theorem dX7_wordEnd_7 : decode cX7_wordEnd 7 = .ok (.if_icmp .ge 20, 3) := by decide +kernel
theorem dX7_wordEnd_10 : decode cX7_wordEnd 10 = .ok (.aload_n 0, 1) := by decide +kernel
theorem dX7_wordEnd_11 : decode cX7_wordEnd 11 = .ok (.iload_n 2, 1) := by decide +kernel
theorem dX7_wordEnd_12 : decode cX7_wordEnd 12 = .ok (.invokevirtual 30, 3) := by decide +kernel
theorem dX7_wordEnd_15 : decode cX7_wordEnd 15 = .ok (.invokestatic 34, 3) := by decide +kernel
theorem dX7_wordEnd_18 : decode cX7_wordEnd 18 = .ok (.ifCond .eq 9, 3) := by decide +kernel
theorem dX7_wordEnd_21 : decode cX7_wordEnd 21 = .ok (.iinc 2 1, 3) := by decide +kernel
theorem dX7_wordEnd_24 : decode cX7_wordEnd 24 = .ok (.goto (-22), 3) := by decide +kernel
theorem dX7_wordEnd_27 : decode cX7_wordEnd 27 = .ok (.iload_n 2, 1) := by decide +kernel
theorem dX7_wordEnd_28 : decode cX7_wordEnd 28 = .ok (.ireturn, 1) := by decide +kernel
theorem dX7_wordKind_0 : decode cX7_wordKind 0 = .ok (.aload_n 0, 1) := by decide +kernel
theorem dX7_wordKind_1 : decode cX7_wordKind 1 = .ok (.iload_n 1, 1) := by decide +kernel
theorem dX7_wordKind_2 : decode cX7_wordKind 2 = .ok (.invokevirtual 30, 3) := by decide +kernel
theorem dX7_wordKind_5 : decode cX7_wordKind 5 = .ok (.tableswitch 202 100 119 #[121, 202, 202, 202, 202, 202, 202, 202, 131, 202, 191, 158, 202, 202, 202, 180, 202, 202, 169, 95], 95) := by decide +kernel
theorem dX7_wordKind_100 : decode cX7_wordKind 100 = .ok (.aload_n 0, 1) := by decide +kernel
theorem dX7_wordKind_101 : decode cX7_wordKind 101 = .ok (.iload_n 1, 1) := by decide +kernel
theorem dX7_wordKind_102 : decode cX7_wordKind 102 = .ok (.iload_n 2, 1) := by decide +kernel
theorem dX7_wordKind_103 : decode cX7_wordKind 103 = .ok (.ldc 71, 2) := by decide +kernel
theorem dX7_wordKind_105 : decode cX7_wordKind 105 = .ok (.invokestatic 73, 3) := by decide +kernel
theorem dX7_wordKind_108 : decode cX7_wordKind 108 = .ok (.ifCond .eq 7, 3) := by decide +kernel
theorem dX7_wordKind_111 : decode cX7_wordKind 111 = .ok (.iconst 4, 1) := by decide +kernel
theorem dX7_wordKind_112 : decode cX7_wordKind 112 = .ok (.goto 13, 3) := by decide +kernel
theorem dX7_wordKind_115 : decode cX7_wordKind 115 = .ok (.aload_n 0, 1) := by decide +kernel
theorem dX7_wordKind_116 : decode cX7_wordKind 116 = .ok (.iload_n 1, 1) := by decide +kernel
theorem dX7_wordKind_117 : decode cX7_wordKind 117 = .ok (.iload_n 2, 1) := by decide +kernel
theorem dX7_wordKind_118 : decode cX7_wordKind 118 = .ok (.ldc 77, 2) := by decide +kernel
theorem dX7_wordKind_120 : decode cX7_wordKind 120 = .ok (.bipush 12, 2) := by decide +kernel
theorem dX7_wordKind_122 : decode cX7_wordKind 122 = .ok (.invokestatic 79, 3) := by decide +kernel
theorem dX7_wordKind_125 : decode cX7_wordKind 125 = .ok (.ireturn, 1) := by decide +kernel
theorem dX7_wordKind_126 : decode cX7_wordKind 126 = .ok (.aload_n 0, 1) := by decide +kernel
theorem dX7_wordKind_127 : decode cX7_wordKind 127 = .ok (.iload_n 1, 1) := by decide +kernel
theorem dX7_wordKind_128 : decode cX7_wordKind 128 = .ok (.iload_n 2, 1) := by decide +kernel
theorem dX7_wordKind_129 : decode cX7_wordKind 129 = .ok (.ldc 83, 2) := by decide +kernel
theorem dX7_wordKind_131 : decode cX7_wordKind 131 = .ok (.iconst 5, 1) := by decide +kernel
theorem dX7_wordKind_132 : decode cX7_wordKind 132 = .ok (.invokestatic 79, 3) := by decide +kernel
theorem dX7_wordKind_135 : decode cX7_wordKind 135 = .ok (.ireturn, 1) := by decide +kernel
theorem dX7_wordKind_136 : decode cX7_wordKind 136 = .ok (.aload_n 0, 1) := by decide +kernel
theorem dX7_wordKind_137 : decode cX7_wordKind 137 = .ok (.iload_n 1, 1) := by decide +kernel
theorem dX7_wordKind_138 : decode cX7_wordKind 138 = .ok (.iload_n 2, 1) := by decide +kernel
theorem dX7_wordKind_139 : decode cX7_wordKind 139 = .ok (.ldc 85, 2) := by decide +kernel
theorem dX7_wordKind_141 : decode cX7_wordKind 141 = .ok (.invokestatic 73, 3) := by decide +kernel
theorem dX7_wordKind_144 : decode cX7_wordKind 144 = .ok (.ifCond .eq 8, 3) := by decide +kernel
theorem dX7_wordKind_147 : decode cX7_wordKind 147 = .ok (.bipush 6, 2) := by decide +kernel
theorem dX7_wordKind_149 : decode cX7_wordKind 149 = .ok (.goto 13, 3) := by decide +kernel
theorem dX7_wordKind_152 : decode cX7_wordKind 152 = .ok (.aload_n 0, 1) := by decide +kernel
theorem dX7_wordKind_153 : decode cX7_wordKind 153 = .ok (.iload_n 1, 1) := by decide +kernel
theorem dX7_wordKind_154 : decode cX7_wordKind 154 = .ok (.iload_n 2, 1) := by decide +kernel
theorem dX7_wordKind_155 : decode cX7_wordKind 155 = .ok (.ldc 87, 2) := by decide +kernel
theorem dX7_wordKind_157 : decode cX7_wordKind 157 = .ok (.bipush 10, 2) := by decide +kernel
theorem dX7_wordKind_159 : decode cX7_wordKind 159 = .ok (.invokestatic 79, 3) := by decide +kernel
theorem dX7_wordKind_162 : decode cX7_wordKind 162 = .ok (.ireturn, 1) := by decide +kernel
theorem dX7_wordKind_163 : decode cX7_wordKind 163 = .ok (.aload_n 0, 1) := by decide +kernel
theorem dX7_wordKind_164 : decode cX7_wordKind 164 = .ok (.iload_n 1, 1) := by decide +kernel
theorem dX7_wordKind_165 : decode cX7_wordKind 165 = .ok (.iload_n 2, 1) := by decide +kernel
theorem dX7_wordKind_166 : decode cX7_wordKind 166 = .ok (.ldc 89, 2) := by decide +kernel
theorem dX7_wordKind_168 : decode cX7_wordKind 168 = .ok (.bipush 7, 2) := by decide +kernel
theorem dX7_wordKind_170 : decode cX7_wordKind 170 = .ok (.invokestatic 79, 3) := by decide +kernel
theorem dX7_wordKind_173 : decode cX7_wordKind 173 = .ok (.ireturn, 1) := by decide +kernel
theorem dX7_wordKind_174 : decode cX7_wordKind 174 = .ok (.aload_n 0, 1) := by decide +kernel
theorem dX7_wordKind_175 : decode cX7_wordKind 175 = .ok (.iload_n 1, 1) := by decide +kernel
theorem dX7_wordKind_176 : decode cX7_wordKind 176 = .ok (.iload_n 2, 1) := by decide +kernel
theorem dX7_wordKind_177 : decode cX7_wordKind 177 = .ok (.ldc 91, 2) := by decide +kernel
theorem dX7_wordKind_179 : decode cX7_wordKind 179 = .ok (.bipush 8, 2) := by decide +kernel
theorem dX7_wordKind_181 : decode cX7_wordKind 181 = .ok (.invokestatic 79, 3) := by decide +kernel
theorem dX7_wordKind_184 : decode cX7_wordKind 184 = .ok (.ireturn, 1) := by decide +kernel
theorem dX7_wordKind_185 : decode cX7_wordKind 185 = .ok (.aload_n 0, 1) := by decide +kernel
theorem dX7_wordKind_186 : decode cX7_wordKind 186 = .ok (.iload_n 1, 1) := by decide +kernel
theorem dX7_wordKind_187 : decode cX7_wordKind 187 = .ok (.iload_n 2, 1) := by decide +kernel
theorem dX7_wordKind_188 : decode cX7_wordKind 188 = .ok (.ldc 93, 2) := by decide +kernel
theorem dX7_wordKind_190 : decode cX7_wordKind 190 = .ok (.bipush 9, 2) := by decide +kernel
theorem dX7_wordKind_192 : decode cX7_wordKind 192 = .ok (.invokestatic 79, 3) := by decide +kernel
theorem dX7_wordKind_195 : decode cX7_wordKind 195 = .ok (.ireturn, 1) := by decide +kernel
theorem dX7_wordKind_196 : decode cX7_wordKind 196 = .ok (.aload_n 0, 1) := by decide +kernel
theorem dX7_wordKind_197 : decode cX7_wordKind 197 = .ok (.iload_n 1, 1) := by decide +kernel
theorem dX7_wordKind_198 : decode cX7_wordKind 198 = .ok (.iload_n 2, 1) := by decide +kernel
theorem dX7_wordKind_199 : decode cX7_wordKind 199 = .ok (.ldc 95, 2) := by decide +kernel
theorem dX7_wordKind_201 : decode cX7_wordKind 201 = .ok (.bipush 11, 2) := by decide +kernel
theorem dX7_wordKind_203 : decode cX7_wordKind 203 = .ok (.invokestatic 79, 3) := by decide +kernel
theorem dX7_wordKind_206 : decode cX7_wordKind 206 = .ok (.ireturn, 1) := by decide +kernel
theorem dX7_wordKind_207 : decode cX7_wordKind 207 = .ok (.iconst 3, 1) := by decide +kernel
theorem dX7_wordKind_208 : decode cX7_wordKind 208 = .ok (.ireturn, 1) := by decide +kernel
theorem dX8_alikeFrom_0 : decode cX8_alikeFrom 0 = .ok (.iconst 0, 1) := by decide +kernel
theorem dX8_alikeFrom_1 : decode cX8_alikeFrom 1 = .ok (.istore_n 3, 1) := by decide +kernel
theorem dX8_alikeFrom_2 : decode cX8_alikeFrom 2 = .ok (.iload_n 2, 1) := by decide +kernel
theorem dX8_alikeFrom_3 : decode cX8_alikeFrom 3 = .ok (.istore 4, 2) := by decide +kernel
theorem dX8_alikeFrom_5 : decode cX8_alikeFrom 5 = .ok (.iload 4, 2) := by decide +kernel
theorem dX8_alikeFrom_7 : decode cX8_alikeFrom 7 = .ok (.bipush 30, 2) := by decide +kernel
theorem dX8_alikeFrom_9 : decode cX8_alikeFrom 9 = .ok (.if_icmp .gt 55, 3) := by decide +kernel
theorem dX8_alikeFrom_12 : decode cX8_alikeFrom 12 = .ok (.iload_n 1, 1) := by decide +kernel
theorem dX8_alikeFrom_13 : decode cX8_alikeFrom 13 = .ok (.iload 4, 2) := by decide +kernel
theorem dX8_alikeFrom_15 : decode cX8_alikeFrom 15 = .ok (.invokestatic 272, 3) := by decide +kernel
theorem dX8_alikeFrom_18 : decode cX8_alikeFrom 18 = .ok (.ifCond .eq 40, 3) := by decide +kernel
theorem dX8_alikeFrom_21 : decode cX8_alikeFrom 21 = .ok (.aload_n 0, 1) := by decide +kernel
theorem dX8_alikeFrom_22 : decode cX8_alikeFrom 22 = .ok (.getfield 79, 3) := by decide +kernel
theorem dX8_alikeFrom_25 : decode cX8_alikeFrom 25 = .ok (.iload 4, 2) := by decide +kernel
theorem dX8_alikeFrom_27 : decode cX8_alikeFrom 27 = .ok (.laload, 1) := by decide +kernel
theorem dX8_alikeFrom_28 : decode cX8_alikeFrom 28 = .ok (.aload_n 0, 1) := by decide +kernel
theorem dX8_alikeFrom_29 : decode cX8_alikeFrom 29 = .ok (.getfield 79, 3) := by decide +kernel
theorem dX8_alikeFrom_32 : decode cX8_alikeFrom 32 = .ok (.iload_n 2, 1) := by decide +kernel
theorem dX8_alikeFrom_33 : decode cX8_alikeFrom 33 = .ok (.laload, 1) := by decide +kernel
theorem dX8_alikeFrom_34 : decode cX8_alikeFrom 34 = .ok (.lcmp, 1) := by decide +kernel
theorem dX8_alikeFrom_35 : decode cX8_alikeFrom 35 = .ok (.ifCond .ne 23, 3) := by decide +kernel
theorem dX8_alikeFrom_38 : decode cX8_alikeFrom 38 = .ok (.aload_n 0, 1) := by decide +kernel
theorem dX8_alikeFrom_39 : decode cX8_alikeFrom 39 = .ok (.getfield 83, 3) := by decide +kernel
theorem dX8_alikeFrom_42 : decode cX8_alikeFrom 42 = .ok (.iload 4, 2) := by decide +kernel
theorem dX8_alikeFrom_44 : decode cX8_alikeFrom 44 = .ok (.laload, 1) := by decide +kernel
theorem dX8_alikeFrom_45 : decode cX8_alikeFrom 45 = .ok (.aload_n 0, 1) := by decide +kernel
theorem dX8_alikeFrom_46 : decode cX8_alikeFrom 46 = .ok (.getfield 83, 3) := by decide +kernel
theorem dX8_alikeFrom_49 : decode cX8_alikeFrom 49 = .ok (.iload_n 2, 1) := by decide +kernel
theorem dX8_alikeFrom_50 : decode cX8_alikeFrom 50 = .ok (.laload, 1) := by decide +kernel
theorem dX8_alikeFrom_51 : decode cX8_alikeFrom 51 = .ok (.lcmp, 1) := by decide +kernel
theorem dX8_alikeFrom_52 : decode cX8_alikeFrom 52 = .ok (.ifCond .ne 6, 3) := by decide +kernel
theorem dX8_alikeFrom_55 : decode cX8_alikeFrom 55 = .ok (.iinc 3 1, 3) := by decide +kernel
theorem dX8_alikeFrom_58 : decode cX8_alikeFrom 58 = .ok (.iinc 4 1, 3) := by decide +kernel
theorem dX8_alikeFrom_61 : decode cX8_alikeFrom 61 = .ok (.goto (-56), 3) := by decide +kernel
theorem dX8_alikeFrom_64 : decode cX8_alikeFrom 64 = .ok (.iload_n 3, 1) := by decide +kernel
theorem dX8_alikeFrom_65 : decode cX8_alikeFrom 65 = .ok (.ireturn, 1) := by decide +kernel
theorem dX8_all_0 : decode cX8_all 0 = .ok (.aload_n 0, 1) := by decide +kernel
theorem dX8_all_1 : decode cX8_all 1 = .ok (.invokevirtual 134, 3) := by decide +kernel
theorem dX8_all_4 : decode cX8_all 4 = .ok (.ifCond .eq 14, 3) := by decide +kernel
theorem dX8_all_7 : decode cX8_all 7 = .ok (.aload_n 0, 1) := by decide +kernel
theorem dX8_all_8 : decode cX8_all 8 = .ok (.aload_n 0, 1) := by decide +kernel
theorem dX8_all_9 : decode cX8_all 9 = .ok (.invokevirtual 257, 3) := by decide +kernel
theorem dX8_all_12 : decode cX8_all 12 = .ok (.invokevirtual 260, 3) := by decide +kernel
theorem dX8_all_15 : decode cX8_all 15 = .ok (.goto 5, 3) := by decide +kernel
theorem dX8_all_18 : decode cX8_all 18 = .ok (.bipush (-2), 2) := by decide +kernel
theorem dX8_all_20 : decode cX8_all 20 = .ok (.ireturn, 1) := by decide +kernel
theorem dX8_allDays_0 : decode cX8_allDays 0 = .ok (.iconst 1, 1) := by decide +kernel
theorem dX8_allDays_1 : decode cX8_allDays 1 = .ok (.aload_n 0, 1) := by decide +kernel
theorem dX8_allDays_2 : decode cX8_allDays 2 = .ok (.getfield 33, 3) := by decide +kernel
theorem dX8_allDays_5 : decode cX8_allDays 5 = .ok (.getfield 242, 3) := by decide +kernel
theorem dX8_allDays_8 : decode cX8_allDays 8 = .ok (.iconst 1, 1) := by decide +kernel
theorem dX8_allDays_9 : decode cX8_allDays 9 = .ok (.iadd, 1) := by decide +kernel
theorem dX8_allDays_10 : decode cX8_allDays 10 = .ok (.ishl, 1) := by decide +kernel
theorem dX8_allDays_11 : decode cX8_allDays 11 = .ok (.iconst 1, 1) := by decide +kernel
theorem dX8_allDays_12 : decode cX8_allDays 12 = .ok (.isub, 1) := by decide +kernel
theorem dX8_allDays_13 : decode cX8_allDays 13 = .ok (.ireturn, 1) := by decide +kernel
theorem dX8_allPoles_0 : decode cX8_allPoles 0 = .ok (.iconst 1, 1) := by decide +kernel
theorem dX8_allPoles_1 : decode cX8_allPoles 1 = .ok (.aload_n 0, 1) := by decide +kernel
theorem dX8_allPoles_2 : decode cX8_allPoles 2 = .ok (.getfield 33, 3) := by decide +kernel
theorem dX8_allPoles_5 : decode cX8_allPoles 5 = .ok (.getfield 210, 3) := by decide +kernel
theorem dX8_allPoles_8 : decode cX8_allPoles 8 = .ok (.ishl, 1) := by decide +kernel
theorem dX8_allPoles_9 : decode cX8_allPoles 9 = .ok (.iconst 1, 1) := by decide +kernel
theorem dX8_allPoles_10 : decode cX8_allPoles 10 = .ok (.isub, 1) := by decide +kernel
theorem dX8_allPoles_11 : decode cX8_allPoles 11 = .ok (.ireturn, 1) := by decide +kernel
theorem dX8_amps_0 : decode cX8_amps 0 = .ok (.aload_n 0, 1) := by decide +kernel
theorem dX8_amps_1 : decode cX8_amps 1 = .ok (.iload_n 1, 1) := by decide +kernel
theorem dX8_amps_2 : decode cX8_amps 2 = .ok (.invokevirtual 145, 3) := by decide +kernel
theorem dX8_amps_5 : decode cX8_amps 5 = .ok (.ifCond .eq 10, 3) := by decide +kernel
theorem dX8_amps_8 : decode cX8_amps 8 = .ok (.iload_n 2, 1) := by decide +kernel
theorem dX8_amps_9 : decode cX8_amps 9 = .ok (.invokestatic 159, 3) := by decide +kernel
theorem dX8_amps_12 : decode cX8_amps 12 = .ok (.ifCond .ne 7, 3) := by decide +kernel
theorem dX8_amps_15 : decode cX8_amps 15 = .ok (.ldc2_w 162, 3) := by decide +kernel
theorem dX8_amps_18 : decode cX8_amps 18 = .ok (.lreturn, 1) := by decide +kernel
theorem dX8_amps_19 : decode cX8_amps 19 = .ok (.aload_n 0, 1) := by decide +kernel
theorem dX8_amps_20 : decode cX8_amps 20 = .ok (.iload_n 1, 1) := by decide +kernel
theorem dX8_amps_21 : decode cX8_amps 21 = .ok (.invokevirtual 164, 3) := by decide +kernel
theorem dX8_amps_24 : decode cX8_amps 24 = .ok (.aload_n 0, 1) := by decide +kernel
theorem dX8_amps_25 : decode cX8_amps 25 = .ok (.aload_n 0, 1) := by decide +kernel
theorem dX8_amps_26 : decode cX8_amps 26 = .ok (.getfield 33, 3) := by decide +kernel
theorem dX8_amps_29 : decode cX8_amps 29 = .ok (.getfield 175, 3) := by decide +kernel
theorem dX8_amps_32 : decode cX8_amps 32 = .ok (.i2l, 1) := by decide +kernel
theorem dX8_amps_33 : decode cX8_amps 33 = .ok (.aload_n 0, 1) := by decide +kernel
theorem dX8_amps_34 : decode cX8_amps 34 = .ok (.getfield 61, 3) := by decide +kernel
theorem dX8_amps_37 : decode cX8_amps 37 = .ok (.invokevirtual 178, 3) := by decide +kernel
theorem dX8_amps_40 : decode cX8_amps 40 = .ok (.lmul, 1) := by decide +kernel
theorem dX8_amps_41 : decode cX8_amps 41 = .ok (.aload_n 0, 1) := by decide +kernel
theorem dX8_amps_42 : decode cX8_amps 42 = .ok (.getfield 61, 3) := by decide +kernel
theorem dX8_amps_45 : decode cX8_amps 45 = .ok (.getfield 182, 3) := by decide +kernel
theorem dX8_amps_48 : decode cX8_amps 48 = .ok (.iload_n 2, 1) := by decide +kernel
theorem dX8_amps_49 : decode cX8_amps 49 = .ok (.invokevirtual 186, 3) := by decide +kernel
theorem dX8_amps_52 : decode cX8_amps 52 = .ok (.lreturn, 1) := by decide +kernel
theorem dX8_anew_0 : decode cX8_anew 0 = .ok (.aload_n 0, 1) := by decide +kernel
theorem dX8_anew_1 : decode cX8_anew 1 = .ok (.invokevirtual 134, 3) := by decide +kernel
theorem dX8_anew_4 : decode cX8_anew 4 = .ok (.ifCond .ne 6, 3) := by decide +kernel
theorem dX8_anew_7 : decode cX8_anew 7 = .ok (.bipush (-2), 2) := by decide +kernel
theorem dX8_anew_9 : decode cX8_anew 9 = .ok (.ireturn, 1) := by decide +kernel
theorem dX8_anew_10 : decode cX8_anew 10 = .ok (.aload_n 0, 1) := by decide +kernel
theorem dX8_anew_11 : decode cX8_anew 11 = .ok (.getfield 33, 3) := by decide +kernel
theorem dX8_anew_14 : decode cX8_anew 14 = .ok (.getfield 335, 3) := by decide +kernel
theorem dX8_anew_17 : decode cX8_anew 17 = .ok (.istore_n 1, 1) := by decide +kernel
theorem dX8_anew_18 : decode cX8_anew 18 = .ok (.aload_n 0, 1) := by decide +kernel
theorem dX8_anew_19 : decode cX8_anew 19 = .ok (.getfield 33, 3) := by decide +kernel
