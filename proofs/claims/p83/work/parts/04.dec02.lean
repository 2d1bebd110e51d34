theorem dX2_take_126 : decode cX2_take 126 = .ok (.aload_n 0, 1) := by decide +kernel
theorem dX2_take_127 : decode cX2_take 127 = .ok (.getfield 52, 3) := by decide +kernel
theorem dX2_take_130 : decode cX2_take 130 = .ok (.iconst 0, 1) := by decide +kernel
theorem dX2_take_131 : decode cX2_take 131 = .ok (.bipush 30, 2) := by decide +kernel
theorem dX2_take_133 : decode cX2_take 133 = .ok (.invokestatic 68, 3) := by decide +kernel
theorem dX2_take_136 : decode cX2_take 136 = .ok (.aload_n 1, 1) := by decide +kernel
theorem dX2_take_137 : decode cX2_take 137 = .ok (.getfield 55, 3) := by decide +kernel
theorem dX2_take_140 : decode cX2_take 140 = .ok (.iconst 0, 1) := by decide +kernel
theorem dX2_take_141 : decode cX2_take 141 = .ok (.aload_n 0, 1) := by decide +kernel
theorem dX2_take_142 : decode cX2_take 142 = .ok (.getfield 55, 3) := by decide +kernel
theorem dX2_take_145 : decode cX2_take 145 = .ok (.iconst 0, 1) := by decide +kernel
theorem dX2_take_146 : decode cX2_take 146 = .ok (.bipush 30, 2) := by decide +kernel
theorem dX2_take_148 : decode cX2_take 148 = .ok (.invokestatic 68, 3) := by decide +kernel
theorem dX2_take_151 : decode cX2_take 151 = .ok (.aload_n 0, 1) := by decide +kernel
theorem dX2_take_152 : decode cX2_take 152 = .ok (.aload_n 1, 1) := by decide +kernel
theorem dX2_take_153 : decode cX2_take 153 = .ok (.getfield 36, 3) := by decide +kernel
theorem dX2_take_156 : decode cX2_take 156 = .ok (.invokevirtual 64, 3) := by decide +kernel
theorem dX2_take_159 : decode cX2_take 159 = .ok (.return_, 1) := by decide +kernel
theorem dX2_wipe_0 : decode cX2_wipe 0 = .ok (.aload_n 0, 1) := by decide +kernel
theorem dX2_wipe_1 : decode cX2_wipe 1 = .ok (.iconst 0, 1) := by decide +kernel
theorem dX2_wipe_2 : decode cX2_wipe 2 = .ok (.putfield 9, 3) := by decide +kernel
theorem dX2_wipe_5 : decode cX2_wipe 5 = .ok (.aload_n 0, 1) := by decide +kernel
theorem dX2_wipe_6 : decode cX2_wipe 6 = .ok (.iconst 0, 1) := by decide +kernel
theorem dX2_wipe_7 : decode cX2_wipe 7 = .ok (.putfield 15, 3) := by decide +kernel
theorem dX2_wipe_10 : decode cX2_wipe 10 = .ok (.aload_n 0, 1) := by decide +kernel
theorem dX2_wipe_11 : decode cX2_wipe 11 = .ok (.iconst 0, 1) := by decide +kernel
theorem dX2_wipe_12 : decode cX2_wipe 12 = .ok (.putfield 18, 3) := by decide +kernel
theorem dX2_wipe_15 : decode cX2_wipe 15 = .ok (.aload_n 0, 1) := by decide +kernel
theorem dX2_wipe_16 : decode cX2_wipe 16 = .ok (.iconst 0, 1) := by decide +kernel
theorem dX2_wipe_17 : decode cX2_wipe 17 = .ok (.putfield 21, 3) := by decide +kernel
theorem dX2_wipe_20 : decode cX2_wipe 20 = .ok (.aload_n 0, 1) := by decide +kernel
theorem dX2_wipe_21 : decode cX2_wipe 21 = .ok (.iconst 0, 1) := by decide +kernel
theorem dX2_wipe_22 : decode cX2_wipe 22 = .ok (.putfield 24, 3) := by decide +kernel
theorem dX2_wipe_25 : decode cX2_wipe 25 = .ok (.aload_n 0, 1) := by decide +kernel
theorem dX2_wipe_26 : decode cX2_wipe 26 = .ok (.iconst 0, 1) := by decide +kernel
theorem dX2_wipe_27 : decode cX2_wipe 27 = .ok (.putfield 27, 3) := by decide +kernel
theorem dX2_wipe_30 : decode cX2_wipe 30 = .ok (.aload_n 0, 1) := by decide +kernel
theorem dX2_wipe_31 : decode cX2_wipe 31 = .ok (.iconst 0, 1) := by decide +kernel
theorem dX2_wipe_32 : decode cX2_wipe 32 = .ok (.putfield 30, 3) := by decide +kernel
theorem dX2_wipe_35 : decode cX2_wipe 35 = .ok (.aload_n 0, 1) := by decide +kernel
theorem dX2_wipe_36 : decode cX2_wipe 36 = .ok (.iconst 0, 1) := by decide +kernel
theorem dX2_wipe_37 : decode cX2_wipe 37 = .ok (.putfield 33, 3) := by decide +kernel
theorem dX2_wipe_40 : decode cX2_wipe 40 = .ok (.aload_n 0, 1) := by decide +kernel
theorem dX2_wipe_41 : decode cX2_wipe 41 = .ok (.iconst 0, 1) := by decide +kernel
theorem dX2_wipe_42 : decode cX2_wipe 42 = .ok (.invokevirtual 64, 3) := by decide +kernel
theorem dX2_wipe_45 : decode cX2_wipe 45 = .ok (.return_, 1) := by decide +kernel
theorem dX3_at_0 : decode cX3_at 0 = .ok (.aload_n 0, 1) := by decide +kernel
theorem dX3_at_1 : decode cX3_at 1 = .ok (.getfield 9, 3) := by decide +kernel
theorem dX3_at_4 : decode cX3_at 4 = .ok (.iload_n 1, 1) := by decide +kernel
theorem dX3_at_5 : decode cX3_at 5 = .ok (.bipush 60, 2) := by decide +kernel
theorem dX3_at_7 : decode cX3_at 7 = .ok (.imul, 1) := by decide +kernel
theorem dX3_at_8 : decode cX3_at 8 = .ok (.iload_n 2, 1) := by decide +kernel
theorem dX3_at_9 : decode cX3_at 9 = .ok (.iadd, 1) := by decide +kernel
theorem dX3_at_10 : decode cX3_at 10 = .ok (.laload, 1) := by decide +kernel
theorem dX3_at_11 : decode cX3_at 11 = .ok (.lreturn, 1) := by decide +kernel
theorem dX3_copy_0 : decode cX3_copy 0 = .ok (.aload_n 0, 1) := by decide +kernel
theorem dX3_copy_1 : decode cX3_copy 1 = .ok (.getfield 9, 3) := by decide +kernel
theorem dX3_copy_4 : decode cX3_copy 4 = .ok (.iload_n 1, 1) := by decide +kernel
theorem dX3_copy_5 : decode cX3_copy 5 = .ok (.bipush 60, 2) := by decide +kernel
theorem dX3_copy_7 : decode cX3_copy 7 = .ok (.imul, 1) := by decide +kernel
theorem dX3_copy_8 : decode cX3_copy 8 = .ok (.iload_n 2, 1) := by decide +kernel
theorem dX3_copy_9 : decode cX3_copy 9 = .ok (.iadd, 1) := by decide +kernel
theorem dX3_copy_10 : decode cX3_copy 10 = .ok (.aload_n 0, 1) := by decide +kernel
theorem dX3_copy_11 : decode cX3_copy 11 = .ok (.getfield 9, 3) := by decide +kernel
theorem dX3_copy_14 : decode cX3_copy 14 = .ok (.iload_n 3, 1) := by decide +kernel
theorem dX3_copy_15 : decode cX3_copy 15 = .ok (.bipush 60, 2) := by decide +kernel
theorem dX3_copy_17 : decode cX3_copy 17 = .ok (.imul, 1) := by decide +kernel
theorem dX3_copy_18 : decode cX3_copy 18 = .ok (.iload 4, 2) := by decide +kernel
theorem dX3_copy_20 : decode cX3_copy 20 = .ok (.iadd, 1) := by decide +kernel
theorem dX3_copy_21 : decode cX3_copy 21 = .ok (.iload 5, 2) := by decide +kernel
theorem dX3_copy_23 : decode cX3_copy 23 = .ok (.invokestatic 36, 3) := by decide +kernel
theorem dX3_copy_26 : decode cX3_copy 26 = .ok (.return_, 1) := by decide +kernel
theorem dX3_cut_0 : decode cX3_cut 0 = .ok (.iload_n 0, 1) := by decide +kernel
theorem dX3_cut_1 : decode cX3_cut 1 = .ok (.tableswitch 41 0 2 #[27, 32, 37], 27) := by decide +kernel
theorem dX3_cut_28 : decode cX3_cut 28 = .ok (.lload_n 1, 1) := by decide +kernel
theorem dX3_cut_29 : decode cX3_cut 29 = .ok (.l2i, 1) := by decide +kernel
theorem dX3_cut_30 : decode cX3_cut 30 = .ok (.i2b, 1) := by decide +kernel
theorem dX3_cut_31 : decode cX3_cut 31 = .ok (.i2l, 1) := by decide +kernel
theorem dX3_cut_32 : decode cX3_cut 32 = .ok (.lreturn, 1) := by decide +kernel
theorem dX3_cut_33 : decode cX3_cut 33 = .ok (.lload_n 1, 1) := by decide +kernel
theorem dX3_cut_34 : decode cX3_cut 34 = .ok (.l2i, 1) := by decide +kernel
theorem dX3_cut_35 : decode cX3_cut 35 = .ok (.i2s, 1) := by decide +kernel
theorem dX3_cut_36 : decode cX3_cut 36 = .ok (.i2l, 1) := by decide +kernel
theorem dX3_cut_37 : decode cX3_cut 37 = .ok (.lreturn, 1) := by decide +kernel
theorem dX3_cut_38 : decode cX3_cut 38 = .ok (.lload_n 1, 1) := by decide +kernel
theorem dX3_cut_39 : decode cX3_cut 39 = .ok (.l2i, 1) := by decide +kernel
theorem dX3_cut_40 : decode cX3_cut 40 = .ok (.i2l, 1) := by decide +kernel
theorem dX3_cut_41 : decode cX3_cut 41 = .ok (.lreturn, 1) := by decide +kernel
theorem dX3_cut_42 : decode cX3_cut 42 = .ok (.lload_n 1, 1) := by decide +kernel
theorem dX3_cut_43 : decode cX3_cut 43 = .ok (.lreturn, 1) := by decide +kernel
theorem dX3_has_0 : decode cX3_has 0 = .ok (.aload_n 0, 1) := by decide +kernel
theorem dX3_has_1 : decode cX3_has 1 = .ok (.getfield 19, 3) := by decide +kernel
theorem dX3_has_4 : decode cX3_has 4 = .ok (.iload_n 1, 1) := by decide +kernel
theorem dX3_has_5 : decode cX3_has 5 = .ok (.iaload, 1) := by decide +kernel
theorem dX3_has_6 : decode cX3_has 6 = .ok (.iconst (-1), 1) := by decide +kernel
theorem dX3_has_7 : decode cX3_has 7 = .ok (.if_icmp .eq 7, 3) := by decide +kernel
theorem dX3_has_10 : decode cX3_has 10 = .ok (.iconst 1, 1) := by decide +kernel
theorem dX3_has_11 : decode cX3_has 11 = .ok (.goto 4, 3) := by decide +kernel
theorem dX3_has_14 : decode cX3_has 14 = .ok (.iconst 0, 1) := by decide +kernel
theorem dX3_has_15 : decode cX3_has 15 = .ok (.ireturn, 1) := by decide +kernel
theorem dX3_holds_0 : decode cX3_holds 0 = .ok (.iload_n 2, 1) := by decide +kernel
theorem dX3_holds_1 : decode cX3_holds 1 = .ok (.ifCond .lt 27, 3) := by decide +kernel
theorem dX3_holds_4 : decode cX3_holds 4 = .ok (.iload_n 3, 1) := by decide +kernel
theorem dX3_holds_5 : decode cX3_holds 5 = .ok (.ifCond .lt 23, 3) := by decide +kernel
theorem dX3_holds_8 : decode cX3_holds 8 = .ok (.iload_n 2, 1) := by decide +kernel
theorem dX3_holds_9 : decode cX3_holds 9 = .ok (.i2l, 1) := by decide +kernel
theorem dX3_holds_10 : decode cX3_holds 10 = .ok (.iload_n 3, 1) := by decide +kernel
theorem dX3_holds_11 : decode cX3_holds 11 = .ok (.i2l, 1) := by decide +kernel
theorem dX3_holds_12 : decode cX3_holds 12 = .ok (.ladd, 1) := by decide +kernel
theorem dX3_holds_13 : decode cX3_holds 13 = .ok (.aload_n 0, 1) := by decide +kernel
theorem dX3_holds_14 : decode cX3_holds 14 = .ok (.getfield 19, 3) := by decide +kernel
theorem dX3_holds_17 : decode cX3_holds 17 = .ok (.iload_n 1, 1) := by decide +kernel
theorem dX3_holds_18 : decode cX3_holds 18 = .ok (.iaload, 1) := by decide +kernel
theorem dX3_holds_19 : decode cX3_holds 19 = .ok (.i2l, 1) := by decide +kernel
theorem dX3_holds_20 : decode cX3_holds 20 = .ok (.lcmp, 1) := by decide +kernel
theorem dX3_holds_21 : decode cX3_holds 21 = .ok (.ifCond .gt 7, 3) := by decide +kernel
theorem dX3_holds_24 : decode cX3_holds 24 = .ok (.iconst 1, 1) := by decide +kernel
theorem dX3_holds_25 : decode cX3_holds 25 = .ok (.goto 4, 3) := by decide +kernel
theorem dX3_holds_28 : decode cX3_holds 28 = .ok (.iconst 0, 1) := by decide +kernel
theorem dX3_holds_29 : decode cX3_holds 29 = .ok (.ireturn, 1) := by decide +kernel
theorem dX3_init_0 : decode cX3_init 0 = .ok (.aload_n 0, 1) := by decide +kernel
theorem dX3_init_1 : decode cX3_init 1 = .ok (.invokespecial 3, 3) := by decide +kernel
theorem dX3_init_4 : decode cX3_init 4 = .ok (.aload_n 0, 1) := by decide +kernel
theorem dX3_init_5 : decode cX3_init 5 = .ok (.sipush 240, 3) := by decide +kernel
theorem dX3_init_8 : decode cX3_init 8 = .ok (.newarray .long, 2) := by decide +kernel
theorem dX3_init_10 : decode cX3_init 10 = .ok (.putfield 9, 3) := by decide +kernel
theorem dX3_init_13 : decode cX3_init 13 = .ok (.aload_n 0, 1) := by decide +kernel
theorem dX3_init_14 : decode cX3_init 14 = .ok (.iconst 4, 1) := by decide +kernel
theorem dX3_init_15 : decode cX3_init 15 = .ok (.newarray .int, 2) := by decide +kernel
theorem dX3_init_17 : decode cX3_init 17 = .ok (.putfield 15, 3) := by decide +kernel
theorem dX3_init_20 : decode cX3_init 20 = .ok (.aload_n 0, 1) := by decide +kernel
theorem dX3_init_21 : decode cX3_init 21 = .ok (.iconst 4, 1) := by decide +kernel
theorem dX3_init_22 : decode cX3_init 22 = .ok (.newarray .int, 2) := by decide +kernel
theorem dX3_init_24 : decode cX3_init 24 = .ok (.dup, 1) := by decide +kernel
theorem dX3_init_25 : decode cX3_init 25 = .ok (.iconst 0, 1) := by decide +kernel
theorem dX3_init_26 : decode cX3_init 26 = .ok (.iconst (-1), 1) := by decide +kernel
theorem dX3_init_27 : decode cX3_init 27 = .ok (.iastore, 1) := by decide +kernel
theorem dX3_init_28 : decode cX3_init 28 = .ok (.dup, 1) := by decide +kernel
theorem dX3_init_29 : decode cX3_init 29 = .ok (.iconst 1, 1) := by decide +kernel
theorem dX3_init_30 : decode cX3_init 30 = .ok (.iconst (-1), 1) := by decide +kernel
theorem dX3_init_31 : decode cX3_init 31 = .ok (.iastore, 1) := by decide +kernel
theorem dX3_init_32 : decode cX3_init 32 = .ok (.dup, 1) := by decide +kernel
theorem dX3_init_33 : decode cX3_init 33 = .ok (.iconst 2, 1) := by decide +kernel
theorem dX3_init_34 : decode cX3_init 34 = .ok (.iconst (-1), 1) := by decide +kernel
theorem dX3_init_35 : decode cX3_init 35 = .ok (.iastore, 1) := by decide +kernel
theorem dX3_init_36 : decode cX3_init 36 = .ok (.dup, 1) := by decide +kernel
theorem dX3_init_37 : decode cX3_init 37 = .ok (.iconst 3, 1) := by decide +kernel
theorem dX3_init_38 : decode cX3_init 38 = .ok (.iconst (-1), 1) := by decide +kernel
theorem dX3_init_39 : decode cX3_init 39 = .ok (.iastore, 1) := by decide +kernel
theorem dX3_init_40 : decode cX3_init 40 = .ok (.putfield 19, 3) := by decide +kernel
theorem dX3_init_43 : decode cX3_init 43 = .ok (.return_, 1) := by decide +kernel
theorem dX3_lay_0 : decode cX3_lay 0 = .ok (.aload_n 0, 1) := by decide +kernel
theorem dX3_lay_1 : decode cX3_lay 1 = .ok (.getfield 15, 3) := by decide +kernel
theorem dX3_lay_4 : decode cX3_lay 4 = .ok (.iload_n 1, 1) := by decide +kernel
theorem dX3_lay_5 : decode cX3_lay 5 = .ok (.iload_n 2, 1) := by decide +kernel
theorem dX3_lay_6 : decode cX3_lay 6 = .ok (.iastore, 1) := by decide +kernel
theorem dX3_lay_7 : decode cX3_lay 7 = .ok (.aload_n 0, 1) := by decide +kernel
theorem dX3_lay_8 : decode cX3_lay 8 = .ok (.getfield 19, 3) := by decide +kernel
theorem dX3_lay_11 : decode cX3_lay 11 = .ok (.iload_n 1, 1) := by decide +kernel
theorem dX3_lay_12 : decode cX3_lay 12 = .ok (.iload_n 3, 1) := by decide +kernel
theorem dX3_lay_13 : decode cX3_lay 13 = .ok (.iastore, 1) := by decide +kernel
theorem dX3_lay_14 : decode cX3_lay 14 = .ok (.aload_n 0, 1) := by decide +kernel
theorem dX3_lay_15 : decode cX3_lay 15 = .ok (.getfield 9, 3) := by decide +kernel
theorem dX3_lay_18 : decode cX3_lay 18 = .ok (.iload_n 1, 1) := by decide +kernel
theorem dX3_lay_19 : decode cX3_lay 19 = .ok (.bipush 60, 2) := by decide +kernel
theorem dX3_lay_21 : decode cX3_lay 21 = .ok (.imul, 1) := by decide +kernel
theorem dX3_lay_22 : decode cX3_lay 22 = .ok (.iload_n 1, 1) := by decide +kernel
theorem dX3_lay_23 : decode cX3_lay 23 = .ok (.iconst 1, 1) := by decide +kernel
theorem dX3_lay_24 : decode cX3_lay 24 = .ok (.iadd, 1) := by decide +kernel
theorem dX3_lay_25 : decode cX3_lay 25 = .ok (.bipush 60, 2) := by decide +kernel
theorem dX3_lay_27 : decode cX3_lay 27 = .ok (.imul, 1) := by decide +kernel
theorem dX3_lay_28 : decode cX3_lay 28 = .ok (.lconst 0, 1) := by decide +kernel
theorem dX3_lay_29 : decode cX3_lay 29 = .ok (.invokestatic 26, 3) := by decide +kernel
theorem dX3_lay_32 : decode cX3_lay 32 = .ok (.return_, 1) := by decide +kernel
theorem dX3_put_0 : decode cX3_put 0 = .ok (.aload_n 0, 1) := by decide +kernel
theorem dX3_put_1 : decode cX3_put 1 = .ok (.getfield 9, 3) := by decide +kernel
theorem dX3_put_4 : decode cX3_put 4 = .ok (.iload_n 1, 1) := by decide +kernel
theorem dX3_put_5 : decode cX3_put 5 = .ok (.bipush 60, 2) := by decide +kernel
theorem dX3_put_7 : decode cX3_put 7 = .ok (.imul, 1) := by decide +kernel
theorem dX3_put_8 : decode cX3_put 8 = .ok (.iload_n 2, 1) := by decide +kernel
theorem dX3_put_9 : decode cX3_put 9 = .ok (.iadd, 1) := by decide +kernel
theorem dX3_put_10 : decode cX3_put 10 = .ok (.aload_n 0, 1) := by decide +kernel
theorem dX3_put_11 : decode cX3_put 11 = .ok (.getfield 15, 3) := by decide +kernel
theorem dX3_put_14 : decode cX3_put 14 = .ok (.iload_n 1, 1) := by decide +kernel
theorem dX3_put_15 : decode cX3_put 15 = .ok (.iaload, 1) := by decide +kernel
theorem dX3_put_16 : decode cX3_put 16 = .ok (.lload_n 3, 1) := by decide +kernel
theorem dX3_put_17 : decode cX3_put 17 = .ok (.invokestatic 32, 3) := by decide +kernel
theorem dX3_put_20 : decode cX3_put 20 = .ok (.lastore, 1) := by decide +kernel
theorem dX3_put_21 : decode cX3_put 21 = .ok (.return_, 1) := by decide +kernel
theorem dX3_used_0 : decode cX3_used 0 = .ok (.iconst 0, 1) := by decide +kernel
theorem dX3_used_1 : decode cX3_used 1 = .ok (.istore_n 1, 1) := by decide +kernel
theorem dX3_used_2 : decode cX3_used 2 = .ok (.iconst 0, 1) := by decide +kernel
theorem dX3_used_3 : decode cX3_used 3 = .ok (.istore_n 2, 1) := by decide +kernel
theorem dX3_used_4 : decode cX3_used 4 = .ok (.iload_n 2, 1) := by decide +kernel
theorem dX3_used_5 : decode cX3_used 5 = .ok (.iconst 4, 1) := by decide +kernel
theorem dX3_used_6 : decode cX3_used 6 = .ok (.if_icmp .ge 20, 3) := by decide +kernel
theorem dX3_used_9 : decode cX3_used 9 = .ok (.aload_n 0, 1) := by decide +kernel
theorem dX3_used_10 : decode cX3_used 10 = .ok (.iload_n 2, 1) := by decide +kernel
theorem dX3_used_11 : decode cX3_used 11 = .ok (.invokevirtual 22, 3) := by decide +kernel
theorem dX3_used_14 : decode cX3_used 14 = .ok (.ifCond .eq 6, 3) := by decide +kernel
theorem dX3_used_17 : decode cX3_used 17 = .ok (.iinc 1 1, 3) := by decide +kernel
theorem dX3_used_20 : decode cX3_used 20 = .ok (.iinc 2 1, 3) := by decide +kernel
theorem dX3_used_23 : decode cX3_used 23 = .ok (.goto (-19), 3) := by decide +kernel
theorem dX3_used_26 : decode cX3_used 26 = .ok (.iload_n 1, 1) := by decide +kernel
theorem dX3_used_27 : decode cX3_used 27 = .ok (.ireturn, 1) := by decide +kernel
theorem dX4_asTold_0 : decode cX4_asTold 0 = .ok (.aload_n 0, 1) := by decide +kernel
theorem dX4_asTold_1 : decode cX4_asTold 1 = .ok (.aload_n 1, 1) := by decide +kernel
theorem dX4_asTold_2 : decode cX4_asTold 2 = .ok (.getfield 31, 3) := by decide +kernel
theorem dX4_asTold_5 : decode cX4_asTold 5 = .ok (.putfield 9, 3) := by decide +kernel
theorem dX4_asTold_8 : decode cX4_asTold 8 = .ok (.aload_n 0, 1) := by decide +kernel
theorem dX4_asTold_9 : decode cX4_asTold 9 = .ok (.aload_n 1, 1) := by decide +kernel
theorem dX4_asTold_10 : decode cX4_asTold 10 = .ok (.getfield 34, 3) := by decide +kernel
theorem dX4_asTold_13 : decode cX4_asTold 13 = .ok (.putfield 15, 3) := by decide +kernel
theorem dX4_asTold_16 : decode cX4_asTold 16 = .ok (.aload_n 0, 1) := by decide +kernel
theorem dX4_asTold_17 : decode cX4_asTold 17 = .ok (.iconst 0, 1) := by decide +kernel
theorem dX4_asTold_18 : decode cX4_asTold 18 = .ok (.putfield 18, 3) := by decide +kernel
theorem dX4_asTold_21 : decode cX4_asTold 21 = .ok (.aload_n 0, 1) := by decide +kernel
theorem dX4_asTold_22 : decode cX4_asTold 22 = .ok (.iconst (-1), 1) := by decide +kernel
theorem dX4_asTold_23 : decode cX4_asTold 23 = .ok (.putfield 21, 3) := by decide +kernel
theorem dX4_asTold_26 : decode cX4_asTold 26 = .ok (.aload_n 1, 1) := by decide +kernel
theorem dX4_asTold_27 : decode cX4_asTold 27 = .ok (.getfield 35, 3) := by decide +kernel
theorem dX4_asTold_30 : decode cX4_asTold 30 = .ok (.iconst 0, 1) := by decide +kernel
theorem dX4_asTold_31 : decode cX4_asTold 31 = .ok (.aload_n 0, 1) := by decide +kernel
theorem dX4_asTold_32 : decode cX4_asTold 32 = .ok (.getfield 24, 3) := by decide +kernel
theorem dX4_asTold_35 : decode cX4_asTold 35 = .ok (.iconst 0, 1) := by decide +kernel
theorem dX4_asTold_36 : decode cX4_asTold 36 = .ok (.iconst 5, 1) := by decide +kernel
theorem dX4_asTold_37 : decode cX4_asTold 37 = .ok (.invokestatic 36, 3) := by decide +kernel
theorem dX4_asTold_40 : decode cX4_asTold 40 = .ok (.aload_n 1, 1) := by decide +kernel
theorem dX4_asTold_41 : decode cX4_asTold 41 = .ok (.getfield 42, 3) := by decide +kernel
theorem dX4_asTold_44 : decode cX4_asTold 44 = .ok (.iconst 0, 1) := by decide +kernel
theorem dX4_asTold_45 : decode cX4_asTold 45 = .ok (.aload_n 0, 1) := by decide +kernel
theorem dX4_asTold_46 : decode cX4_asTold 46 = .ok (.getfield 28, 3) := by decide +kernel
theorem dX4_asTold_49 : decode cX4_asTold 49 = .ok (.iconst 0, 1) := by decide +kernel
theorem dX4_asTold_50 : decode cX4_asTold 50 = .ok (.iconst 5, 1) := by decide +kernel
theorem dX4_asTold_51 : decode cX4_asTold 51 = .ok (.invokestatic 36, 3) := by decide +kernel
theorem dX4_asTold_54 : decode cX4_asTold 54 = .ok (.return_, 1) := by decide +kernel
theorem dX4_halved_0 : decode cX4_halved 0 = .ok (.iconst 1, 1) := by decide +kernel
theorem dX4_halved_1 : decode cX4_halved 1 = .ok (.iload_n 0, 1) := by decide +kernel
theorem dX4_halved_2 : decode cX4_halved 2 = .ok (.iconst 2, 1) := by decide +kernel
theorem dX4_halved_3 : decode cX4_halved 3 = .ok (.idiv, 1) := by decide +kernel
theorem dX4_halved_4 : decode cX4_halved 4 = .ok (.invokestatic 59, 3) := by decide +kernel
theorem dX4_halved_7 : decode cX4_halved 7 = .ok (.ireturn, 1) := by decide +kernel
theorem dX4_init_0 : decode cX4_init 0 = .ok (.aload_n 0, 1) := by decide +kernel
theorem dX4_init_1 : decode cX4_init 1 = .ok (.invokespecial 3, 3) := by decide +kernel
theorem dX4_init_4 : decode cX4_init 4 = .ok (.aload_n 0, 1) := by decide +kernel
theorem dX4_init_5 : decode cX4_init 5 = .ok (.iconst 0, 1) := by decide +kernel
theorem dX4_init_6 : decode cX4_init 6 = .ok (.putfield 9, 3) := by decide +kernel
theorem dX4_init_9 : decode cX4_init 9 = .ok (.aload_n 0, 1) := by decide +kernel
theorem dX4_init_10 : decode cX4_init 10 = .ok (.iconst 0, 1) := by decide +kernel
theorem dX4_init_11 : decode cX4_init 11 = .ok (.putfield 15, 3) := by decide +kernel
theorem dX4_init_14 : decode cX4_init 14 = .ok (.aload_n 0, 1) := by decide +kernel
theorem dX4_init_15 : decode cX4_init 15 = .ok (.iconst 0, 1) := by decide +kernel
theorem dX4_init_16 : decode cX4_init 16 = .ok (.putfield 18, 3) := by decide +kernel
theorem dX4_init_19 : decode cX4_init 19 = .ok (.aload_n 0, 1) := by decide +kernel
theorem dX4_init_20 : decode cX4_init 20 = .ok (.iconst (-1), 1) := by decide +kernel
theorem dX4_init_21 : decode cX4_init 21 = .ok (.putfield 21, 3) := by decide +kernel
theorem dX4_init_24 : decode cX4_init 24 = .ok (.aload_n 0, 1) := by decide +kernel
theorem dX4_init_25 : decode cX4_init 25 = .ok (.iconst 5, 1) := by decide +kernel
theorem dX4_init_26 : decode cX4_init 26 = .ok (.newarray .int, 2) := by decide +kernel
theorem dX4_init_28 : decode cX4_init 28 = .ok (.putfield 24, 3) := by decide +kernel
theorem dX4_init_31 : decode cX4_init 31 = .ok (.aload_n 0, 1) := by decide +kernel
theorem dX4_init_32 : decode cX4_init 32 = .ok (.iconst 5, 1) := by decide +kernel
theorem dX4_init_33 : decode cX4_init 33 = .ok (.newarray .int, 2) := by decide +kernel
theorem dX4_init_35 : decode cX4_init 35 = .ok (.putfield 28, 3) := by decide +kernel
theorem dX4_init_38 : decode cX4_init 38 = .ok (.return_, 1) := by decide +kernel
theorem dX4_isWet_0 : decode cX4_isWet 0 = .ok (.iload_n 1, 1) := by decide +kernel
theorem dX4_isWet_1 : decode cX4_isWet 1 = .ok (.ifCond .lt 18, 3) := by decide +kernel
theorem dX4_isWet_4 : decode cX4_isWet 4 = .ok (.aload_n 0, 1) := by decide +kernel
theorem dX4_isWet_5 : decode cX4_isWet 5 = .ok (.getfield 15, 3) := by decide +kernel
theorem dX4_isWet_8 : decode cX4_isWet 8 = .ok (.iload_n 1, 1) := by decide +kernel
theorem dX4_isWet_9 : decode cX4_isWet 9 = .ok (.invokestatic 47, 3) := by decide +kernel
theorem dX4_isWet_12 : decode cX4_isWet 12 = .ok (.ifCond .eq 7, 3) := by decide +kernel
theorem dX4_isWet_15 : decode cX4_isWet 15 = .ok (.iconst 1, 1) := by decide +kernel
theorem dX4_isWet_16 : decode cX4_isWet 16 = .ok (.goto 4, 3) := by decide +kernel
theorem dX4_isWet_19 : decode cX4_isWet 19 = .ok (.iconst 0, 1) := by decide +kernel
theorem dX4_isWet_20 : decode cX4_isWet 20 = .ok (.ireturn, 1) := by decide +kernel
theorem dX4_leadingOn_0 : decode cX4_leadingOn 0 = .ok (.iconst 0, 1) := by decide +kernel
theorem dX4_leadingOn_1 : decode cX4_leadingOn 1 = .ok (.istore_n 3, 1) := by decide +kernel
theorem dX4_leadingOn_2 : decode cX4_leadingOn 2 = .ok (.iload_n 3, 1) := by decide +kernel
theorem dX4_leadingOn_3 : decode cX4_leadingOn 3 = .ok (.aload_n 1, 1) := by decide +kernel
theorem dX4_leadingOn_4 : decode cX4_leadingOn 4 = .ok (.getfield 67, 3) := by decide +kernel
theorem dX4_leadingOn_7 : decode cX4_leadingOn 7 = .ok (.if_icmp .ge 28, 3) := by decide +kernel
theorem dX4_leadingOn_10 : decode cX4_leadingOn 10 = .ok (.iload_n 3, 1) := by decide +kernel
theorem dX4_leadingOn_11 : decode cX4_leadingOn 11 = .ok (.aload_n 0, 1) := by decide +kernel
theorem dX4_leadingOn_12 : decode cX4_leadingOn 12 = .ok (.getfield 21, 3) := by decide +kernel
theorem dX4_leadingOn_15 : decode cX4_leadingOn 15 = .ok (.if_icmp .eq 12, 3) := by decide +kernel
theorem dX4_leadingOn_18 : decode cX4_leadingOn 18 = .ok (.aload_n 1, 1) := by decide +kernel
theorem dX4_leadingOn_19 : decode cX4_leadingOn 19 = .ok (.iload_n 3, 1) := by decide +kernel
theorem dX4_leadingOn_20 : decode cX4_leadingOn 20 = .ok (.iload_n 2, 1) := by decide +kernel
theorem dX4_leadingOn_21 : decode cX4_leadingOn 21 = .ok (.invokevirtual 70, 3) := by decide +kernel
theorem dX4_leadingOn_24 : decode cX4_leadingOn 24 = .ok (.ifCond .eq 5, 3) := by decide +kernel
theorem dX4_leadingOn_27 : decode cX4_leadingOn 27 = .ok (.iload_n 3, 1) := by decide +kernel
theorem dX4_leadingOn_28 : decode cX4_leadingOn 28 = .ok (.ireturn, 1) := by decide +kernel
theorem dX4_leadingOn_29 : decode cX4_leadingOn 29 = .ok (.iinc 3 1, 3) := by decide +kernel
theorem dX4_leadingOn_32 : decode cX4_leadingOn 32 = .ok (.goto (-30), 3) := by decide +kernel
theorem dX4_leadingOn_35 : decode cX4_leadingOn 35 = .ok (.aload_n 1, 1) := by decide +kernel
theorem dX4_leadingOn_36 : decode cX4_leadingOn 36 = .ok (.getfield 67, 3) := by decide +kernel
theorem dX4_leadingOn_39 : decode cX4_leadingOn 39 = .ok (.ireturn, 1) := by decide +kernel
theorem dX4_leakOn_0 : decode cX4_leakOn 0 = .ok (.aload_n 1, 1) := by decide +kernel
theorem dX4_leakOn_1 : decode cX4_leakOn 1 = .ok (.iload_n 2, 1) := by decide +kernel
theorem dX4_leakOn_2 : decode cX4_leakOn 2 = .ok (.iload_n 3, 1) := by decide +kernel
theorem dX4_leakOn_3 : decode cX4_leakOn 3 = .ok (.invokevirtual 43, 3) := by decide +kernel
theorem dX4_leakOn_6 : decode cX4_leakOn 6 = .ok (.istore 4, 2) := by decide +kernel
theorem dX4_leakOn_8 : decode cX4_leakOn 8 = .ok (.iload 4, 2) := by decide +kernel
theorem dX4_leakOn_10 : decode cX4_leakOn 10 = .ok (.iconst (-1), 1) := by decide +kernel
theorem dX4_leakOn_11 : decode cX4_leakOn 11 = .ok (.if_icmp .ne 14, 3) := by decide +kernel
theorem dX4_leakOn_14 : decode cX4_leakOn 14 = .ok (.aload_n 0, 1) := by decide +kernel
theorem dX4_leakOn_15 : decode cX4_leakOn 15 = .ok (.getfield 18, 3) := by decide +kernel
theorem dX4_leakOn_18 : decode cX4_leakOn 18 = .ok (.iload_n 2, 1) := by decide +kernel
theorem dX4_leakOn_19 : decode cX4_leakOn 19 = .ok (.invokestatic 47, 3) := by decide +kernel
theorem dX4_leakOn_22 : decode cX4_leakOn 22 = .ok (.ifCond .eq 8, 3) := by decide +kernel
theorem dX4_leakOn_25 : decode cX4_leakOn 25 = .ok (.bipush 30, 2) := by decide +kernel
theorem dX4_leakOn_27 : decode cX4_leakOn 27 = .ok (.goto 9, 3) := by decide +kernel
theorem dX4_leakOn_30 : decode cX4_leakOn 30 = .ok (.aload_n 0, 1) := by decide +kernel
theorem dX4_leakOn_31 : decode cX4_leakOn 31 = .ok (.getfield 28, 3) := by decide +kernel
theorem dX4_leakOn_34 : decode cX4_leakOn 34 = .ok (.iload_n 2, 1) := by decide +kernel
theorem dX4_leakOn_35 : decode cX4_leakOn 35 = .ok (.iaload, 1) := by decide +kernel
theorem dX4_leakOn_36 : decode cX4_leakOn 36 = .ok (.istore 5, 2) := by decide +kernel
theorem dX4_leakOn_38 : decode cX4_leakOn 38 = .ok (.aload_n 0, 1) := by decide +kernel
theorem dX4_leakOn_39 : decode cX4_leakOn 39 = .ok (.getfield 9, 3) := by decide +kernel
theorem dX4_leakOn_42 : decode cX4_leakOn 42 = .ok (.tableswitch 93 1 3 #[26, 45, 74], 26) := by decide +kernel
theorem dX4_leakOn_68 : decode cX4_leakOn 68 = .ok (.aload_n 0, 1) := by decide +kernel
theorem dX4_leakOn_69 : decode cX4_leakOn 69 = .ok (.iload_n 3, 1) := by decide +kernel
theorem dX4_leakOn_70 : decode cX4_leakOn 70 = .ok (.invokevirtual 51, 3) := by decide +kernel
theorem dX4_leakOn_73 : decode cX4_leakOn 73 = .ok (.ifCond .eq 11, 3) := by decide +kernel
theorem dX4_leakOn_76 : decode cX4_leakOn 76 = .ok (.iload 5, 2) := by decide +kernel
theorem dX4_leakOn_78 : decode cX4_leakOn 78 = .ok (.invokestatic 55, 3) := by decide +kernel
theorem dX4_leakOn_81 : decode cX4_leakOn 81 = .ok (.goto 5, 3) := by decide +kernel
theorem dX4_leakOn_84 : decode cX4_leakOn 84 = .ok (.iload 5, 2) := by decide +kernel
theorem dX4_leakOn_86 : decode cX4_leakOn 86 = .ok (.ireturn, 1) := by decide +kernel
theorem dX4_leakOn_87 : decode cX4_leakOn 87 = .ok (.aload_n 0, 1) := by decide +kernel
theorem dX4_leakOn_88 : decode cX4_leakOn 88 = .ok (.iload_n 3, 1) := by decide +kernel
theorem dX4_leakOn_89 : decode cX4_leakOn 89 = .ok (.invokevirtual 51, 3) := by decide +kernel
theorem dX4_leakOn_92 : decode cX4_leakOn 92 = .ok (.ifCond .ne 13, 3) := by decide +kernel
theorem dX4_leakOn_95 : decode cX4_leakOn 95 = .ok (.aload_n 0, 1) := by decide +kernel
theorem dX4_leakOn_96 : decode cX4_leakOn 96 = .ok (.iload_n 3, 1) := by decide +kernel
theorem dX4_leakOn_97 : decode cX4_leakOn 97 = .ok (.iconst 1, 1) := by decide +kernel
theorem dX4_leakOn_98 : decode cX4_leakOn 98 = .ok (.isub, 1) := by decide +kernel
theorem dX4_leakOn_99 : decode cX4_leakOn 99 = .ok (.invokevirtual 51, 3) := by decide +kernel
theorem dX4_leakOn_102 : decode cX4_leakOn 102 = .ok (.ifCond .eq 11, 3) := by decide +kernel
theorem dX4_leakOn_105 : decode cX4_leakOn 105 = .ok (.iload 5, 2) := by decide +kernel
theorem dX4_leakOn_107 : decode cX4_leakOn 107 = .ok (.invokestatic 55, 3) := by decide +kernel
theorem dX4_leakOn_110 : decode cX4_leakOn 110 = .ok (.goto 5, 3) := by decide +kernel
theorem dX4_leakOn_113 : decode cX4_leakOn 113 = .ok (.iload 5, 2) := by decide +kernel
theorem dX4_leakOn_115 : decode cX4_leakOn 115 = .ok (.ireturn, 1) := by decide +kernel
theorem dX4_leakOn_116 : decode cX4_leakOn 116 = .ok (.iconst 1, 1) := by decide +kernel
theorem dX4_leakOn_117 : decode cX4_leakOn 117 = .ok (.iload 5, 2) := by decide +kernel
theorem dX4_leakOn_119 : decode cX4_leakOn 119 = .ok (.aload_n 0, 1) := by decide +kernel
theorem dX4_leakOn_120 : decode cX4_leakOn 120 = .ok (.iconst 0, 1) := by decide +kernel
theorem dX4_leakOn_121 : decode cX4_leakOn 121 = .ok (.iload 4, 2) := by decide +kernel
theorem dX4_leakOn_123 : decode cX4_leakOn 123 = .ok (.invokestatic 59, 3) := by decide +kernel
theorem dX4_leakOn_126 : decode cX4_leakOn 126 = .ok (.iload_n 3, 1) := by decide +kernel
theorem dX4_leakOn_127 : decode cX4_leakOn 127 = .ok (.invokevirtual 64, 3) := by decide +kernel
theorem dX4_leakOn_130 : decode cX4_leakOn 130 = .ok (.isub, 1) := by decide +kernel
theorem dX4_leakOn_131 : decode cX4_leakOn 131 = .ok (.invokestatic 59, 3) := by decide +kernel
theorem dX4_leakOn_134 : decode cX4_leakOn 134 = .ok (.ireturn, 1) := by decide +kernel
theorem dX4_leakOn_135 : decode cX4_leakOn 135 = .ok (.iload 5, 2) := by decide +kernel
theorem dX4_leakOn_137 : decode cX4_leakOn 137 = .ok (.ireturn, 1) := by decide +kernel
theorem dX4_wetDays_0 : decode cX4_wetDays 0 = .ok (.aload_n 0, 1) := by decide +kernel
theorem dX4_wetDays_1 : decode cX4_wetDays 1 = .ok (.getfield 15, 3) := by decide +kernel
theorem dX4_wetDays_4 : decode cX4_wetDays 4 = .ok (.iload_n 1, 1) := by decide +kernel
theorem dX4_wetDays_5 : decode cX4_wetDays 5 = .ok (.ishr, 1) := by decide +kernel
theorem dX4_wetDays_6 : decode cX4_wetDays 6 = .ok (.iconst 2, 1) := by decide +kernel
theorem dX4_wetDays_7 : decode cX4_wetDays 7 = .ok (.iload_n 2, 1) := by decide +kernel
theorem dX4_wetDays_8 : decode cX4_wetDays 8 = .ok (.iload_n 1, 1) := by decide +kernel
theorem dX4_wetDays_9 : decode cX4_wetDays 9 = .ok (.isub, 1) := by decide +kernel
theorem dX4_wetDays_10 : decode cX4_wetDays 10 = .ok (.ishl, 1) := by decide +kernel
theorem dX4_wetDays_11 : decode cX4_wetDays 11 = .ok (.iconst 1, 1) := by decide +kernel
theorem dX4_wetDays_12 : decode cX4_wetDays 12 = .ok (.isub, 1) := by decide +kernel
theorem dX4_wetDays_13 : decode cX4_wetDays 13 = .ok (.iand, 1) := by decide +kernel
theorem dX4_wetDays_14 : decode cX4_wetDays 14 = .ok (.invokestatic 73, 3) := by decide +kernel
theorem dX4_wetDays_17 : decode cX4_wetDays 17 = .ok (.ireturn, 1) := by decide +kernel
theorem dX5_append_0 : decode cX5_append 0 = .ok (.bipush 24, 2) := by decide +kernel
theorem dX5_append_2 : decode cX5_append 2 = .ok (.istore_n 2, 1) := by decide +kernel
theorem dX5_append_3 : decode cX5_append 3 = .ok (.iload_n 2, 1) := by decide +kernel
theorem dX5_append_4 : decode cX5_append 4 = .ok (.ifCond .lt 42, 3) := by decide +kernel
theorem dX5_append_7 : decode cX5_append 7 = .ok (.aload_n 0, 1) := by decide +kernel
theorem dX5_append_8 : decode cX5_append 8 = .ok (.getfield 15, 3) := by decide +kernel
theorem dX5_append_11 : decode cX5_append 11 = .ok (.sipush 500, 3) := by decide +kernel
theorem dX5_append_14 : decode cX5_append 14 = .ok (.if_icmp .ge 32, 3) := by decide +kernel
theorem dX5_append_17 : decode cX5_append 17 = .ok (.aload_n 0, 1) := by decide +kernel
theorem dX5_append_18 : decode cX5_append 18 = .ok (.getfield 9, 3) := by decide +kernel
theorem dX5_append_21 : decode cX5_append 21 = .ok (.aload_n 0, 1) := by decide +kernel
theorem dX5_append_22 : decode cX5_append 22 = .ok (.getfield 15, 3) := by decide +kernel
theorem dX5_append_25 : decode cX5_append 25 = .ok (.iload_n 1, 1) := by decide +kernel
theorem dX5_append_26 : decode cX5_append 26 = .ok (.iload_n 2, 1) := by decide +kernel
theorem dX5_append_27 : decode cX5_append 27 = .ok (.ishr, 1) := by decide +kernel
theorem dX5_append_28 : decode cX5_append 28 = .ok (.i2b, 1) := by decide +kernel
theorem dX5_append_29 : decode cX5_append 29 = .ok (.bastore, 1) := by decide +kernel
theorem dX5_append_30 : decode cX5_append 30 = .ok (.aload_n 0, 1) := by decide +kernel
theorem dX5_append_31 : decode cX5_append 31 = .ok (.dup, 1) := by decide +kernel
theorem dX5_append_32 : decode cX5_append 32 = .ok (.getfield 15, 3) := by decide +kernel
theorem dX5_append_35 : decode cX5_append 35 = .ok (.iconst 1, 1) := by decide +kernel
theorem dX5_append_36 : decode cX5_append 36 = .ok (.iadd, 1) := by decide +kernel
theorem dX5_append_37 : decode cX5_append 37 = .ok (.putfield 15, 3) := by decide +kernel
theorem dX5_append_40 : decode cX5_append 40 = .ok (.iinc 2 (-8), 3) := by decide +kernel
theorem dX5_append_43 : decode cX5_append 43 = .ok (.goto (-40), 3) := by decide +kernel
theorem dX5_append_46 : decode cX5_append 46 = .ok (.return_, 1) := by decide +kernel
theorem dX5_at_0 : decode cX5_at 0 = .ok (.iload_n 1, 1) := by decide +kernel
theorem dX5_at_1 : decode cX5_at 1 = .ok (.ifCond .lt 24, 3) := by decide +kernel
