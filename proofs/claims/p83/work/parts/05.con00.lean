set_option maxHeartbeats 8000000 in
set_option maxRecDepth 100000 in
theorem s_J6_bitCount_0f7a4 (l : Launch) (dC : Nat → ClassId) (dI : Nat → Nat → Nat) (cB cI cJ cZ cL : ClassId)   (p0 : Int32)  : Met l yJ6_bitCount_0f7a4 (wy yJ6_bitCount_0f7a4 cJ6_bitCount_0f7a4 1 (some .int)) ({ frames := 0, cells := 0, slots := 0, locals := 0 }) (va_Pc [.int p0] (fun U => va_P (dC, dI) vwCl [] U.heap ∧ va_K (dC, dI) vwCl (tyL cB cI cJ cZ cL) U ∧ NW U)) (vp_Si (fun r => 0 ≤ Int32.toInt r ∧ Int32.toInt r ≤ 63)) 0 0 (fun _ => False) := by
  refine Met.ofW (cc := cJ6_bitCount_0f7a4) (maxL := 1) (ret := (some .int)) (by decide) rfl ?_
  intro p e s m args below meth c s₁ B hml hv
  obtain ⟨rfl, hP, hK, hN⟩ := hv
  have hx := B.exec
  have hb := B.bytes
  have hr := B.returns
  have ht : ∀ w ∈ lw_ok, w.before _ s = true := fun w h => atoms_spec (ws := wy yJ6_bitCount_0f7a4 cJ6_bitCount_0f7a4 1 (some .int)) B.pre w (List.mem_cons_of_mem _ h)
  have hown : s.vm.findClass RJ6 = some m.cls := findClass_of_methodNamed B.named
  have hlocks := B.notSynchronized
  have hl := lv_entry ([.int p0]) (n := 1) (Nat.le_of_ble_eq_true rfl)
  rw [lg_entry_eq]
  generalize (lg_sl ([.int p0]) ++ List.replicate (1 - (lg_sl ([.int p0])).length) Slot.unset).toArray = ls at hl ⊢
  have hl : lv_has ls 1 [(0, .int p0)] := hl
  have hP : va_P (dC, dI) vwCl [] s.heap := hP
  have rg_p0 := rgI p0
  refine lv_iload_n hx hb dJ6_bitCount_0f7a4_0 rfl (lv_at hl 0 rfl) ?_
  refine lv_iload_n hx hb dJ6_bitCount_0f7a4_1 rfl (lv_at hl 0 rfl) ?_
  refine lv_iconst (v := 1) hx hb dJ6_bitCount_0f7a4_2 (by decide) ?_
  refine lv_iushr hx hb dJ6_bitCount_0f7a4_3 rfl ?_
  refine lv_topi (fun y_1 ey_1 => ?_)
  clear ey_1
  refine lv_ldcw hx hb hown (ht _ w_672) dJ6_bitCount_0f7a4_4 ?_
  refine lv_iand hx hb dJ6_bitCount_0f7a4_7 ?_
  refine lv_topi (fun y_2 ey_2 => ?_)
  have ty_2 := iandF (m := 1431655765) ey_2 (by decide)
  simp only [T1431655765] at ty_2
  clear ey_2
  refine lv_isub hx hb dJ6_bitCount_0f7a4_8 ?_
  refine lv_topi (fun y_3 ey_3 => ?_)
  have ty_3 := isubF ey_3
  clear ey_3
  refine lv_istore_n (lv' := [(0, .int y_3)]) hx hb dJ6_bitCount_0f7a4_9 rfl hl (by decide) rfl (fun ls hl => ?_)
  refine lv_iload_n hx hb dJ6_bitCount_0f7a4_10 rfl (lv_at hl 0 rfl) ?_
  refine lv_ldcw hx hb hown (ht _ w_673) dJ6_bitCount_0f7a4_11 ?_
  refine lv_iand hx hb dJ6_bitCount_0f7a4_14 ?_
  refine lv_topi (fun y_4 ey_4 => ?_)
  have ty_4 := iandF (m := 858993459) ey_4 (by decide)
  simp only [T858993459] at ty_4
  clear ey_4
  refine lv_iload_n hx hb dJ6_bitCount_0f7a4_15 rfl (lv_at hl 0 rfl) ?_
  refine lv_iconst (v := 2) hx hb dJ6_bitCount_0f7a4_16 (by decide) ?_
  refine lv_iushr hx hb dJ6_bitCount_0f7a4_17 rfl ?_
  refine lv_topi (fun y_5 ey_5 => ?_)
  clear ey_5
  refine lv_ldcw hx hb hown (ht _ w_673) dJ6_bitCount_0f7a4_18 ?_
  refine lv_iand hx hb dJ6_bitCount_0f7a4_21 ?_
  refine lv_topi (fun y_6 ey_6 => ?_)
  have ty_6 := iandF (m := 858993459) ey_6 (by decide)
  simp only [T858993459] at ty_6
  clear ey_6
  refine lv_iadd hx hb dJ6_bitCount_0f7a4_22 ?_
  refine lv_topi (fun y_7 ey_7 => ?_)
  have ty_7 := iaddF ey_7
  clear ey_7
  refine lv_istore_n (lv' := [(0, .int y_7)]) hx hb dJ6_bitCount_0f7a4_23 rfl hl (by decide) rfl (fun ls hl => ?_)
  refine lv_iload_n hx hb dJ6_bitCount_0f7a4_24 rfl (lv_at hl 0 rfl) ?_
  refine lv_iload_n hx hb dJ6_bitCount_0f7a4_25 rfl (lv_at hl 0 rfl) ?_
  refine lv_iconst (v := 4) hx hb dJ6_bitCount_0f7a4_26 (by decide) ?_
  refine lv_iushr hx hb dJ6_bitCount_0f7a4_27 rfl ?_
  refine lv_topi (fun y_8 ey_8 => ?_)
  clear ey_8
  refine lv_iadd hx hb dJ6_bitCount_0f7a4_28 ?_
  refine lv_topi (fun y_9 ey_9 => ?_)
  have ty_9 := iaddF ey_9
  clear ey_9
  refine lv_ldcw hx hb hown (ht _ w_674) dJ6_bitCount_0f7a4_29 ?_
  refine lv_iand hx hb dJ6_bitCount_0f7a4_32 ?_
  refine lv_topi (fun y_10 ey_10 => ?_)
  have ty_10 := iandF (m := 252645135) ey_10 (by decide)
  simp only [T252645135] at ty_10
  clear ey_10
  refine lv_istore_n (lv' := [(0, .int y_10)]) hx hb dJ6_bitCount_0f7a4_33 rfl hl (by decide) rfl (fun ls hl => ?_)
  refine lv_iload_n hx hb dJ6_bitCount_0f7a4_34 rfl (lv_at hl 0 rfl) ?_
  refine lv_iload_n hx hb dJ6_bitCount_0f7a4_35 rfl (lv_at hl 0 rfl) ?_
  refine lv_bipush (v := 8) hx hb dJ6_bitCount_0f7a4_36 (by decide) ?_
  refine lv_iushr hx hb dJ6_bitCount_0f7a4_38 rfl ?_
  refine lv_topi (fun y_11 ey_11 => ?_)
  clear ey_11
  refine lv_iadd hx hb dJ6_bitCount_0f7a4_39 ?_
  refine lv_topi (fun y_12 ey_12 => ?_)
  have ty_12 := iaddF ey_12
  clear ey_12
  refine lv_istore_n (lv' := [(0, .int y_12)]) hx hb dJ6_bitCount_0f7a4_40 rfl hl (by decide) rfl (fun ls hl => ?_)
  refine lv_iload_n hx hb dJ6_bitCount_0f7a4_41 rfl (lv_at hl 0 rfl) ?_
  refine lv_iload_n hx hb dJ6_bitCount_0f7a4_42 rfl (lv_at hl 0 rfl) ?_
  refine lv_bipush (v := 16) hx hb dJ6_bitCount_0f7a4_43 (by decide) ?_
  refine lv_iushr hx hb dJ6_bitCount_0f7a4_45 rfl ?_
  refine lv_topi (fun y_13 ey_13 => ?_)
  clear ey_13
  refine lv_iadd hx hb dJ6_bitCount_0f7a4_46 ?_
  refine lv_topi (fun y_14 ey_14 => ?_)
  have ty_14 := iaddF ey_14
  clear ey_14
  refine lv_istore_n (lv' := [(0, .int y_14)]) hx hb dJ6_bitCount_0f7a4_47 rfl hl (by decide) rfl (fun ls hl => ?_)
  refine lv_iload_n hx hb dJ6_bitCount_0f7a4_48 rfl (lv_at hl 0 rfl) ?_
  refine lv_bipush (v := 63) hx hb dJ6_bitCount_0f7a4_49 (by decide) ?_
  refine lv_iand hx hb dJ6_bitCount_0f7a4_51 ?_
  refine lv_topi (fun y_15 ey_15 => ?_)
  have ty_15 := iandF (m := 63) ey_15 (by decide)
  simp only [T63] at ty_15
  clear ey_15
  exact W.iret (v := y_15) hx hb hr (fun t ht hW => ⟨y_15, rfl, (by first | omega | assumption | exact ⟨by first | omega | assumption, by first | omega | assumption⟩), ht⟩) (fun q h => absurd h List.not_mem_nil) dJ6_bitCount_0f7a4_52
set_option maxHeartbeats 8000000 in
set_option maxRecDepth 100000 in
theorem s_J6_numberOfTrailingZeros_0f7a4 (l : Launch) (dC : Nat → ClassId) (dI : Nat → Nat → Nat) (cB cI cJ cZ cL : ClassId)   (p0 : Int32)  : Met l yJ6_numberOfTrailingZeros_0f7a4 (wy yJ6_numberOfTrailingZeros_0f7a4 cJ6_numberOfTrailingZeros_0f7a4 2 (some .int)) ({ frames := 0, cells := 0, slots := 0, locals := 0 }) (va_Pc [.int p0] (fun U => va_P (dC, dI) vwCl [] U.heap ∧ va_K (dC, dI) vwCl (tyL cB cI cJ cZ cL) U ∧ NW U)) (vp_Si (fun r => True)) 0 0 (fun _ => False) := by
  refine Met.ofW (cc := cJ6_numberOfTrailingZeros_0f7a4) (maxL := 2) (ret := (some .int)) (by decide) rfl ?_
  intro p e s m args below meth c s₁ B hml hv
  obtain ⟨rfl, hP, hK, hN⟩ := hv
  have hx := B.exec
  have hb := B.bytes
  have hr := B.returns
  have ht : ∀ w ∈ lw_ok, w.before _ s = true := fun w h => atoms_spec (ws := wy yJ6_numberOfTrailingZeros_0f7a4 cJ6_numberOfTrailingZeros_0f7a4 2 (some .int)) B.pre w (List.mem_cons_of_mem _ h)
  have hown : s.vm.findClass RJ6 = some m.cls := findClass_of_methodNamed B.named
  have hlocks := B.notSynchronized
  have hl := lv_entry ([.int p0]) (n := 2) (Nat.le_of_ble_eq_true rfl)
  rw [lg_entry_eq]
  generalize (lg_sl ([.int p0]) ++ List.replicate (2 - (lg_sl ([.int p0])).length) Slot.unset).toArray = ls at hl ⊢
  have hl : lv_has ls 2 [(0, .int p0)] := hl
  have hP : va_P (dC, dI) vwCl [] s.heap := hP
  have rg_p0 := rgI p0
  refine lv_iload_n hx hb dJ6_numberOfTrailingZeros_0f7a4_0 rfl (lv_at hl 0 rfl) ?_
  refine lv_iconst (v := (-1)) hx hb dJ6_numberOfTrailingZeros_0f7a4_1 (by decide) ?_
  refine lv_ixor hx hb dJ6_numberOfTrailingZeros_0f7a4_2 ?_
  refine lv_topi (fun y_1 ey_1 => ?_)
  clear ey_1
  refine lv_iload_n hx hb dJ6_numberOfTrailingZeros_0f7a4_3 rfl (lv_at hl 0 rfl) ?_
  refine lv_iconst (v := 1) hx hb dJ6_numberOfTrailingZeros_0f7a4_4 (by decide) ?_
  refine lv_isub hx hb dJ6_numberOfTrailingZeros_0f7a4_5 ?_
  refine lv_topi (fun y_2 ey_2 => ?_)
  have ty_2 := isubF ey_2
  simp only [T1] at ty_2
  clear ey_2
  refine lv_iand hx hb dJ6_numberOfTrailingZeros_0f7a4_6 ?_
  refine lv_topi (fun y_3 ey_3 => ?_)
  clear ey_3
  refine lv_istore_n (lv' := [(0, .int y_3)]) hx hb dJ6_numberOfTrailingZeros_0f7a4_7 rfl hl (by decide) rfl (fun ls hl => ?_)
  refine lv_iload_n hx hb dJ6_numberOfTrailingZeros_0f7a4_8 rfl (lv_at hl 0 rfl) ?_
  refine lv_if_gt (tgt := 17) hx hb dJ6_numberOfTrailingZeros_0f7a4_9 (by decide) (fun c_4 => ?_) (fun c_4 => ?_)
  · (try simp only [i_lt, i_le, i_eq, T0] at c_4)
    refine lv_iconst (v := 1) hx hb dJ6_numberOfTrailingZeros_0f7a4_17 (by decide) ?_
    refine lv_istore_n (lv' := [(1, .int 1), (0, .int y_3)]) hx hb dJ6_numberOfTrailingZeros_0f7a4_18 rfl hl (by decide) rfl (fun ls hl => ?_)
    refine lv_iload_n hx hb dJ6_numberOfTrailingZeros_0f7a4_19 rfl (lv_at hl 1 rfl) ?_
    refine lv_ldcw hx hb hown (ht _ w_653) dJ6_numberOfTrailingZeros_0f7a4_20 ?_
    refine lv_icmp_le (tgt := 34) hx hb dJ6_numberOfTrailingZeros_0f7a4_23 (by decide) (fun c_5 => ?_) (fun c_5 => ?_)
    · (try simp only [i_lt, i_le, i_eq, T65536] at c_5)
      refine lv_iload_n hx hb dJ6_numberOfTrailingZeros_0f7a4_34 rfl (lv_at hl 1 rfl) ?_
      refine lv_sipush (v := 256) hx hb dJ6_numberOfTrailingZeros_0f7a4_35 (by decide) ?_
      refine lv_icmp_le (tgt := 49) hx hb dJ6_numberOfTrailingZeros_0f7a4_38 (by decide) (fun c_6 => ?_) (fun c_6 => ?_)
      · (try simp only [i_lt, i_le, i_eq, T256] at c_6)
        refine lv_iload_n hx hb dJ6_numberOfTrailingZeros_0f7a4_49 rfl (lv_at hl 1 rfl) ?_
        refine lv_bipush (v := 16) hx hb dJ6_numberOfTrailingZeros_0f7a4_50 (by decide) ?_
        refine lv_icmp_le (tgt := 62) hx hb dJ6_numberOfTrailingZeros_0f7a4_52 (by decide) (fun c_7 => ?_) (fun c_7 => ?_)
        · (try simp only [i_lt, i_le, i_eq, T16] at c_7)
          refine lv_iload_n hx hb dJ6_numberOfTrailingZeros_0f7a4_62 rfl (lv_at hl 1 rfl) ?_
          refine lv_iconst (v := 4) hx hb dJ6_numberOfTrailingZeros_0f7a4_63 (by decide) ?_
          refine lv_icmp_le (tgt := 74) hx hb dJ6_numberOfTrailingZeros_0f7a4_64 (by decide) (fun c_8 => ?_) (fun c_8 => ?_)
          · (try simp only [i_lt, i_le, i_eq, T4] at c_8)
            refine lv_iload_n hx hb dJ6_numberOfTrailingZeros_0f7a4_74 rfl (lv_at hl 0 rfl) ?_
            refine lv_iload_n hx hb dJ6_numberOfTrailingZeros_0f7a4_75 rfl (lv_at hl 1 rfl) ?_
            refine lv_iconst (v := 1) hx hb dJ6_numberOfTrailingZeros_0f7a4_76 (by decide) ?_
            refine lv_iushr hx hb dJ6_numberOfTrailingZeros_0f7a4_77 rfl ?_
            refine lv_topi (fun y_9 ey_9 => ?_)
            clear ey_9
            refine lv_iadd hx hb dJ6_numberOfTrailingZeros_0f7a4_78 ?_
            refine lv_topi (fun y_10 ey_10 => ?_)
            have ty_10 := iaddF ey_10
            simp only [T1] at ty_10
            clear ey_10
            exact W.iret (v := y_10) hx hb hr (fun t ht hW => ⟨y_10, rfl, trivial, ht⟩) (fun q h => absurd h List.not_mem_nil) dJ6_numberOfTrailingZeros_0f7a4_79
          · (try simp only [i_lt, i_le, i_eq, T4] at c_8)
            refine lv_iinc (v := 3) (lv' := [(1, .int 3), (0, .int y_3)]) hx hb dJ6_numberOfTrailingZeros_0f7a4_67 hl (k := 0) rfl (by decide) (by decide) rfl (fun ls hl => ?_)
            refine lv_iload_n hx hb dJ6_numberOfTrailingZeros_0f7a4_70 rfl (lv_at hl 1 rfl) ?_
            refine lv_iconst (v := 2) hx hb dJ6_numberOfTrailingZeros_0f7a4_71 (by decide) ?_
            refine lv_iushr hx hb dJ6_numberOfTrailingZeros_0f7a4_72 rfl ?_
            refine lv_topi (fun y_11 ey_11 => ?_)
            clear ey_11
            refine lv_istore_n (lv' := [(0, .int y_11), (1, .int 3)]) hx hb dJ6_numberOfTrailingZeros_0f7a4_73 rfl hl (by decide) rfl (fun ls hl => ?_)
            refine lv_iload_n hx hb dJ6_numberOfTrailingZeros_0f7a4_74 rfl (lv_at hl 1 rfl) ?_
            refine lv_iload_n hx hb dJ6_numberOfTrailingZeros_0f7a4_75 rfl (lv_at hl 0 rfl) ?_
            refine lv_iconst (v := 1) hx hb dJ6_numberOfTrailingZeros_0f7a4_76 (by decide) ?_
            refine lv_iushr hx hb dJ6_numberOfTrailingZeros_0f7a4_77 rfl ?_
            refine lv_topi (fun y_12 ey_12 => ?_)
            clear ey_12
            refine lv_iadd hx hb dJ6_numberOfTrailingZeros_0f7a4_78 ?_
            refine lv_topi (fun y_13 ey_13 => ?_)
            have ty_13 := iaddF ey_13
            simp only [T3] at ty_13
            clear ey_13
            exact W.iret (v := y_13) hx hb hr (fun t ht hW => ⟨y_13, rfl, trivial, ht⟩) (fun q h => absurd h List.not_mem_nil) dJ6_numberOfTrailingZeros_0f7a4_79
        · (try simp only [i_lt, i_le, i_eq, T16] at c_7)
          refine lv_iinc (v := 5) (lv' := [(1, .int 5), (0, .int y_3)]) hx hb dJ6_numberOfTrailingZeros_0f7a4_55 hl (k := 0) rfl (by decide) (by decide) rfl (fun ls hl => ?_)
          refine lv_iload_n hx hb dJ6_numberOfTrailingZeros_0f7a4_58 rfl (lv_at hl 1 rfl) ?_
          refine lv_iconst (v := 4) hx hb dJ6_numberOfTrailingZeros_0f7a4_59 (by decide) ?_
          refine lv_iushr hx hb dJ6_numberOfTrailingZeros_0f7a4_60 rfl ?_
          refine lv_topi (fun y_14 ey_14 => ?_)
          clear ey_14
          refine lv_istore_n (lv' := [(0, .int y_14), (1, .int 5)]) hx hb dJ6_numberOfTrailingZeros_0f7a4_61 rfl hl (by decide) rfl (fun ls hl => ?_)
          refine lv_iload_n hx hb dJ6_numberOfTrailingZeros_0f7a4_62 rfl (lv_at hl 0 rfl) ?_
          refine lv_iconst (v := 4) hx hb dJ6_numberOfTrailingZeros_0f7a4_63 (by decide) ?_
          refine lv_icmp_le (tgt := 74) hx hb dJ6_numberOfTrailingZeros_0f7a4_64 (by decide) (fun c_15 => ?_) (fun c_15 => ?_)
          · (try simp only [i_lt, i_le, i_eq, T4] at c_15)
            refine lv_iload_n hx hb dJ6_numberOfTrailingZeros_0f7a4_74 rfl (lv_at hl 1 rfl) ?_
            refine lv_iload_n hx hb dJ6_numberOfTrailingZeros_0f7a4_75 rfl (lv_at hl 0 rfl) ?_
            refine lv_iconst (v := 1) hx hb dJ6_numberOfTrailingZeros_0f7a4_76 (by decide) ?_
            refine lv_iushr hx hb dJ6_numberOfTrailingZeros_0f7a4_77 rfl ?_
            refine lv_topi (fun y_16 ey_16 => ?_)
            clear ey_16
            refine lv_iadd hx hb dJ6_numberOfTrailingZeros_0f7a4_78 ?_
            refine lv_topi (fun y_17 ey_17 => ?_)
            have ty_17 := iaddF ey_17
            simp only [T5] at ty_17
            clear ey_17
            exact W.iret (v := y_17) hx hb hr (fun t ht hW => ⟨y_17, rfl, trivial, ht⟩) (fun q h => absurd h List.not_mem_nil) dJ6_numberOfTrailingZeros_0f7a4_79
          · (try simp only [i_lt, i_le, i_eq, T4] at c_15)
            refine lv_iinc (v := 7) (lv' := [(1, .int 7), (0, .int y_14)]) hx hb dJ6_numberOfTrailingZeros_0f7a4_67 hl (k := 1) rfl (by decide) (by decide) rfl (fun ls hl => ?_)
            refine lv_iload_n hx hb dJ6_numberOfTrailingZeros_0f7a4_70 rfl (lv_at hl 1 rfl) ?_
            refine lv_iconst (v := 2) hx hb dJ6_numberOfTrailingZeros_0f7a4_71 (by decide) ?_
            refine lv_iushr hx hb dJ6_numberOfTrailingZeros_0f7a4_72 rfl ?_
            refine lv_topi (fun y_18 ey_18 => ?_)
            clear ey_18
            refine lv_istore_n (lv' := [(0, .int y_18), (1, .int 7)]) hx hb dJ6_numberOfTrailingZeros_0f7a4_73 rfl hl (by decide) rfl (fun ls hl => ?_)
            refine lv_iload_n hx hb dJ6_numberOfTrailingZeros_0f7a4_74 rfl (lv_at hl 1 rfl) ?_
            refine lv_iload_n hx hb dJ6_numberOfTrailingZeros_0f7a4_75 rfl (lv_at hl 0 rfl) ?_
            refine lv_iconst (v := 1) hx hb dJ6_numberOfTrailingZeros_0f7a4_76 (by decide) ?_
            refine lv_iushr hx hb dJ6_numberOfTrailingZeros_0f7a4_77 rfl ?_
            refine lv_topi (fun y_19 ey_19 => ?_)
            clear ey_19
            refine lv_iadd hx hb dJ6_numberOfTrailingZeros_0f7a4_78 ?_
            refine lv_topi (fun y_20 ey_20 => ?_)
            have ty_20 := iaddF ey_20
            simp only [T7] at ty_20
            clear ey_20
            exact W.iret (v := y_20) hx hb hr (fun t ht hW => ⟨y_20, rfl, trivial, ht⟩) (fun q h => absurd h List.not_mem_nil) dJ6_numberOfTrailingZeros_0f7a4_79
      · (try simp only [i_lt, i_le, i_eq, T256] at c_6)
        refine lv_iinc (v := 9) (lv' := [(1, .int 9), (0, .int y_3)]) hx hb dJ6_numberOfTrailingZeros_0f7a4_41 hl (k := 0) rfl (by decide) (by decide) rfl (fun ls hl => ?_)
        refine lv_iload_n hx hb dJ6_numberOfTrailingZeros_0f7a4_44 rfl (lv_at hl 1 rfl) ?_
        refine lv_bipush (v := 8) hx hb dJ6_numberOfTrailingZeros_0f7a4_45 (by decide) ?_
        refine lv_iushr hx hb dJ6_numberOfTrailingZeros_0f7a4_47 rfl ?_
        refine lv_topi (fun y_21 ey_21 => ?_)
        clear ey_21
        refine lv_istore_n (lv' := [(0, .int y_21), (1, .int 9)]) hx hb dJ6_numberOfTrailingZeros_0f7a4_48 rfl hl (by decide) rfl (fun ls hl => ?_)
        refine lv_iload_n hx hb dJ6_numberOfTrailingZeros_0f7a4_49 rfl (lv_at hl 0 rfl) ?_
        refine lv_bipush (v := 16) hx hb dJ6_numberOfTrailingZeros_0f7a4_50 (by decide) ?_
        refine lv_icmp_le (tgt := 62) hx hb dJ6_numberOfTrailingZeros_0f7a4_52 (by decide) (fun c_22 => ?_) (fun c_22 => ?_)
        · (try simp only [i_lt, i_le, i_eq, T16] at c_22)
          refine lv_iload_n hx hb dJ6_numberOfTrailingZeros_0f7a4_62 rfl (lv_at hl 0 rfl) ?_
          refine lv_iconst (v := 4) hx hb dJ6_numberOfTrailingZeros_0f7a4_63 (by decide) ?_
          refine lv_icmp_le (tgt := 74) hx hb dJ6_numberOfTrailingZeros_0f7a4_64 (by decide) (fun c_23 => ?_) (fun c_23 => ?_)
          · (try simp only [i_lt, i_le, i_eq, T4] at c_23)
            refine lv_iload_n hx hb dJ6_numberOfTrailingZeros_0f7a4_74 rfl (lv_at hl 1 rfl) ?_
            refine lv_iload_n hx hb dJ6_numberOfTrailingZeros_0f7a4_75 rfl (lv_at hl 0 rfl) ?_
            refine lv_iconst (v := 1) hx hb dJ6_numberOfTrailingZeros_0f7a4_76 (by decide) ?_
            refine lv_iushr hx hb dJ6_numberOfTrailingZeros_0f7a4_77 rfl ?_
            refine lv_topi (fun y_24 ey_24 => ?_)
            clear ey_24
            refine lv_iadd hx hb dJ6_numberOfTrailingZeros_0f7a4_78 ?_
            refine lv_topi (fun y_25 ey_25 => ?_)
            have ty_25 := iaddF ey_25
            simp only [T9] at ty_25
            clear ey_25
            exact W.iret (v := y_25) hx hb hr (fun t ht hW => ⟨y_25, rfl, trivial, ht⟩) (fun q h => absurd h List.not_mem_nil) dJ6_numberOfTrailingZeros_0f7a4_79
          · (try simp only [i_lt, i_le, i_eq, T4] at c_23)
            refine lv_iinc (v := 11) (lv' := [(1, .int 11), (0, .int y_21)]) hx hb dJ6_numberOfTrailingZeros_0f7a4_67 hl (k := 1) rfl (by decide) (by decide) rfl (fun ls hl => ?_)
            refine lv_iload_n hx hb dJ6_numberOfTrailingZeros_0f7a4_70 rfl (lv_at hl 1 rfl) ?_
            refine lv_iconst (v := 2) hx hb dJ6_numberOfTrailingZeros_0f7a4_71 (by decide) ?_
            refine lv_iushr hx hb dJ6_numberOfTrailingZeros_0f7a4_72 rfl ?_
            refine lv_topi (fun y_26 ey_26 => ?_)
            clear ey_26
            refine lv_istore_n (lv' := [(0, .int y_26), (1, .int 11)]) hx hb dJ6_numberOfTrailingZeros_0f7a4_73 rfl hl (by decide) rfl (fun ls hl => ?_)
            refine lv_iload_n hx hb dJ6_numberOfTrailingZeros_0f7a4_74 rfl (lv_at hl 1 rfl) ?_
            refine lv_iload_n hx hb dJ6_numberOfTrailingZeros_0f7a4_75 rfl (lv_at hl 0 rfl) ?_
            refine lv_iconst (v := 1) hx hb dJ6_numberOfTrailingZeros_0f7a4_76 (by decide) ?_
            refine lv_iushr hx hb dJ6_numberOfTrailingZeros_0f7a4_77 rfl ?_
            refine lv_topi (fun y_27 ey_27 => ?_)
            clear ey_27
            refine lv_iadd hx hb dJ6_numberOfTrailingZeros_0f7a4_78 ?_
            refine lv_topi (fun y_28 ey_28 => ?_)
            have ty_28 := iaddF ey_28
            simp only [T11] at ty_28
            clear ey_28
            exact W.iret (v := y_28) hx hb hr (fun t ht hW => ⟨y_28, rfl, trivial, ht⟩) (fun q h => absurd h List.not_mem_nil) dJ6_numberOfTrailingZeros_0f7a4_79
        · (try simp only [i_lt, i_le, i_eq, T16] at c_22)
          refine lv_iinc (v := 13) (lv' := [(1, .int 13), (0, .int y_21)]) hx hb dJ6_numberOfTrailingZeros_0f7a4_55 hl (k := 1) rfl (by decide) (by decide) rfl (fun ls hl => ?_)
          refine lv_iload_n hx hb dJ6_numberOfTrailingZeros_0f7a4_58 rfl (lv_at hl 1 rfl) ?_
          refine lv_iconst (v := 4) hx hb dJ6_numberOfTrailingZeros_0f7a4_59 (by decide) ?_
          refine lv_iushr hx hb dJ6_numberOfTrailingZeros_0f7a4_60 rfl ?_
          refine lv_topi (fun y_29 ey_29 => ?_)
          clear ey_29
          refine lv_istore_n (lv' := [(0, .int y_29), (1, .int 13)]) hx hb dJ6_numberOfTrailingZeros_0f7a4_61 rfl hl (by decide) rfl (fun ls hl => ?_)
          refine lv_iload_n hx hb dJ6_numberOfTrailingZeros_0f7a4_62 rfl (lv_at hl 0 rfl) ?_
          refine lv_iconst (v := 4) hx hb dJ6_numberOfTrailingZeros_0f7a4_63 (by decide) ?_
          refine lv_icmp_le (tgt := 74) hx hb dJ6_numberOfTrailingZeros_0f7a4_64 (by decide) (fun c_30 => ?_) (fun c_30 => ?_)
          · (try simp only [i_lt, i_le, i_eq, T4] at c_30)
            refine lv_iload_n hx hb dJ6_numberOfTrailingZeros_0f7a4_74 rfl (lv_at hl 1 rfl) ?_
            refine lv_iload_n hx hb dJ6_numberOfTrailingZeros_0f7a4_75 rfl (lv_at hl 0 rfl) ?_
            refine lv_iconst (v := 1) hx hb dJ6_numberOfTrailingZeros_0f7a4_76 (by decide) ?_
            refine lv_iushr hx hb dJ6_numberOfTrailingZeros_0f7a4_77 rfl ?_
            refine lv_topi (fun y_31 ey_31 => ?_)
            clear ey_31
            refine lv_iadd hx hb dJ6_numberOfTrailingZeros_0f7a4_78 ?_
            refine lv_topi (fun y_32 ey_32 => ?_)
            have ty_32 := iaddF ey_32
            simp only [T13] at ty_32
            clear ey_32
            exact W.iret (v := y_32) hx hb hr (fun t ht hW => ⟨y_32, rfl, trivial, ht⟩) (fun q h => absurd h List.not_mem_nil) dJ6_numberOfTrailingZeros_0f7a4_79
          · (try simp only [i_lt, i_le, i_eq, T4] at c_30)
            refine lv_iinc (v := 15) (lv' := [(1, .int 15), (0, .int y_29)]) hx hb dJ6_numberOfTrailingZeros_0f7a4_67 hl (k := 1) rfl (by decide) (by decide) rfl (fun ls hl => ?_)
            refine lv_iload_n hx hb dJ6_numberOfTrailingZeros_0f7a4_70 rfl (lv_at hl 1 rfl) ?_
            refine lv_iconst (v := 2) hx hb dJ6_numberOfTrailingZeros_0f7a4_71 (by decide) ?_
            refine lv_iushr hx hb dJ6_numberOfTrailingZeros_0f7a4_72 rfl ?_
            refine lv_topi (fun y_33 ey_33 => ?_)
            clear ey_33
            refine lv_istore_n (lv' := [(0, .int y_33), (1, .int 15)]) hx hb dJ6_numberOfTrailingZeros_0f7a4_73 rfl hl (by decide) rfl (fun ls hl => ?_)
            refine lv_iload_n hx hb dJ6_numberOfTrailingZeros_0f7a4_74 rfl (lv_at hl 1 rfl) ?_
            refine lv_iload_n hx hb dJ6_numberOfTrailingZeros_0f7a4_75 rfl (lv_at hl 0 rfl) ?_
            refine lv_iconst (v := 1) hx hb dJ6_numberOfTrailingZeros_0f7a4_76 (by decide) ?_
            refine lv_iushr hx hb dJ6_numberOfTrailingZeros_0f7a4_77 rfl ?_
            refine lv_topi (fun y_34 ey_34 => ?_)
            clear ey_34
            refine lv_iadd hx hb dJ6_numberOfTrailingZeros_0f7a4_78 ?_
            refine lv_topi (fun y_35 ey_35 => ?_)
            have ty_35 := iaddF ey_35
            simp only [T15] at ty_35
            clear ey_35
            exact W.iret (v := y_35) hx hb hr (fun t ht hW => ⟨y_35, rfl, trivial, ht⟩) (fun q h => absurd h List.not_mem_nil) dJ6_numberOfTrailingZeros_0f7a4_79
    · (try simp only [i_lt, i_le, i_eq, T65536] at c_5)
      refine lv_iinc (v := 17) (lv' := [(1, .int 17), (0, .int y_3)]) hx hb dJ6_numberOfTrailingZeros_0f7a4_26 hl (k := 0) rfl (by decide) (by decide) rfl (fun ls hl => ?_)
      refine lv_iload_n hx hb dJ6_numberOfTrailingZeros_0f7a4_29 rfl (lv_at hl 1 rfl) ?_
      refine lv_bipush (v := 16) hx hb dJ6_numberOfTrailingZeros_0f7a4_30 (by decide) ?_
      refine lv_iushr hx hb dJ6_numberOfTrailingZeros_0f7a4_32 rfl ?_
      refine lv_topi (fun y_36 ey_36 => ?_)
      clear ey_36
      refine lv_istore_n (lv' := [(0, .int y_36), (1, .int 17)]) hx hb dJ6_numberOfTrailingZeros_0f7a4_33 rfl hl (by decide) rfl (fun ls hl => ?_)
      refine lv_iload_n hx hb dJ6_numberOfTrailingZeros_0f7a4_34 rfl (lv_at hl 0 rfl) ?_
      refine lv_sipush (v := 256) hx hb dJ6_numberOfTrailingZeros_0f7a4_35 (by decide) ?_
      refine lv_icmp_le (tgt := 49) hx hb dJ6_numberOfTrailingZeros_0f7a4_38 (by decide) (fun c_37 => ?_) (fun c_37 => ?_)
      · (try simp only [i_lt, i_le, i_eq, T256] at c_37)
        refine lv_iload_n hx hb dJ6_numberOfTrailingZeros_0f7a4_49 rfl (lv_at hl 0 rfl) ?_
        refine lv_bipush (v := 16) hx hb dJ6_numberOfTrailingZeros_0f7a4_50 (by decide) ?_
        refine lv_icmp_le (tgt := 62) hx hb dJ6_numberOfTrailingZeros_0f7a4_52 (by decide) (fun c_38 => ?_) (fun c_38 => ?_)
        · (try simp only [i_lt, i_le, i_eq, T16] at c_38)
          refine lv_iload_n hx hb dJ6_numberOfTrailingZeros_0f7a4_62 rfl (lv_at hl 0 rfl) ?_
          refine lv_iconst (v := 4) hx hb dJ6_numberOfTrailingZeros_0f7a4_63 (by decide) ?_
          refine lv_icmp_le (tgt := 74) hx hb dJ6_numberOfTrailingZeros_0f7a4_64 (by decide) (fun c_39 => ?_) (fun c_39 => ?_)
          · (try simp only [i_lt, i_le, i_eq, T4] at c_39)
            refine lv_iload_n hx hb dJ6_numberOfTrailingZeros_0f7a4_74 rfl (lv_at hl 1 rfl) ?_
            refine lv_iload_n hx hb dJ6_numberOfTrailingZeros_0f7a4_75 rfl (lv_at hl 0 rfl) ?_
            refine lv_iconst (v := 1) hx hb dJ6_numberOfTrailingZeros_0f7a4_76 (by decide) ?_
            refine lv_iushr hx hb dJ6_numberOfTrailingZeros_0f7a4_77 rfl ?_
            refine lv_topi (fun y_40 ey_40 => ?_)
            clear ey_40
            refine lv_iadd hx hb dJ6_numberOfTrailingZeros_0f7a4_78 ?_
            refine lv_topi (fun y_41 ey_41 => ?_)
            have ty_41 := iaddF ey_41
            simp only [T17] at ty_41
            clear ey_41
            exact W.iret (v := y_41) hx hb hr (fun t ht hW => ⟨y_41, rfl, trivial, ht⟩) (fun q h => absurd h List.not_mem_nil) dJ6_numberOfTrailingZeros_0f7a4_79
          · (try simp only [i_lt, i_le, i_eq, T4] at c_39)
            refine lv_iinc (v := 19) (lv' := [(1, .int 19), (0, .int y_36)]) hx hb dJ6_numberOfTrailingZeros_0f7a4_67 hl (k := 1) rfl (by decide) (by decide) rfl (fun ls hl => ?_)
            refine lv_iload_n hx hb dJ6_numberOfTrailingZeros_0f7a4_70 rfl (lv_at hl 1 rfl) ?_
            refine lv_iconst (v := 2) hx hb dJ6_numberOfTrailingZeros_0f7a4_71 (by decide) ?_
            refine lv_iushr hx hb dJ6_numberOfTrailingZeros_0f7a4_72 rfl ?_
            refine lv_topi (fun y_42 ey_42 => ?_)
            clear ey_42
            refine lv_istore_n (lv' := [(0, .int y_42), (1, .int 19)]) hx hb dJ6_numberOfTrailingZeros_0f7a4_73 rfl hl (by decide) rfl (fun ls hl => ?_)
            refine lv_iload_n hx hb dJ6_numberOfTrailingZeros_0f7a4_74 rfl (lv_at hl 1 rfl) ?_
            refine lv_iload_n hx hb dJ6_numberOfTrailingZeros_0f7a4_75 rfl (lv_at hl 0 rfl) ?_
            refine lv_iconst (v := 1) hx hb dJ6_numberOfTrailingZeros_0f7a4_76 (by decide) ?_
            refine lv_iushr hx hb dJ6_numberOfTrailingZeros_0f7a4_77 rfl ?_
            refine lv_topi (fun y_43 ey_43 => ?_)
            clear ey_43
            refine lv_iadd hx hb dJ6_numberOfTrailingZeros_0f7a4_78 ?_
            refine lv_topi (fun y_44 ey_44 => ?_)
            have ty_44 := iaddF ey_44
            simp only [T19] at ty_44
            clear ey_44
            exact W.iret (v := y_44) hx hb hr (fun t ht hW => ⟨y_44, rfl, trivial, ht⟩) (fun q h => absurd h List.not_mem_nil) dJ6_numberOfTrailingZeros_0f7a4_79
        · (try simp only [i_lt, i_le, i_eq, T16] at c_38)
          refine lv_iinc (v := 21) (lv' := [(1, .int 21), (0, .int y_36)]) hx hb dJ6_numberOfTrailingZeros_0f7a4_55 hl (k := 1) rfl (by decide) (by decide) rfl (fun ls hl => ?_)
          refine lv_iload_n hx hb dJ6_numberOfTrailingZeros_0f7a4_58 rfl (lv_at hl 1 rfl) ?_
          refine lv_iconst (v := 4) hx hb dJ6_numberOfTrailingZeros_0f7a4_59 (by decide) ?_
          refine lv_iushr hx hb dJ6_numberOfTrailingZeros_0f7a4_60 rfl ?_
          refine lv_topi (fun y_45 ey_45 => ?_)
          clear ey_45
          refine lv_istore_n (lv' := [(0, .int y_45), (1, .int 21)]) hx hb dJ6_numberOfTrailingZeros_0f7a4_61 rfl hl (by decide) rfl (fun ls hl => ?_)
          refine lv_iload_n hx hb dJ6_numberOfTrailingZeros_0f7a4_62 rfl (lv_at hl 0 rfl) ?_
          refine lv_iconst (v := 4) hx hb dJ6_numberOfTrailingZeros_0f7a4_63 (by decide) ?_
          refine lv_icmp_le (tgt := 74) hx hb dJ6_numberOfTrailingZeros_0f7a4_64 (by decide) (fun c_46 => ?_) (fun c_46 => ?_)
          · (try simp only [i_lt, i_le, i_eq, T4] at c_46)
            refine lv_iload_n hx hb dJ6_numberOfTrailingZeros_0f7a4_74 rfl (lv_at hl 1 rfl) ?_
            refine lv_iload_n hx hb dJ6_numberOfTrailingZeros_0f7a4_75 rfl (lv_at hl 0 rfl) ?_
            refine lv_iconst (v := 1) hx hb dJ6_numberOfTrailingZeros_0f7a4_76 (by decide) ?_
            refine lv_iushr hx hb dJ6_numberOfTrailingZeros_0f7a4_77 rfl ?_
            refine lv_topi (fun y_47 ey_47 => ?_)
            clear ey_47
            refine lv_iadd hx hb dJ6_numberOfTrailingZeros_0f7a4_78 ?_
            refine lv_topi (fun y_48 ey_48 => ?_)
            have ty_48 := iaddF ey_48
            simp only [T21] at ty_48
            clear ey_48
            exact W.iret (v := y_48) hx hb hr (fun t ht hW => ⟨y_48, rfl, trivial, ht⟩) (fun q h => absurd h List.not_mem_nil) dJ6_numberOfTrailingZeros_0f7a4_79
          · (try simp only [i_lt, i_le, i_eq, T4] at c_46)
            refine lv_iinc (v := 23) (lv' := [(1, .int 23), (0, .int y_45)]) hx hb dJ6_numberOfTrailingZeros_0f7a4_67 hl (k := 1) rfl (by decide) (by decide) rfl (fun ls hl => ?_)
            refine lv_iload_n hx hb dJ6_numberOfTrailingZeros_0f7a4_70 rfl (lv_at hl 1 rfl) ?_
            refine lv_iconst (v := 2) hx hb dJ6_numberOfTrailingZeros_0f7a4_71 (by decide) ?_
            refine lv_iushr hx hb dJ6_numberOfTrailingZeros_0f7a4_72 rfl ?_
            refine lv_topi (fun y_49 ey_49 => ?_)
            clear ey_49
            refine lv_istore_n (lv' := [(0, .int y_49), (1, .int 23)]) hx hb dJ6_numberOfTrailingZeros_0f7a4_73 rfl hl (by decide) rfl (fun ls hl => ?_)
            refine lv_iload_n hx hb dJ6_numberOfTrailingZeros_0f7a4_74 rfl (lv_at hl 1 rfl) ?_
            refine lv_iload_n hx hb dJ6_numberOfTrailingZeros_0f7a4_75 rfl (lv_at hl 0 rfl) ?_
            refine lv_iconst (v := 1) hx hb dJ6_numberOfTrailingZeros_0f7a4_76 (by decide) ?_
            refine lv_iushr hx hb dJ6_numberOfTrailingZeros_0f7a4_77 rfl ?_
            refine lv_topi (fun y_50 ey_50 => ?_)
            clear ey_50
            refine lv_iadd hx hb dJ6_numberOfTrailingZeros_0f7a4_78 ?_
            refine lv_topi (fun y_51 ey_51 => ?_)
            have ty_51 := iaddF ey_51
            simp only [T23] at ty_51
            clear ey_51
            exact W.iret (v := y_51) hx hb hr (fun t ht hW => ⟨y_51, rfl, trivial, ht⟩) (fun q h => absurd h List.not_mem_nil) dJ6_numberOfTrailingZeros_0f7a4_79
      · (try simp only [i_lt, i_le, i_eq, T256] at c_37)
        refine lv_iinc (v := 25) (lv' := [(1, .int 25), (0, .int y_36)]) hx hb dJ6_numberOfTrailingZeros_0f7a4_41 hl (k := 1) rfl (by decide) (by decide) rfl (fun ls hl => ?_)
        refine lv_iload_n hx hb dJ6_numberOfTrailingZeros_0f7a4_44 rfl (lv_at hl 1 rfl) ?_
        refine lv_bipush (v := 8) hx hb dJ6_numberOfTrailingZeros_0f7a4_45 (by decide) ?_
        refine lv_iushr hx hb dJ6_numberOfTrailingZeros_0f7a4_47 rfl ?_
        refine lv_topi (fun y_52 ey_52 => ?_)
        clear ey_52
        refine lv_istore_n (lv' := [(0, .int y_52), (1, .int 25)]) hx hb dJ6_numberOfTrailingZeros_0f7a4_48 rfl hl (by decide) rfl (fun ls hl => ?_)
        refine lv_iload_n hx hb dJ6_numberOfTrailingZeros_0f7a4_49 rfl (lv_at hl 0 rfl) ?_
        refine lv_bipush (v := 16) hx hb dJ6_numberOfTrailingZeros_0f7a4_50 (by decide) ?_
        refine lv_icmp_le (tgt := 62) hx hb dJ6_numberOfTrailingZeros_0f7a4_52 (by decide) (fun c_53 => ?_) (fun c_53 => ?_)
        · (try simp only [i_lt, i_le, i_eq, T16] at c_53)
          refine lv_iload_n hx hb dJ6_numberOfTrailingZeros_0f7a4_62 rfl (lv_at hl 0 rfl) ?_
          refine lv_iconst (v := 4) hx hb dJ6_numberOfTrailingZeros_0f7a4_63 (by decide) ?_
          refine lv_icmp_le (tgt := 74) hx hb dJ6_numberOfTrailingZeros_0f7a4_64 (by decide) (fun c_54 => ?_) (fun c_54 => ?_)
          · (try simp only [i_lt, i_le, i_eq, T4] at c_54)
            refine lv_iload_n hx hb dJ6_numberOfTrailingZeros_0f7a4_74 rfl (lv_at hl 1 rfl) ?_
            refine lv_iload_n hx hb dJ6_numberOfTrailingZeros_0f7a4_75 rfl (lv_at hl 0 rfl) ?_
            refine lv_iconst (v := 1) hx hb dJ6_numberOfTrailingZeros_0f7a4_76 (by decide) ?_
            refine lv_iushr hx hb dJ6_numberOfTrailingZeros_0f7a4_77 rfl ?_
            refine lv_topi (fun y_55 ey_55 => ?_)
            clear ey_55
            refine lv_iadd hx hb dJ6_numberOfTrailingZeros_0f7a4_78 ?_
            refine lv_topi (fun y_56 ey_56 => ?_)
            have ty_56 := iaddF ey_56
            simp only [T25] at ty_56
            clear ey_56
            exact W.iret (v := y_56) hx hb hr (fun t ht hW => ⟨y_56, rfl, trivial, ht⟩) (fun q h => absurd h List.not_mem_nil) dJ6_numberOfTrailingZeros_0f7a4_79
          · (try simp only [i_lt, i_le, i_eq, T4] at c_54)
            refine lv_iinc (v := 27) (lv' := [(1, .int 27), (0, .int y_52)]) hx hb dJ6_numberOfTrailingZeros_0f7a4_67 hl (k := 1) rfl (by decide) (by decide) rfl (fun ls hl => ?_)
            refine lv_iload_n hx hb dJ6_numberOfTrailingZeros_0f7a4_70 rfl (lv_at hl 1 rfl) ?_
            refine lv_iconst (v := 2) hx hb dJ6_numberOfTrailingZeros_0f7a4_71 (by decide) ?_
            refine lv_iushr hx hb dJ6_numberOfTrailingZeros_0f7a4_72 rfl ?_
            refine lv_topi (fun y_57 ey_57 => ?_)
            clear ey_57
            refine lv_istore_n (lv' := [(0, .int y_57), (1, .int 27)]) hx hb dJ6_numberOfTrailingZeros_0f7a4_73 rfl hl (by decide) rfl (fun ls hl => ?_)
            refine lv_iload_n hx hb dJ6_numberOfTrailingZeros_0f7a4_74 rfl (lv_at hl 1 rfl) ?_
            refine lv_iload_n hx hb dJ6_numberOfTrailingZeros_0f7a4_75 rfl (lv_at hl 0 rfl) ?_
            refine lv_iconst (v := 1) hx hb dJ6_numberOfTrailingZeros_0f7a4_76 (by decide) ?_
            refine lv_iushr hx hb dJ6_numberOfTrailingZeros_0f7a4_77 rfl ?_
            refine lv_topi (fun y_58 ey_58 => ?_)
            clear ey_58
            refine lv_iadd hx hb dJ6_numberOfTrailingZeros_0f7a4_78 ?_
            refine lv_topi (fun y_59 ey_59 => ?_)
            have ty_59 := iaddF ey_59
            simp only [T27] at ty_59
            clear ey_59
            exact W.iret (v := y_59) hx hb hr (fun t ht hW => ⟨y_59, rfl, trivial, ht⟩) (fun q h => absurd h List.not_mem_nil) dJ6_numberOfTrailingZeros_0f7a4_79
        · (try simp only [i_lt, i_le, i_eq, T16] at c_53)
          refine lv_iinc (v := 29) (lv' := [(1, .int 29), (0, .int y_52)]) hx hb dJ6_numberOfTrailingZeros_0f7a4_55 hl (k := 1) rfl (by decide) (by decide) rfl (fun ls hl => ?_)
          refine lv_iload_n hx hb dJ6_numberOfTrailingZeros_0f7a4_58 rfl (lv_at hl 1 rfl) ?_
          refine lv_iconst (v := 4) hx hb dJ6_numberOfTrailingZeros_0f7a4_59 (by decide) ?_
          refine lv_iushr hx hb dJ6_numberOfTrailingZeros_0f7a4_60 rfl ?_
          refine lv_topi (fun y_60 ey_60 => ?_)
          clear ey_60
          refine lv_istore_n (lv' := [(0, .int y_60), (1, .int 29)]) hx hb dJ6_numberOfTrailingZeros_0f7a4_61 rfl hl (by decide) rfl (fun ls hl => ?_)
          refine lv_iload_n hx hb dJ6_numberOfTrailingZeros_0f7a4_62 rfl (lv_at hl 0 rfl) ?_
          refine lv_iconst (v := 4) hx hb dJ6_numberOfTrailingZeros_0f7a4_63 (by decide) ?_
          refine lv_icmp_le (tgt := 74) hx hb dJ6_numberOfTrailingZeros_0f7a4_64 (by decide) (fun c_61 => ?_) (fun c_61 => ?_)
          · (try simp only [i_lt, i_le, i_eq, T4] at c_61)
            refine lv_iload_n hx hb dJ6_numberOfTrailingZeros_0f7a4_74 rfl (lv_at hl 1 rfl) ?_
            refine lv_iload_n hx hb dJ6_numberOfTrailingZeros_0f7a4_75 rfl (lv_at hl 0 rfl) ?_
            refine lv_iconst (v := 1) hx hb dJ6_numberOfTrailingZeros_0f7a4_76 (by decide) ?_
            refine lv_iushr hx hb dJ6_numberOfTrailingZeros_0f7a4_77 rfl ?_
            refine lv_topi (fun y_62 ey_62 => ?_)
            clear ey_62
            refine lv_iadd hx hb dJ6_numberOfTrailingZeros_0f7a4_78 ?_
            refine lv_topi (fun y_63 ey_63 => ?_)
            have ty_63 := iaddF ey_63
            simp only [T29] at ty_63
            clear ey_63
            exact W.iret (v := y_63) hx hb hr (fun t ht hW => ⟨y_63, rfl, trivial, ht⟩) (fun q h => absurd h List.not_mem_nil) dJ6_numberOfTrailingZeros_0f7a4_79
          · (try simp only [i_lt, i_le, i_eq, T4] at c_61)
            refine lv_iinc (v := 31) (lv' := [(1, .int 31), (0, .int y_60)]) hx hb dJ6_numberOfTrailingZeros_0f7a4_67 hl (k := 1) rfl (by decide) (by decide) rfl (fun ls hl => ?_)
            refine lv_iload_n hx hb dJ6_numberOfTrailingZeros_0f7a4_70 rfl (lv_at hl 1 rfl) ?_
            refine lv_iconst (v := 2) hx hb dJ6_numberOfTrailingZeros_0f7a4_71 (by decide) ?_
            refine lv_iushr hx hb dJ6_numberOfTrailingZeros_0f7a4_72 rfl ?_
            refine lv_topi (fun y_64 ey_64 => ?_)
            clear ey_64
            refine lv_istore_n (lv' := [(0, .int y_64), (1, .int 31)]) hx hb dJ6_numberOfTrailingZeros_0f7a4_73 rfl hl (by decide) rfl (fun ls hl => ?_)
            refine lv_iload_n hx hb dJ6_numberOfTrailingZeros_0f7a4_74 rfl (lv_at hl 1 rfl) ?_
            refine lv_iload_n hx hb dJ6_numberOfTrailingZeros_0f7a4_75 rfl (lv_at hl 0 rfl) ?_
            refine lv_iconst (v := 1) hx hb dJ6_numberOfTrailingZeros_0f7a4_76 (by decide) ?_
            refine lv_iushr hx hb dJ6_numberOfTrailingZeros_0f7a4_77 rfl ?_
            refine lv_topi (fun y_65 ey_65 => ?_)
            clear ey_65
            refine lv_iadd hx hb dJ6_numberOfTrailingZeros_0f7a4_78 ?_
            refine lv_topi (fun y_66 ey_66 => ?_)
            have ty_66 := iaddF ey_66
            simp only [T31] at ty_66
            clear ey_66
            exact W.iret (v := y_66) hx hb hr (fun t ht hW => ⟨y_66, rfl, trivial, ht⟩) (fun q h => absurd h List.not_mem_nil) dJ6_numberOfTrailingZeros_0f7a4_79
  · (try simp only [i_lt, i_le, i_eq, T0] at c_4)
    refine lv_iload_n hx hb dJ6_numberOfTrailingZeros_0f7a4_12 rfl (lv_at hl 0 rfl) ?_
    refine lv_bipush (v := 32) hx hb dJ6_numberOfTrailingZeros_0f7a4_13 (by decide) ?_
    refine lv_iand hx hb dJ6_numberOfTrailingZeros_0f7a4_15 ?_
    refine lv_topi (fun y_67 ey_67 => ?_)
    have ty_67 := iandF (m := 32) ey_67 (by decide)
    simp only [T32] at ty_67
    clear ey_67
    exact W.iret (v := y_67) hx hb hr (fun t ht hW => ⟨y_67, rfl, trivial, ht⟩) (fun q h => absurd h List.not_mem_nil) dJ6_numberOfTrailingZeros_0f7a4_16
set_option maxHeartbeats 8000000 in
set_option maxRecDepth 100000 in
theorem s_J6_numberOfLeadingZeros_0f7a4 (l : Launch) (dC : Nat → ClassId) (dI : Nat → Nat → Nat) (cB cI cJ cZ cL : ClassId)   (p0 : Int32)  : Met l yJ6_numberOfLeadingZeros_0f7a4 (wy yJ6_numberOfLeadingZeros_0f7a4 cJ6_numberOfLeadingZeros_0f7a4 2 (some .int)) ({ frames := 0, cells := 0, slots := 0, locals := 0 }) (va_Pc [.int p0] (fun U => va_P (dC, dI) vwCl [] U.heap ∧ va_K (dC, dI) vwCl (tyL cB cI cJ cZ cL) U ∧ NW U)) (vp_Si (fun r => True)) 0 0 (fun _ => False) := by
  refine Met.ofW (cc := cJ6_numberOfLeadingZeros_0f7a4) (maxL := 2) (ret := (some .int)) (by decide) rfl ?_
  intro p e s m args below meth c s₁ B hml hv
  obtain ⟨rfl, hP, hK, hN⟩ := hv
  have hx := B.exec
  have hb := B.bytes
  have hr := B.returns
  have ht : ∀ w ∈ lw_ok, w.before _ s = true := fun w h => atoms_spec (ws := wy yJ6_numberOfLeadingZeros_0f7a4 cJ6_numberOfLeadingZeros_0f7a4 2 (some .int)) B.pre w (List.mem_cons_of_mem _ h)
  have hown : s.vm.findClass RJ6 = some m.cls := findClass_of_methodNamed B.named
  have hlocks := B.notSynchronized
  have hl := lv_entry ([.int p0]) (n := 2) (Nat.le_of_ble_eq_true rfl)
  rw [lg_entry_eq]
  generalize (lg_sl ([.int p0]) ++ List.replicate (2 - (lg_sl ([.int p0])).length) Slot.unset).toArray = ls at hl ⊢
  have hl : lv_has ls 2 [(0, .int p0)] := hl
  have hP : va_P (dC, dI) vwCl [] s.heap := hP
  have rg_p0 := rgI p0
  refine lv_iload_n hx hb dJ6_numberOfLeadingZeros_0f7a4_0 rfl (lv_at hl 0 rfl) ?_
  refine lv_if_gt (tgt := 15) hx hb dJ6_numberOfLeadingZeros_0f7a4_1 (by decide) (fun c_1 => ?_) (fun c_1 => ?_)
  · (try simp only [i_lt, i_le, i_eq, T0] at c_1)
    refine lv_bipush (v := 31) hx hb dJ6_numberOfLeadingZeros_0f7a4_15 (by decide) ?_
    refine lv_istore_n (lv' := [(1, .int 31), (0, .int p0)]) hx hb dJ6_numberOfLeadingZeros_0f7a4_17 rfl hl (by decide) rfl (fun ls hl => ?_)
    refine lv_iload_n hx hb dJ6_numberOfLeadingZeros_0f7a4_18 rfl (lv_at hl 1 rfl) ?_
    refine lv_ldcw hx hb hown (ht _ w_653) dJ6_numberOfLeadingZeros_0f7a4_19 ?_
    refine lv_icmp_lt (tgt := 33) hx hb dJ6_numberOfLeadingZeros_0f7a4_22 (by decide) (fun c_2 => ?_) (fun c_2 => ?_)
    · (try simp only [i_lt, i_le, i_eq, T65536] at c_2)
      refine lv_iload_n hx hb dJ6_numberOfLeadingZeros_0f7a4_33 rfl (lv_at hl 1 rfl) ?_
      refine lv_sipush (v := 256) hx hb dJ6_numberOfLeadingZeros_0f7a4_34 (by decide) ?_
      refine lv_icmp_lt (tgt := 48) hx hb dJ6_numberOfLeadingZeros_0f7a4_37 (by decide) (fun c_3 => ?_) (fun c_3 => ?_)
      · (try simp only [i_lt, i_le, i_eq, T256] at c_3)
        refine lv_iload_n hx hb dJ6_numberOfLeadingZeros_0f7a4_48 rfl (lv_at hl 1 rfl) ?_
        refine lv_bipush (v := 16) hx hb dJ6_numberOfLeadingZeros_0f7a4_49 (by decide) ?_
        refine lv_icmp_lt (tgt := 61) hx hb dJ6_numberOfLeadingZeros_0f7a4_51 (by decide) (fun c_4 => ?_) (fun c_4 => ?_)
        · (try simp only [i_lt, i_le, i_eq, T16] at c_4)
          refine lv_iload_n hx hb dJ6_numberOfLeadingZeros_0f7a4_61 rfl (lv_at hl 1 rfl) ?_
          refine lv_iconst (v := 4) hx hb dJ6_numberOfLeadingZeros_0f7a4_62 (by decide) ?_
          refine lv_icmp_lt (tgt := 73) hx hb dJ6_numberOfLeadingZeros_0f7a4_63 (by decide) (fun c_5 => ?_) (fun c_5 => ?_)
          · (try simp only [i_lt, i_le, i_eq, T4] at c_5)
            refine lv_iload_n hx hb dJ6_numberOfLeadingZeros_0f7a4_73 rfl (lv_at hl 0 rfl) ?_
            refine lv_iload_n hx hb dJ6_numberOfLeadingZeros_0f7a4_74 rfl (lv_at hl 1 rfl) ?_
            refine lv_iconst (v := 1) hx hb dJ6_numberOfLeadingZeros_0f7a4_75 (by decide) ?_
            refine lv_iushr hx hb dJ6_numberOfLeadingZeros_0f7a4_76 rfl ?_
            refine lv_topi (fun y_6 ey_6 => ?_)
            clear ey_6
            refine lv_isub hx hb dJ6_numberOfLeadingZeros_0f7a4_77 ?_
            refine lv_topi (fun y_7 ey_7 => ?_)
            have ty_7 := isubF ey_7
            simp only [T31] at ty_7
            clear ey_7
            exact W.iret (v := y_7) hx hb hr (fun t ht hW => ⟨y_7, rfl, trivial, ht⟩) (fun q h => absurd h List.not_mem_nil) dJ6_numberOfLeadingZeros_0f7a4_78
          · (try simp only [i_lt, i_le, i_eq, T4] at c_5)
            refine lv_iinc (v := 29) (lv' := [(1, .int 29), (0, .int p0)]) hx hb dJ6_numberOfLeadingZeros_0f7a4_66 hl (k := 0) rfl (by decide) (by decide) rfl (fun ls hl => ?_)
            refine lv_iload_n hx hb dJ6_numberOfLeadingZeros_0f7a4_69 rfl (lv_at hl 1 rfl) ?_
            refine lv_iconst (v := 2) hx hb dJ6_numberOfLeadingZeros_0f7a4_70 (by decide) ?_
            refine lv_iushr hx hb dJ6_numberOfLeadingZeros_0f7a4_71 rfl ?_
            refine lv_topi (fun y_8 ey_8 => ?_)
            clear ey_8
            refine lv_istore_n (lv' := [(0, .int y_8), (1, .int 29)]) hx hb dJ6_numberOfLeadingZeros_0f7a4_72 rfl hl (by decide) rfl (fun ls hl => ?_)
            refine lv_iload_n hx hb dJ6_numberOfLeadingZeros_0f7a4_73 rfl (lv_at hl 1 rfl) ?_
            refine lv_iload_n hx hb dJ6_numberOfLeadingZeros_0f7a4_74 rfl (lv_at hl 0 rfl) ?_
            refine lv_iconst (v := 1) hx hb dJ6_numberOfLeadingZeros_0f7a4_75 (by decide) ?_
            refine lv_iushr hx hb dJ6_numberOfLeadingZeros_0f7a4_76 rfl ?_
            refine lv_topi (fun y_9 ey_9 => ?_)
            clear ey_9
            refine lv_isub hx hb dJ6_numberOfLeadingZeros_0f7a4_77 ?_
            refine lv_topi (fun y_10 ey_10 => ?_)
            have ty_10 := isubF ey_10
            simp only [T29] at ty_10
            clear ey_10
            exact W.iret (v := y_10) hx hb hr (fun t ht hW => ⟨y_10, rfl, trivial, ht⟩) (fun q h => absurd h List.not_mem_nil) dJ6_numberOfLeadingZeros_0f7a4_78
        · (try simp only [i_lt, i_le, i_eq, T16] at c_4)
          refine lv_iinc (v := 27) (lv' := [(1, .int 27), (0, .int p0)]) hx hb dJ6_numberOfLeadingZeros_0f7a4_54 hl (k := 0) rfl (by decide) (by decide) rfl (fun ls hl => ?_)
          refine lv_iload_n hx hb dJ6_numberOfLeadingZeros_0f7a4_57 rfl (lv_at hl 1 rfl) ?_
          refine lv_iconst (v := 4) hx hb dJ6_numberOfLeadingZeros_0f7a4_58 (by decide) ?_
          refine lv_iushr hx hb dJ6_numberOfLeadingZeros_0f7a4_59 rfl ?_
          refine lv_topi (fun y_11 ey_11 => ?_)
          clear ey_11
          refine lv_istore_n (lv' := [(0, .int y_11), (1, .int 27)]) hx hb dJ6_numberOfLeadingZeros_0f7a4_60 rfl hl (by decide) rfl (fun ls hl => ?_)
          refine lv_iload_n hx hb dJ6_numberOfLeadingZeros_0f7a4_61 rfl (lv_at hl 0 rfl) ?_
          refine lv_iconst (v := 4) hx hb dJ6_numberOfLeadingZeros_0f7a4_62 (by decide) ?_
          refine lv_icmp_lt (tgt := 73) hx hb dJ6_numberOfLeadingZeros_0f7a4_63 (by decide) (fun c_12 => ?_) (fun c_12 => ?_)
          · (try simp only [i_lt, i_le, i_eq, T4] at c_12)
            refine lv_iload_n hx hb dJ6_numberOfLeadingZeros_0f7a4_73 rfl (lv_at hl 1 rfl) ?_
            refine lv_iload_n hx hb dJ6_numberOfLeadingZeros_0f7a4_74 rfl (lv_at hl 0 rfl) ?_
            refine lv_iconst (v := 1) hx hb dJ6_numberOfLeadingZeros_0f7a4_75 (by decide) ?_
            refine lv_iushr hx hb dJ6_numberOfLeadingZeros_0f7a4_76 rfl ?_
            refine lv_topi (fun y_13 ey_13 => ?_)
            clear ey_13
            refine lv_isub hx hb dJ6_numberOfLeadingZeros_0f7a4_77 ?_
            refine lv_topi (fun y_14 ey_14 => ?_)
            have ty_14 := isubF ey_14
            simp only [T27] at ty_14
            clear ey_14
            exact W.iret (v := y_14) hx hb hr (fun t ht hW => ⟨y_14, rfl, trivial, ht⟩) (fun q h => absurd h List.not_mem_nil) dJ6_numberOfLeadingZeros_0f7a4_78
          · (try simp only [i_lt, i_le, i_eq, T4] at c_12)
            refine lv_iinc (v := 25) (lv' := [(1, .int 25), (0, .int y_11)]) hx hb dJ6_numberOfLeadingZeros_0f7a4_66 hl (k := 1) rfl (by decide) (by decide) rfl (fun ls hl => ?_)
            refine lv_iload_n hx hb dJ6_numberOfLeadingZeros_0f7a4_69 rfl (lv_at hl 1 rfl) ?_
            refine lv_iconst (v := 2) hx hb dJ6_numberOfLeadingZeros_0f7a4_70 (by decide) ?_
            refine lv_iushr hx hb dJ6_numberOfLeadingZeros_0f7a4_71 rfl ?_
            refine lv_topi (fun y_15 ey_15 => ?_)
            clear ey_15
            refine lv_istore_n (lv' := [(0, .int y_15), (1, .int 25)]) hx hb dJ6_numberOfLeadingZeros_0f7a4_72 rfl hl (by decide) rfl (fun ls hl => ?_)
            refine lv_iload_n hx hb dJ6_numberOfLeadingZeros_0f7a4_73 rfl (lv_at hl 1 rfl) ?_
            refine lv_iload_n hx hb dJ6_numberOfLeadingZeros_0f7a4_74 rfl (lv_at hl 0 rfl) ?_
            refine lv_iconst (v := 1) hx hb dJ6_numberOfLeadingZeros_0f7a4_75 (by decide) ?_
            refine lv_iushr hx hb dJ6_numberOfLeadingZeros_0f7a4_76 rfl ?_
            refine lv_topi (fun y_16 ey_16 => ?_)
            clear ey_16
            refine lv_isub hx hb dJ6_numberOfLeadingZeros_0f7a4_77 ?_
            refine lv_topi (fun y_17 ey_17 => ?_)
            have ty_17 := isubF ey_17
            simp only [T25] at ty_17
            clear ey_17
            exact W.iret (v := y_17) hx hb hr (fun t ht hW => ⟨y_17, rfl, trivial, ht⟩) (fun q h => absurd h List.not_mem_nil) dJ6_numberOfLeadingZeros_0f7a4_78
      · (try simp only [i_lt, i_le, i_eq, T256] at c_3)
        refine lv_iinc (v := 23) (lv' := [(1, .int 23), (0, .int p0)]) hx hb dJ6_numberOfLeadingZeros_0f7a4_40 hl (k := 0) rfl (by decide) (by decide) rfl (fun ls hl => ?_)
        refine lv_iload_n hx hb dJ6_numberOfLeadingZeros_0f7a4_43 rfl (lv_at hl 1 rfl) ?_
        refine lv_bipush (v := 8) hx hb dJ6_numberOfLeadingZeros_0f7a4_44 (by decide) ?_
        refine lv_iushr hx hb dJ6_numberOfLeadingZeros_0f7a4_46 rfl ?_
        refine lv_topi (fun y_18 ey_18 => ?_)
        clear ey_18
        refine lv_istore_n (lv' := [(0, .int y_18), (1, .int 23)]) hx hb dJ6_numberOfLeadingZeros_0f7a4_47 rfl hl (by decide) rfl (fun ls hl => ?_)
        refine lv_iload_n hx hb dJ6_numberOfLeadingZeros_0f7a4_48 rfl (lv_at hl 0 rfl) ?_
        refine lv_bipush (v := 16) hx hb dJ6_numberOfLeadingZeros_0f7a4_49 (by decide) ?_
        refine lv_icmp_lt (tgt := 61) hx hb dJ6_numberOfLeadingZeros_0f7a4_51 (by decide) (fun c_19 => ?_) (fun c_19 => ?_)
        · (try simp only [i_lt, i_le, i_eq, T16] at c_19)
          refine lv_iload_n hx hb dJ6_numberOfLeadingZeros_0f7a4_61 rfl (lv_at hl 0 rfl) ?_
          refine lv_iconst (v := 4) hx hb dJ6_numberOfLeadingZeros_0f7a4_62 (by decide) ?_
          refine lv_icmp_lt (tgt := 73) hx hb dJ6_numberOfLeadingZeros_0f7a4_63 (by decide) (fun c_20 => ?_) (fun c_20 => ?_)
          · (try simp only [i_lt, i_le, i_eq, T4] at c_20)
            refine lv_iload_n hx hb dJ6_numberOfLeadingZeros_0f7a4_73 rfl (lv_at hl 1 rfl) ?_
            refine lv_iload_n hx hb dJ6_numberOfLeadingZeros_0f7a4_74 rfl (lv_at hl 0 rfl) ?_
            refine lv_iconst (v := 1) hx hb dJ6_numberOfLeadingZeros_0f7a4_75 (by decide) ?_
            refine lv_iushr hx hb dJ6_numberOfLeadingZeros_0f7a4_76 rfl ?_
            refine lv_topi (fun y_21 ey_21 => ?_)
            clear ey_21
            refine lv_isub hx hb dJ6_numberOfLeadingZeros_0f7a4_77 ?_
            refine lv_topi (fun y_22 ey_22 => ?_)
            have ty_22 := isubF ey_22
            simp only [T23] at ty_22
            clear ey_22
            exact W.iret (v := y_22) hx hb hr (fun t ht hW => ⟨y_22, rfl, trivial, ht⟩) (fun q h => absurd h List.not_mem_nil) dJ6_numberOfLeadingZeros_0f7a4_78
          · (try simp only [i_lt, i_le, i_eq, T4] at c_20)
            refine lv_iinc (v := 21) (lv' := [(1, .int 21), (0, .int y_18)]) hx hb dJ6_numberOfLeadingZeros_0f7a4_66 hl (k := 1) rfl (by decide) (by decide) rfl (fun ls hl => ?_)
            refine lv_iload_n hx hb dJ6_numberOfLeadingZeros_0f7a4_69 rfl (lv_at hl 1 rfl) ?_
            refine lv_iconst (v := 2) hx hb dJ6_numberOfLeadingZeros_0f7a4_70 (by decide) ?_
            refine lv_iushr hx hb dJ6_numberOfLeadingZeros_0f7a4_71 rfl ?_
            refine lv_topi (fun y_23 ey_23 => ?_)
            clear ey_23
            refine lv_istore_n (lv' := [(0, .int y_23), (1, .int 21)]) hx hb dJ6_numberOfLeadingZeros_0f7a4_72 rfl hl (by decide) rfl (fun ls hl => ?_)
            refine lv_iload_n hx hb dJ6_numberOfLeadingZeros_0f7a4_73 rfl (lv_at hl 1 rfl) ?_
            refine lv_iload_n hx hb dJ6_numberOfLeadingZeros_0f7a4_74 rfl (lv_at hl 0 rfl) ?_
            refine lv_iconst (v := 1) hx hb dJ6_numberOfLeadingZeros_0f7a4_75 (by decide) ?_
            refine lv_iushr hx hb dJ6_numberOfLeadingZeros_0f7a4_76 rfl ?_
            refine lv_topi (fun y_24 ey_24 => ?_)
            clear ey_24
            refine lv_isub hx hb dJ6_numberOfLeadingZeros_0f7a4_77 ?_
            refine lv_topi (fun y_25 ey_25 => ?_)
            have ty_25 := isubF ey_25
            simp only [T21] at ty_25
            clear ey_25
            exact W.iret (v := y_25) hx hb hr (fun t ht hW => ⟨y_25, rfl, trivial, ht⟩) (fun q h => absurd h List.not_mem_nil) dJ6_numberOfLeadingZeros_0f7a4_78
        · (try simp only [i_lt, i_le, i_eq, T16] at c_19)
          refine lv_iinc (v := 19) (lv' := [(1, .int 19), (0, .int y_18)]) hx hb dJ6_numberOfLeadingZeros_0f7a4_54 hl (k := 1) rfl (by decide) (by decide) rfl (fun ls hl => ?_)
          refine lv_iload_n hx hb dJ6_numberOfLeadingZeros_0f7a4_57 rfl (lv_at hl 1 rfl) ?_
          refine lv_iconst (v := 4) hx hb dJ6_numberOfLeadingZeros_0f7a4_58 (by decide) ?_
          refine lv_iushr hx hb dJ6_numberOfLeadingZeros_0f7a4_59 rfl ?_
          refine lv_topi (fun y_26 ey_26 => ?_)
          clear ey_26
          refine lv_istore_n (lv' := [(0, .int y_26), (1, .int 19)]) hx hb dJ6_numberOfLeadingZeros_0f7a4_60 rfl hl (by decide) rfl (fun ls hl => ?_)
          refine lv_iload_n hx hb dJ6_numberOfLeadingZeros_0f7a4_61 rfl (lv_at hl 0 rfl) ?_
          refine lv_iconst (v := 4) hx hb dJ6_numberOfLeadingZeros_0f7a4_62 (by decide) ?_
          refine lv_icmp_lt (tgt := 73) hx hb dJ6_numberOfLeadingZeros_0f7a4_63 (by decide) (fun c_27 => ?_) (fun c_27 => ?_)
          · (try simp only [i_lt, i_le, i_eq, T4] at c_27)
            refine lv_iload_n hx hb dJ6_numberOfLeadingZeros_0f7a4_73 rfl (lv_at hl 1 rfl) ?_
            refine lv_iload_n hx hb dJ6_numberOfLeadingZeros_0f7a4_74 rfl (lv_at hl 0 rfl) ?_
            refine lv_iconst (v := 1) hx hb dJ6_numberOfLeadingZeros_0f7a4_75 (by decide) ?_
            refine lv_iushr hx hb dJ6_numberOfLeadingZeros_0f7a4_76 rfl ?_
            refine lv_topi (fun y_28 ey_28 => ?_)
            clear ey_28
            refine lv_isub hx hb dJ6_numberOfLeadingZeros_0f7a4_77 ?_
            refine lv_topi (fun y_29 ey_29 => ?_)
            have ty_29 := isubF ey_29
            simp only [T19] at ty_29
            clear ey_29
            exact W.iret (v := y_29) hx hb hr (fun t ht hW => ⟨y_29, rfl, trivial, ht⟩) (fun q h => absurd h List.not_mem_nil) dJ6_numberOfLeadingZeros_0f7a4_78
          · (try simp only [i_lt, i_le, i_eq, T4] at c_27)
            refine lv_iinc (v := 17) (lv' := [(1, .int 17), (0, .int y_26)]) hx hb dJ6_numberOfLeadingZeros_0f7a4_66 hl (k := 1) rfl (by decide) (by decide) rfl (fun ls hl => ?_)
            refine lv_iload_n hx hb dJ6_numberOfLeadingZeros_0f7a4_69 rfl (lv_at hl 1 rfl) ?_
            refine lv_iconst (v := 2) hx hb dJ6_numberOfLeadingZeros_0f7a4_70 (by decide) ?_
            refine lv_iushr hx hb dJ6_numberOfLeadingZeros_0f7a4_71 rfl ?_
            refine lv_topi (fun y_30 ey_30 => ?_)
            clear ey_30
            refine lv_istore_n (lv' := [(0, .int y_30), (1, .int 17)]) hx hb dJ6_numberOfLeadingZeros_0f7a4_72 rfl hl (by decide) rfl (fun ls hl => ?_)
            refine lv_iload_n hx hb dJ6_numberOfLeadingZeros_0f7a4_73 rfl (lv_at hl 1 rfl) ?_
            refine lv_iload_n hx hb dJ6_numberOfLeadingZeros_0f7a4_74 rfl (lv_at hl 0 rfl) ?_
            refine lv_iconst (v := 1) hx hb dJ6_numberOfLeadingZeros_0f7a4_75 (by decide) ?_
            refine lv_iushr hx hb dJ6_numberOfLeadingZeros_0f7a4_76 rfl ?_
            refine lv_topi (fun y_31 ey_31 => ?_)
            clear ey_31
            refine lv_isub hx hb dJ6_numberOfLeadingZeros_0f7a4_77 ?_
            refine lv_topi (fun y_32 ey_32 => ?_)
            have ty_32 := isubF ey_32
            simp only [T17] at ty_32
            clear ey_32
            exact W.iret (v := y_32) hx hb hr (fun t ht hW => ⟨y_32, rfl, trivial, ht⟩) (fun q h => absurd h List.not_mem_nil) dJ6_numberOfLeadingZeros_0f7a4_78
    · (try simp only [i_lt, i_le, i_eq, T65536] at c_2)
      refine lv_iinc (v := 15) (lv' := [(1, .int 15), (0, .int p0)]) hx hb dJ6_numberOfLeadingZeros_0f7a4_25 hl (k := 0) rfl (by decide) (by decide) rfl (fun ls hl => ?_)
      refine lv_iload_n hx hb dJ6_numberOfLeadingZeros_0f7a4_28 rfl (lv_at hl 1 rfl) ?_
      refine lv_bipush (v := 16) hx hb dJ6_numberOfLeadingZeros_0f7a4_29 (by decide) ?_
      refine lv_iushr hx hb dJ6_numberOfLeadingZeros_0f7a4_31 rfl ?_
      refine lv_topi (fun y_33 ey_33 => ?_)
      clear ey_33
      refine lv_istore_n (lv' := [(0, .int y_33), (1, .int 15)]) hx hb dJ6_numberOfLeadingZeros_0f7a4_32 rfl hl (by decide) rfl (fun ls hl => ?_)
      refine lv_iload_n hx hb dJ6_numberOfLeadingZeros_0f7a4_33 rfl (lv_at hl 0 rfl) ?_
      refine lv_sipush (v := 256) hx hb dJ6_numberOfLeadingZeros_0f7a4_34 (by decide) ?_
      refine lv_icmp_lt (tgt := 48) hx hb dJ6_numberOfLeadingZeros_0f7a4_37 (by decide) (fun c_34 => ?_) (fun c_34 => ?_)
      · (try simp only [i_lt, i_le, i_eq, T256] at c_34)
        refine lv_iload_n hx hb dJ6_numberOfLeadingZeros_0f7a4_48 rfl (lv_at hl 0 rfl) ?_
        refine lv_bipush (v := 16) hx hb dJ6_numberOfLeadingZeros_0f7a4_49 (by decide) ?_
        refine lv_icmp_lt (tgt := 61) hx hb dJ6_numberOfLeadingZeros_0f7a4_51 (by decide) (fun c_35 => ?_) (fun c_35 => ?_)
        · (try simp only [i_lt, i_le, i_eq, T16] at c_35)
          refine lv_iload_n hx hb dJ6_numberOfLeadingZeros_0f7a4_61 rfl (lv_at hl 0 rfl) ?_
          refine lv_iconst (v := 4) hx hb dJ6_numberOfLeadingZeros_0f7a4_62 (by decide) ?_
          refine lv_icmp_lt (tgt := 73) hx hb dJ6_numberOfLeadingZeros_0f7a4_63 (by decide) (fun c_36 => ?_) (fun c_36 => ?_)
          · (try simp only [i_lt, i_le, i_eq, T4] at c_36)
            refine lv_iload_n hx hb dJ6_numberOfLeadingZeros_0f7a4_73 rfl (lv_at hl 1 rfl) ?_
            refine lv_iload_n hx hb dJ6_numberOfLeadingZeros_0f7a4_74 rfl (lv_at hl 0 rfl) ?_
            refine lv_iconst (v := 1) hx hb dJ6_numberOfLeadingZeros_0f7a4_75 (by decide) ?_
            refine lv_iushr hx hb dJ6_numberOfLeadingZeros_0f7a4_76 rfl ?_
            refine lv_topi (fun y_37 ey_37 => ?_)
            clear ey_37
            refine lv_isub hx hb dJ6_numberOfLeadingZeros_0f7a4_77 ?_
            refine lv_topi (fun y_38 ey_38 => ?_)
            have ty_38 := isubF ey_38
            simp only [T15] at ty_38
            clear ey_38
            exact W.iret (v := y_38) hx hb hr (fun t ht hW => ⟨y_38, rfl, trivial, ht⟩) (fun q h => absurd h List.not_mem_nil) dJ6_numberOfLeadingZeros_0f7a4_78
          · (try simp only [i_lt, i_le, i_eq, T4] at c_36)
            refine lv_iinc (v := 13) (lv' := [(1, .int 13), (0, .int y_33)]) hx hb dJ6_numberOfLeadingZeros_0f7a4_66 hl (k := 1) rfl (by decide) (by decide) rfl (fun ls hl => ?_)
            refine lv_iload_n hx hb dJ6_numberOfLeadingZeros_0f7a4_69 rfl (lv_at hl 1 rfl) ?_
            refine lv_iconst (v := 2) hx hb dJ6_numberOfLeadingZeros_0f7a4_70 (by decide) ?_
            refine lv_iushr hx hb dJ6_numberOfLeadingZeros_0f7a4_71 rfl ?_
            refine lv_topi (fun y_39 ey_39 => ?_)
            clear ey_39
            refine lv_istore_n (lv' := [(0, .int y_39), (1, .int 13)]) hx hb dJ6_numberOfLeadingZeros_0f7a4_72 rfl hl (by decide) rfl (fun ls hl => ?_)
            refine lv_iload_n hx hb dJ6_numberOfLeadingZeros_0f7a4_73 rfl (lv_at hl 1 rfl) ?_
            refine lv_iload_n hx hb dJ6_numberOfLeadingZeros_0f7a4_74 rfl (lv_at hl 0 rfl) ?_
            refine lv_iconst (v := 1) hx hb dJ6_numberOfLeadingZeros_0f7a4_75 (by decide) ?_
            refine lv_iushr hx hb dJ6_numberOfLeadingZeros_0f7a4_76 rfl ?_
            refine lv_topi (fun y_40 ey_40 => ?_)
            clear ey_40
            refine lv_isub hx hb dJ6_numberOfLeadingZeros_0f7a4_77 ?_
            refine lv_topi (fun y_41 ey_41 => ?_)
            have ty_41 := isubF ey_41
            simp only [T13] at ty_41
            clear ey_41
            exact W.iret (v := y_41) hx hb hr (fun t ht hW => ⟨y_41, rfl, trivial, ht⟩) (fun q h => absurd h List.not_mem_nil) dJ6_numberOfLeadingZeros_0f7a4_78
        · (try simp only [i_lt, i_le, i_eq, T16] at c_35)
          refine lv_iinc (v := 11) (lv' := [(1, .int 11), (0, .int y_33)]) hx hb dJ6_numberOfLeadingZeros_0f7a4_54 hl (k := 1) rfl (by decide) (by decide) rfl (fun ls hl => ?_)
          refine lv_iload_n hx hb dJ6_numberOfLeadingZeros_0f7a4_57 rfl (lv_at hl 1 rfl) ?_
          refine lv_iconst (v := 4) hx hb dJ6_numberOfLeadingZeros_0f7a4_58 (by decide) ?_
          refine lv_iushr hx hb dJ6_numberOfLeadingZeros_0f7a4_59 rfl ?_
          refine lv_topi (fun y_42 ey_42 => ?_)
          clear ey_42
          refine lv_istore_n (lv' := [(0, .int y_42), (1, .int 11)]) hx hb dJ6_numberOfLeadingZeros_0f7a4_60 rfl hl (by decide) rfl (fun ls hl => ?_)
          refine lv_iload_n hx hb dJ6_numberOfLeadingZeros_0f7a4_61 rfl (lv_at hl 0 rfl) ?_
          refine lv_iconst (v := 4) hx hb dJ6_numberOfLeadingZeros_0f7a4_62 (by decide) ?_
          refine lv_icmp_lt (tgt := 73) hx hb dJ6_numberOfLeadingZeros_0f7a4_63 (by decide) (fun c_43 => ?_) (fun c_43 => ?_)
          · (try simp only [i_lt, i_le, i_eq, T4] at c_43)
            refine lv_iload_n hx hb dJ6_numberOfLeadingZeros_0f7a4_73 rfl (lv_at hl 1 rfl) ?_
            refine lv_iload_n hx hb dJ6_numberOfLeadingZeros_0f7a4_74 rfl (lv_at hl 0 rfl) ?_
            refine lv_iconst (v := 1) hx hb dJ6_numberOfLeadingZeros_0f7a4_75 (by decide) ?_
            refine lv_iushr hx hb dJ6_numberOfLeadingZeros_0f7a4_76 rfl ?_
            refine lv_topi (fun y_44 ey_44 => ?_)
            clear ey_44
            refine lv_isub hx hb dJ6_numberOfLeadingZeros_0f7a4_77 ?_
            refine lv_topi (fun y_45 ey_45 => ?_)
            have ty_45 := isubF ey_45
            simp only [T11] at ty_45
            clear ey_45
            exact W.iret (v := y_45) hx hb hr (fun t ht hW => ⟨y_45, rfl, trivial, ht⟩) (fun q h => absurd h List.not_mem_nil) dJ6_numberOfLeadingZeros_0f7a4_78
          · (try simp only [i_lt, i_le, i_eq, T4] at c_43)
            refine lv_iinc (v := 9) (lv' := [(1, .int 9), (0, .int y_42)]) hx hb dJ6_numberOfLeadingZeros_0f7a4_66 hl (k := 1) rfl (by decide) (by decide) rfl (fun ls hl => ?_)
            refine lv_iload_n hx hb dJ6_numberOfLeadingZeros_0f7a4_69 rfl (lv_at hl 1 rfl) ?_
            refine lv_iconst (v := 2) hx hb dJ6_numberOfLeadingZeros_0f7a4_70 (by decide) ?_
            refine lv_iushr hx hb dJ6_numberOfLeadingZeros_0f7a4_71 rfl ?_
            refine lv_topi (fun y_46 ey_46 => ?_)
            clear ey_46
            refine lv_istore_n (lv' := [(0, .int y_46), (1, .int 9)]) hx hb dJ6_numberOfLeadingZeros_0f7a4_72 rfl hl (by decide) rfl (fun ls hl => ?_)
            refine lv_iload_n hx hb dJ6_numberOfLeadingZeros_0f7a4_73 rfl (lv_at hl 1 rfl) ?_
            refine lv_iload_n hx hb dJ6_numberOfLeadingZeros_0f7a4_74 rfl (lv_at hl 0 rfl) ?_
            refine lv_iconst (v := 1) hx hb dJ6_numberOfLeadingZeros_0f7a4_75 (by decide) ?_
            refine lv_iushr hx hb dJ6_numberOfLeadingZeros_0f7a4_76 rfl ?_
            refine lv_topi (fun y_47 ey_47 => ?_)
            clear ey_47
            refine lv_isub hx hb dJ6_numberOfLeadingZeros_0f7a4_77 ?_
            refine lv_topi (fun y_48 ey_48 => ?_)
            have ty_48 := isubF ey_48
            simp only [T9] at ty_48
            clear ey_48
            exact W.iret (v := y_48) hx hb hr (fun t ht hW => ⟨y_48, rfl, trivial, ht⟩) (fun q h => absurd h List.not_mem_nil) dJ6_numberOfLeadingZeros_0f7a4_78
      · (try simp only [i_lt, i_le, i_eq, T256] at c_34)
        refine lv_iinc (v := 7) (lv' := [(1, .int 7), (0, .int y_33)]) hx hb dJ6_numberOfLeadingZeros_0f7a4_40 hl (k := 1) rfl (by decide) (by decide) rfl (fun ls hl => ?_)
        refine lv_iload_n hx hb dJ6_numberOfLeadingZeros_0f7a4_43 rfl (lv_at hl 1 rfl) ?_
        refine lv_bipush (v := 8) hx hb dJ6_numberOfLeadingZeros_0f7a4_44 (by decide) ?_
        refine lv_iushr hx hb dJ6_numberOfLeadingZeros_0f7a4_46 rfl ?_
        refine lv_topi (fun y_49 ey_49 => ?_)
        clear ey_49
        refine lv_istore_n (lv' := [(0, .int y_49), (1, .int 7)]) hx hb dJ6_numberOfLeadingZeros_0f7a4_47 rfl hl (by decide) rfl (fun ls hl => ?_)
        refine lv_iload_n hx hb dJ6_numberOfLeadingZeros_0f7a4_48 rfl (lv_at hl 0 rfl) ?_
        refine lv_bipush (v := 16) hx hb dJ6_numberOfLeadingZeros_0f7a4_49 (by decide) ?_
        refine lv_icmp_lt (tgt := 61) hx hb dJ6_numberOfLeadingZeros_0f7a4_51 (by decide) (fun c_50 => ?_) (fun c_50 => ?_)
        · (try simp only [i_lt, i_le, i_eq, T16] at c_50)
          refine lv_iload_n hx hb dJ6_numberOfLeadingZeros_0f7a4_61 rfl (lv_at hl 0 rfl) ?_
          refine lv_iconst (v := 4) hx hb dJ6_numberOfLeadingZeros_0f7a4_62 (by decide) ?_
          refine lv_icmp_lt (tgt := 73) hx hb dJ6_numberOfLeadingZeros_0f7a4_63 (by decide) (fun c_51 => ?_) (fun c_51 => ?_)
          · (try simp only [i_lt, i_le, i_eq, T4] at c_51)
            refine lv_iload_n hx hb dJ6_numberOfLeadingZeros_0f7a4_73 rfl (lv_at hl 1 rfl) ?_
            refine lv_iload_n hx hb dJ6_numberOfLeadingZeros_0f7a4_74 rfl (lv_at hl 0 rfl) ?_
            refine lv_iconst (v := 1) hx hb dJ6_numberOfLeadingZeros_0f7a4_75 (by decide) ?_
            refine lv_iushr hx hb dJ6_numberOfLeadingZeros_0f7a4_76 rfl ?_
            refine lv_topi (fun y_52 ey_52 => ?_)
            clear ey_52
            refine lv_isub hx hb dJ6_numberOfLeadingZeros_0f7a4_77 ?_
            refine lv_topi (fun y_53 ey_53 => ?_)
            have ty_53 := isubF ey_53
            simp only [T7] at ty_53
            clear ey_53
            exact W.iret (v := y_53) hx hb hr (fun t ht hW => ⟨y_53, rfl, trivial, ht⟩) (fun q h => absurd h List.not_mem_nil) dJ6_numberOfLeadingZeros_0f7a4_78
          · (try simp only [i_lt, i_le, i_eq, T4] at c_51)
            refine lv_iinc (v := 5) (lv' := [(1, .int 5), (0, .int y_49)]) hx hb dJ6_numberOfLeadingZeros_0f7a4_66 hl (k := 1) rfl (by decide) (by decide) rfl (fun ls hl => ?_)
            refine lv_iload_n hx hb dJ6_numberOfLeadingZeros_0f7a4_69 rfl (lv_at hl 1 rfl) ?_
            refine lv_iconst (v := 2) hx hb dJ6_numberOfLeadingZeros_0f7a4_70 (by decide) ?_
            refine lv_iushr hx hb dJ6_numberOfLeadingZeros_0f7a4_71 rfl ?_
            refine lv_topi (fun y_54 ey_54 => ?_)
            clear ey_54
            refine lv_istore_n (lv' := [(0, .int y_54), (1, .int 5)]) hx hb dJ6_numberOfLeadingZeros_0f7a4_72 rfl hl (by decide) rfl (fun ls hl => ?_)
            refine lv_iload_n hx hb dJ6_numberOfLeadingZeros_0f7a4_73 rfl (lv_at hl 1 rfl) ?_
            refine lv_iload_n hx hb dJ6_numberOfLeadingZeros_0f7a4_74 rfl (lv_at hl 0 rfl) ?_
            refine lv_iconst (v := 1) hx hb dJ6_numberOfLeadingZeros_0f7a4_75 (by decide) ?_
            refine lv_iushr hx hb dJ6_numberOfLeadingZeros_0f7a4_76 rfl ?_
            refine lv_topi (fun y_55 ey_55 => ?_)
            clear ey_55
            refine lv_isub hx hb dJ6_numberOfLeadingZeros_0f7a4_77 ?_
            refine lv_topi (fun y_56 ey_56 => ?_)
            have ty_56 := isubF ey_56
            simp only [T5] at ty_56
            clear ey_56
            exact W.iret (v := y_56) hx hb hr (fun t ht hW => ⟨y_56, rfl, trivial, ht⟩) (fun q h => absurd h List.not_mem_nil) dJ6_numberOfLeadingZeros_0f7a4_78
        · (try simp only [i_lt, i_le, i_eq, T16] at c_50)
          refine lv_iinc (v := 3) (lv' := [(1, .int 3), (0, .int y_49)]) hx hb dJ6_numberOfLeadingZeros_0f7a4_54 hl (k := 1) rfl (by decide) (by decide) rfl (fun ls hl => ?_)
          refine lv_iload_n hx hb dJ6_numberOfLeadingZeros_0f7a4_57 rfl (lv_at hl 1 rfl) ?_
          refine lv_iconst (v := 4) hx hb dJ6_numberOfLeadingZeros_0f7a4_58 (by decide) ?_
          refine lv_iushr hx hb dJ6_numberOfLeadingZeros_0f7a4_59 rfl ?_
          refine lv_topi (fun y_57 ey_57 => ?_)
          clear ey_57
          refine lv_istore_n (lv' := [(0, .int y_57), (1, .int 3)]) hx hb dJ6_numberOfLeadingZeros_0f7a4_60 rfl hl (by decide) rfl (fun ls hl => ?_)
          refine lv_iload_n hx hb dJ6_numberOfLeadingZeros_0f7a4_61 rfl (lv_at hl 0 rfl) ?_
          refine lv_iconst (v := 4) hx hb dJ6_numberOfLeadingZeros_0f7a4_62 (by decide) ?_
          refine lv_icmp_lt (tgt := 73) hx hb dJ6_numberOfLeadingZeros_0f7a4_63 (by decide) (fun c_58 => ?_) (fun c_58 => ?_)
          · (try simp only [i_lt, i_le, i_eq, T4] at c_58)
            refine lv_iload_n hx hb dJ6_numberOfLeadingZeros_0f7a4_73 rfl (lv_at hl 1 rfl) ?_
            refine lv_iload_n hx hb dJ6_numberOfLeadingZeros_0f7a4_74 rfl (lv_at hl 0 rfl) ?_
            refine lv_iconst (v := 1) hx hb dJ6_numberOfLeadingZeros_0f7a4_75 (by decide) ?_
            refine lv_iushr hx hb dJ6_numberOfLeadingZeros_0f7a4_76 rfl ?_
            refine lv_topi (fun y_59 ey_59 => ?_)
            clear ey_59
            refine lv_isub hx hb dJ6_numberOfLeadingZeros_0f7a4_77 ?_
            refine lv_topi (fun y_60 ey_60 => ?_)
            have ty_60 := isubF ey_60
            simp only [T3] at ty_60
            clear ey_60
            exact W.iret (v := y_60) hx hb hr (fun t ht hW => ⟨y_60, rfl, trivial, ht⟩) (fun q h => absurd h List.not_mem_nil) dJ6_numberOfLeadingZeros_0f7a4_78
          · (try simp only [i_lt, i_le, i_eq, T4] at c_58)
            refine lv_iinc (v := 1) (lv' := [(1, .int 1), (0, .int y_57)]) hx hb dJ6_numberOfLeadingZeros_0f7a4_66 hl (k := 1) rfl (by decide) (by decide) rfl (fun ls hl => ?_)
            refine lv_iload_n hx hb dJ6_numberOfLeadingZeros_0f7a4_69 rfl (lv_at hl 1 rfl) ?_
            refine lv_iconst (v := 2) hx hb dJ6_numberOfLeadingZeros_0f7a4_70 (by decide) ?_
            refine lv_iushr hx hb dJ6_numberOfLeadingZeros_0f7a4_71 rfl ?_
            refine lv_topi (fun y_61 ey_61 => ?_)
            clear ey_61
            refine lv_istore_n (lv' := [(0, .int y_61), (1, .int 1)]) hx hb dJ6_numberOfLeadingZeros_0f7a4_72 rfl hl (by decide) rfl (fun ls hl => ?_)
            refine lv_iload_n hx hb dJ6_numberOfLeadingZeros_0f7a4_73 rfl (lv_at hl 1 rfl) ?_
            refine lv_iload_n hx hb dJ6_numberOfLeadingZeros_0f7a4_74 rfl (lv_at hl 0 rfl) ?_
            refine lv_iconst (v := 1) hx hb dJ6_numberOfLeadingZeros_0f7a4_75 (by decide) ?_
            refine lv_iushr hx hb dJ6_numberOfLeadingZeros_0f7a4_76 rfl ?_
            refine lv_topi (fun y_62 ey_62 => ?_)
            clear ey_62
            refine lv_isub hx hb dJ6_numberOfLeadingZeros_0f7a4_77 ?_
            refine lv_topi (fun y_63 ey_63 => ?_)
            have ty_63 := isubF ey_63
            simp only [T1] at ty_63
            clear ey_63
            exact W.iret (v := y_63) hx hb hr (fun t ht hW => ⟨y_63, rfl, trivial, ht⟩) (fun q h => absurd h List.not_mem_nil) dJ6_numberOfLeadingZeros_0f7a4_78
  · (try simp only [i_lt, i_le, i_eq, T0] at c_1)
    refine lv_iload_n hx hb dJ6_numberOfLeadingZeros_0f7a4_4 rfl (lv_at hl 0 rfl) ?_
    refine lv_if_ne (tgt := 13) hx hb dJ6_numberOfLeadingZeros_0f7a4_5 (by decide) (fun c_64 => ?_) (fun c_64 => ?_)
    · (try simp only [i_lt, i_le, i_eq, T0] at c_64)
      refine lv_iconst (v := 0) hx hb dJ6_numberOfLeadingZeros_0f7a4_13 (by decide) ?_
      exact W.iret (v := 0) hx hb hr (fun t ht hW => ⟨0, rfl, trivial, ht⟩) (fun q h => absurd h List.not_mem_nil) dJ6_numberOfLeadingZeros_0f7a4_14
    · (try simp only [i_lt, i_le, i_eq, T0] at c_64)
      refine lv_bipush (v := 32) hx hb dJ6_numberOfLeadingZeros_0f7a4_8 (by decide) ?_
      refine lv_goto (tgt := 14) hx hb dJ6_numberOfLeadingZeros_0f7a4_10 (by decide) ?_
      exact W.iret (v := 32) hx hb hr (fun t ht hW => ⟨32, rfl, trivial, ht⟩) (fun q h => absurd h List.not_mem_nil) dJ6_numberOfLeadingZeros_0f7a4_14
set_option maxHeartbeats 8000000 in
set_option maxRecDepth 100000 in
theorem s_X8_hasBit (l : Launch) (dC : Nat → ClassId) (dI : Nat → Nat → Nat) (cB cI cJ cZ cL : ClassId) (a : Nat → Nat)  (p0 : Int32) (p1 : Int32)  : Met l yX8_hasBit (wy yX8_hasBit cX8_hasBit 2 (some .boolean)) ({ frames := 0, cells := 0, slots := 0, locals := 0 }) (va_Pc [.int p0, .int p1] (fun U => va_P (dC, dI) vwCl [] U.heap ∧ va_K (dC, dI) vwCl (tyL cB cI cJ cZ cL) U ∧ NW U)) (vp_Si (fun r => True)) 0 0 (fun _ => False) := by
  refine Met.ofW (cc := cX8_hasBit) (maxL := 2) (ret := (some .boolean)) (by decide) rfl ?_
  intro p e s m args below meth c s₁ B hml hv
  obtain ⟨rfl, hP, hK, hN⟩ := hv
  have hx := B.exec
  have hb := B.bytes
  have hr := B.returns
  have ht : ∀ w ∈ lw_ok, w.before _ s = true := fun w h => atoms_spec (ws := wy yX8_hasBit cX8_hasBit 2 (some .boolean)) B.pre w (List.mem_cons_of_mem _ h)
  have hown : s.vm.findClass RX8 = some m.cls := findClass_of_methodNamed B.named
  have hlocks := B.notSynchronized
  have hl := lv_entry ([.int p0, .int p1]) (n := 2) (Nat.le_of_ble_eq_true rfl)
  rw [lg_entry_eq]
  generalize (lg_sl ([.int p0, .int p1]) ++ List.replicate (2 - (lg_sl ([.int p0, .int p1])).length) Slot.unset).toArray = ls at hl ⊢
  have hl : lv_has ls 2 [(0, .int p0), (1, .int p1)] := hl
  have hP : va_P (dC, dI) vwCl [] s.heap := hP
  have rg_p0 := rgI p0
  have rg_p1 := rgI p1
  refine lv_iload_n hx hb dX8_hasBit_0 rfl (lv_at hl 0 rfl) ?_
  refine lv_iload_n hx hb dX8_hasBit_1 rfl (lv_at hl 1 rfl) ?_
  refine lv_ishr hx hb dX8_hasBit_2 ?_
  refine lv_topi (fun y_1 ey_1 => ?_)
  clear ey_1
  refine lv_iconst (v := 1) hx hb dX8_hasBit_3 (by decide) ?_
  refine lv_iand hx hb dX8_hasBit_4 ?_
  refine lv_topi (fun y_2 ey_2 => ?_)
  have ty_2 := iandF (m := 1) ey_2 (by decide)
  simp only [T1] at ty_2
  clear ey_2
  refine lv_iconst (v := 1) hx hb dX8_hasBit_5 (by decide) ?_
  refine lv_icmp_ne (tgt := 13) hx hb dX8_hasBit_6 (by decide) (fun c_3 => ?_) (fun c_3 => ?_)
  · (try simp only [i_lt, i_le, i_eq, T1] at c_3)
    refine lv_iconst (v := 0) hx hb dX8_hasBit_13 (by decide) ?_
    exact W.zret (v := 0) hx hb hr (rfl) (fun t ht hW => ⟨0, rfl, trivial, ht⟩) (fun q h => absurd h List.not_mem_nil) dX8_hasBit_14
  · (try simp only [i_lt, i_le, i_eq, T1] at c_3)
    refine lv_iconst (v := 1) hx hb dX8_hasBit_9 (by decide) ?_
    refine lv_goto (tgt := 14) hx hb dX8_hasBit_10 (by decide) ?_
    exact W.zret (v := 1) hx hb hr (rfl) (fun t ht hW => ⟨1, rfl, trivial, ht⟩) (fun q h => absurd h List.not_mem_nil) dX8_hasBit_14
set_option maxHeartbeats 8000000 in
set_option maxRecDepth 100000 in
theorem s_X8_isTold (l : Launch) (dC : Nat → ClassId) (dI : Nat → Nat → Nat) (cB cI cJ cZ cL : ClassId) (a : Nat → Nat) (fk : Int32) (fp : Int32) (n_lines : Int32) (n_days : Int32) (n_law : Int32) (n_odds : Int32) (n_volts : Int32) (n_spans : Int32) (n_wetLines : Int32) (n_wet : Int32) (n_acts : Int32)   : Met l yX8_isTold (wy yX8_isTold cX8_isTold 1 (some .boolean)) ({ frames := 0, cells := 0, slots := 0, locals := 0 }) (va_Pc [.ref (a 0)] (fun U => va_P (dC, dI) vwCl [((a 0), .inr (8, [.ref (a 1), .ref (a 2), .ref (a 3), .ref (a 4), .ref (a 5), .ref (a 6), .ref (a 7), .ref (a 8), .ref (a 9), .ref (a 10), .ref (a 11), .ref (a 12), .ref (a 13), .ref (a 14), .int fk, .int fp])), ((a 4), .inr (2, [.int n_lines, .int n_days, .int n_law, .int n_odds, .int n_volts, .int n_spans, .int n_wetLines, .int n_wet, .int n_acts, .ref (a 19), .ref (a 20), .ref (a 21), .ref (a 22), .ref (a 23), .ref (a 24), .ref (a 25), .ref (a 26)]))] U.heap ∧ va_K (dC, dI) vwCl (tyL cB cI cJ cZ cL) U ∧ NW U)) (vp_Si (fun r => (r = 1 ∧ (0 < Int32.toInt n_lines)) ∨ (r = 0 ∧ ¬ (0 < Int32.toInt n_lines)))) 0 0 (fun _ => False) := by
  refine Met.ofW (cc := cX8_isTold) (maxL := 1) (ret := (some .boolean)) (by decide) rfl ?_
  intro p e s m args below meth c s₁ B hml hv
  obtain ⟨rfl, hP, hK, hN⟩ := hv
  have hx := B.exec
  have hb := B.bytes
  have hr := B.returns
  have ht : ∀ w ∈ lw_ok, w.before _ s = true := fun w h => atoms_spec (ws := wy yX8_isTold cX8_isTold 1 (some .boolean)) B.pre w (List.mem_cons_of_mem _ h)
  have hown : s.vm.findClass RX8 = some m.cls := findClass_of_methodNamed B.named
  have hlocks := B.notSynchronized
  have hl := lv_entry ([.ref (a 0)]) (n := 1) (Nat.le_of_ble_eq_true rfl)
  rw [lg_entry_eq]
  generalize (lg_sl ([.ref (a 0)]) ++ List.replicate (1 - (lg_sl ([.ref (a 0)])).length) Slot.unset).toArray = ls at hl ⊢
  have hl : lv_has ls 1 [(0, .ref (a 0))] := hl
  have hP : va_P (dC, dI) vwCl [((a 0), .inr (8, [.ref (a 1), .ref (a 2), .ref (a 3), .ref (a 4), .ref (a 5), .ref (a 6), .ref (a 7), .ref (a 8), .ref (a 9), .ref (a 10), .ref (a 11), .ref (a 12), .ref (a 13), .ref (a 14), .int fk, .int fp])), ((a 4), .inr (2, [.int n_lines, .int n_days, .int n_law, .int n_odds, .int n_volts, .int n_spans, .int n_wetLines, .int n_wet, .int n_acts, .ref (a 19), .ref (a 20), .ref (a 21), .ref (a 22), .ref (a 23), .ref (a 24), .ref (a 25), .ref (a 26)]))] s.heap := hP
  refine lv_aload_n hx hb dX8_isTold_0 rfl (lv_at hl 0 rfl) ?_
  refine va_get (D := (dC, dI)) (ci := 8) (v := .ref (a 4)) (C := RX8) (T := TX8) (N := 16) hx hb ht iX8 hown hK hP 0 rfl rfl 3 (by decide) (ht _ w_378) (fun _ h9 => h9) rfl dX8_isTold_1 ?_
  refine va_get (D := (dC, dI)) (ci := 2) (v := .int n_lines) (C := RX2) (T := TX2) (N := 17) hx hb ht iX2 hown hK hP 1 rfl rfl 0 (by decide) (ht _ w_203) (fun _ h9 => h9) rfl dX8_isTold_4 ?_
  refine lv_if_le (tgt := 14) hx hb dX8_isTold_7 (by decide) (fun c_1 => ?_) (fun c_1 => ?_)
  · (try simp only [i_lt, i_le, i_eq, T0] at c_1)
    refine lv_iconst (v := 0) hx hb dX8_isTold_14 (by decide) ?_
    exact W.zret (v := 0) hx hb hr (rfl) (fun t ht hW => ⟨0, rfl, (by first | exact Or.inl ⟨rfl, by omega⟩ | exact Or.inr ⟨rfl, by omega⟩), ht⟩) (fun q h => absurd h List.not_mem_nil) dX8_isTold_15
  · (try simp only [i_lt, i_le, i_eq, T0] at c_1)
    refine lv_iconst (v := 1) hx hb dX8_isTold_10 (by decide) ?_
    refine lv_goto (tgt := 15) hx hb dX8_isTold_11 (by decide) ?_
    exact W.zret (v := 1) hx hb hr (rfl) (fun t ht hW => ⟨1, rfl, (by first | exact Or.inl ⟨rfl, by omega⟩ | exact Or.inr ⟨rfl, by omega⟩), ht⟩) (fun q h => absurd h List.not_mem_nil) dX8_isTold_15
set_option maxHeartbeats 8000000 in
set_option maxRecDepth 100000 in
theorem s_X8_isPart (l : Launch) (dC : Nat → ClassId) (dI : Nat → Nat → Nat) (cB cI cJ cZ cL : ClassId) (a : Nat → Nat)  (p0 : Int32)  : Met l yX8_isPart (wy yX8_isPart cX8_isPart 1 (some .boolean)) ({ frames := 0, cells := 0, slots := 0, locals := 0 }) (va_Pc [.int p0] (fun U => va_P (dC, dI) vwCl [] U.heap ∧ va_K (dC, dI) vwCl (tyL cB cI cJ cZ cL) U ∧ NW U)) (vp_Si (fun r => (r = 1 ∧ (0 ≤ Int32.toInt p0 ∧ Int32.toInt p0 ≤ 1)) ∨ (r = 0 ∧ ¬ (0 ≤ Int32.toInt p0 ∧ Int32.toInt p0 ≤ 1)))) 0 0 (fun _ => False) := by
  refine Met.ofW (cc := cX8_isPart) (maxL := 1) (ret := (some .boolean)) (by decide) rfl ?_
  intro p e s m args below meth c s₁ B hml hv
  obtain ⟨rfl, hP, hK, hN⟩ := hv
  have hx := B.exec
  have hb := B.bytes
  have hr := B.returns
  have ht : ∀ w ∈ lw_ok, w.before _ s = true := fun w h => atoms_spec (ws := wy yX8_isPart cX8_isPart 1 (some .boolean)) B.pre w (List.mem_cons_of_mem _ h)
  have hown : s.vm.findClass RX8 = some m.cls := findClass_of_methodNamed B.named
  have hlocks := B.notSynchronized
  have hl := lv_entry ([.int p0]) (n := 1) (Nat.le_of_ble_eq_true rfl)
  rw [lg_entry_eq]
  generalize (lg_sl ([.int p0]) ++ List.replicate (1 - (lg_sl ([.int p0])).length) Slot.unset).toArray = ls at hl ⊢
  have hl : lv_has ls 1 [(0, .int p0)] := hl
  have hP : va_P (dC, dI) vwCl [] s.heap := hP
  have rg_p0 := rgI p0
  refine lv_iload_n hx hb dX8_isPart_0 rfl (lv_at hl 0 rfl) ?_
  refine lv_if_eq (tgt := 9) hx hb dX8_isPart_1 (by decide) (fun c_1 => ?_) (fun c_1 => ?_)
  · (try simp only [i_lt, i_le, i_eq, T0] at c_1)
    refine lv_iconst (v := 1) hx hb dX8_isPart_9 (by decide) ?_
    refine lv_goto (tgt := 14) hx hb dX8_isPart_10 (by decide) ?_
    exact W.zret (v := 1) hx hb hr (rfl) (fun t ht hW => ⟨1, rfl, (by first | exact Or.inl ⟨rfl, by omega⟩ | exact Or.inr ⟨rfl, by omega⟩), ht⟩) (fun q h => absurd h List.not_mem_nil) dX8_isPart_14
  · (try simp only [i_lt, i_le, i_eq, T0] at c_1)
    refine lv_iload_n hx hb dX8_isPart_4 rfl (lv_at hl 0 rfl) ?_
    refine lv_iconst (v := 1) hx hb dX8_isPart_5 (by decide) ?_
    refine lv_icmp_ne (tgt := 13) hx hb dX8_isPart_6 (by decide) (fun c_2 => ?_) (fun c_2 => ?_)
    · (try simp only [i_lt, i_le, i_eq, T1] at c_2)
      refine lv_iconst (v := 0) hx hb dX8_isPart_13 (by decide) ?_
      exact W.zret (v := 0) hx hb hr (rfl) (fun t ht hW => ⟨0, rfl, (by first | exact Or.inl ⟨rfl, by omega⟩ | exact Or.inr ⟨rfl, by omega⟩), ht⟩) (fun q h => absurd h List.not_mem_nil) dX8_isPart_14
    · (try simp only [i_lt, i_le, i_eq, T1] at c_2)
      refine lv_iconst (v := 1) hx hb dX8_isPart_9 (by decide) ?_
      refine lv_goto (tgt := 14) hx hb dX8_isPart_10 (by decide) ?_
      exact W.zret (v := 1) hx hb hr (rfl) (fun t ht hW => ⟨1, rfl, (by first | exact Or.inl ⟨rfl, by omega⟩ | exact Or.inr ⟨rfl, by omega⟩), ht⟩) (fun q h => absurd h List.not_mem_nil) dX8_isPart_14
set_option maxHeartbeats 8000000 in
set_option maxRecDepth 100000 in
theorem s_X8_isSeed (l : Launch) (dC : Nat → ClassId) (dI : Nat → Nat → Nat) (cB cI cJ cZ cL : ClassId) (a : Nat → Nat)  (p0 : Int32)  : Met l yX8_isSeed (wy yX8_isSeed cX8_isSeed 1 (some .boolean)) ({ frames := 0, cells := 0, slots := 0, locals := 0 }) (va_Pc [.int p0] (fun U => va_P (dC, dI) vwCl [] U.heap ∧ va_K (dC, dI) vwCl (tyL cB cI cJ cZ cL) U ∧ NW U)) (vp_Si (fun r => (r = 1 ∧ (0 ≤ Int32.toInt p0 ∧ Int32.toInt p0 ≤ 2000000000)) ∨ (r = 0 ∧ ¬ (0 ≤ Int32.toInt p0 ∧ Int32.toInt p0 ≤ 2000000000)))) 0 0 (fun _ => False) := by
  refine Met.ofW (cc := cX8_isSeed) (maxL := 1) (ret := (some .boolean)) (by decide) rfl ?_
  intro p e s m args below meth c s₁ B hml hv
  obtain ⟨rfl, hP, hK, hN⟩ := hv
  have hx := B.exec
  have hb := B.bytes
  have hr := B.returns
  have ht : ∀ w ∈ lw_ok, w.before _ s = true := fun w h => atoms_spec (ws := wy yX8_isSeed cX8_isSeed 1 (some .boolean)) B.pre w (List.mem_cons_of_mem _ h)
  have hown : s.vm.findClass RX8 = some m.cls := findClass_of_methodNamed B.named
  have hlocks := B.notSynchronized
  have hl := lv_entry ([.int p0]) (n := 1) (Nat.le_of_ble_eq_true rfl)
  rw [lg_entry_eq]
  generalize (lg_sl ([.int p0]) ++ List.replicate (1 - (lg_sl ([.int p0])).length) Slot.unset).toArray = ls at hl ⊢
  have hl : lv_has ls 1 [(0, .int p0)] := hl
  have hP : va_P (dC, dI) vwCl [] s.heap := hP
  have rg_p0 := rgI p0
  refine lv_iload_n hx hb dX8_isSeed_0 rfl (lv_at hl 0 rfl) ?_
  refine lv_if_lt (tgt := 15) hx hb dX8_isSeed_1 (by decide) (fun c_1 => ?_) (fun c_1 => ?_)
  · (try simp only [i_lt, i_le, i_eq, T0] at c_1)
    refine lv_iconst (v := 0) hx hb dX8_isSeed_15 (by decide) ?_
    exact W.zret (v := 0) hx hb hr (rfl) (fun t ht hW => ⟨0, rfl, (by first | exact Or.inl ⟨rfl, by omega⟩ | exact Or.inr ⟨rfl, by omega⟩), ht⟩) (fun q h => absurd h List.not_mem_nil) dX8_isSeed_16
  · (try simp only [i_lt, i_le, i_eq, T0] at c_1)
    refine lv_iload_n hx hb dX8_isSeed_4 rfl (lv_at hl 0 rfl) ?_
    refine lv_ldcw hx hb hown (ht _ w_1179) dX8_isSeed_5 ?_
    refine lv_icmp_gt (tgt := 15) hx hb dX8_isSeed_8 (by decide) (fun c_2 => ?_) (fun c_2 => ?_)
    · (try simp only [i_lt, i_le, i_eq, T2000000000] at c_2)
      refine lv_iconst (v := 0) hx hb dX8_isSeed_15 (by decide) ?_
      exact W.zret (v := 0) hx hb hr (rfl) (fun t ht hW => ⟨0, rfl, (by first | exact Or.inl ⟨rfl, by omega⟩ | exact Or.inr ⟨rfl, by omega⟩), ht⟩) (fun q h => absurd h List.not_mem_nil) dX8_isSeed_16
    · (try simp only [i_lt, i_le, i_eq, T2000000000] at c_2)
      refine lv_iconst (v := 1) hx hb dX8_isSeed_11 (by decide) ?_
      refine lv_goto (tgt := 16) hx hb dX8_isSeed_12 (by decide) ?_
      exact W.zret (v := 1) hx hb hr (rfl) (fun t ht hW => ⟨1, rfl, (by first | exact Or.inl ⟨rfl, by omega⟩ | exact Or.inr ⟨rfl, by omega⟩), ht⟩) (fun q h => absurd h List.not_mem_nil) dX8_isSeed_16
set_option maxHeartbeats 8000000 in
set_option maxRecDepth 100000 in
theorem s_X8_isSlot (l : Launch) (dC : Nat → ClassId) (dI : Nat → Nat → Nat) (cB cI cJ cZ cL : ClassId) (a : Nat → Nat)  (p0 : Int32)  : Met l yX8_isSlot (wy yX8_isSlot cX8_isSlot 1 (some .boolean)) ({ frames := 0, cells := 0, slots := 0, locals := 0 }) (va_Pc [.int p0] (fun U => va_P (dC, dI) vwCl [] U.heap ∧ va_K (dC, dI) vwCl (tyL cB cI cJ cZ cL) U ∧ NW U)) (vp_Si (fun r => (r = 1 ∧ (0 ≤ Int32.toInt p0 ∧ Int32.toInt p0 ≤ 3)) ∨ (r = 0 ∧ ¬ (0 ≤ Int32.toInt p0 ∧ Int32.toInt p0 ≤ 3)))) 0 0 (fun _ => False) := by
  refine Met.ofW (cc := cX8_isSlot) (maxL := 1) (ret := (some .boolean)) (by decide) rfl ?_
  intro p e s m args below meth c s₁ B hml hv
  obtain ⟨rfl, hP, hK, hN⟩ := hv
  have hx := B.exec
  have hb := B.bytes
  have hr := B.returns
  have ht : ∀ w ∈ lw_ok, w.before _ s = true := fun w h => atoms_spec (ws := wy yX8_isSlot cX8_isSlot 1 (some .boolean)) B.pre w (List.mem_cons_of_mem _ h)
  have hown : s.vm.findClass RX8 = some m.cls := findClass_of_methodNamed B.named
  have hlocks := B.notSynchronized
  have hl := lv_entry ([.int p0]) (n := 1) (Nat.le_of_ble_eq_true rfl)
  rw [lg_entry_eq]
  generalize (lg_sl ([.int p0]) ++ List.replicate (1 - (lg_sl ([.int p0])).length) Slot.unset).toArray = ls at hl ⊢
  have hl : lv_has ls 1 [(0, .int p0)] := hl
  have hP : va_P (dC, dI) vwCl [] s.heap := hP
  have rg_p0 := rgI p0
  refine lv_iload_n hx hb dX8_isSlot_0 rfl (lv_at hl 0 rfl) ?_
  refine lv_if_lt (tgt := 13) hx hb dX8_isSlot_1 (by decide) (fun c_1 => ?_) (fun c_1 => ?_)
  · (try simp only [i_lt, i_le, i_eq, T0] at c_1)
    refine lv_iconst (v := 0) hx hb dX8_isSlot_13 (by decide) ?_
    exact W.zret (v := 0) hx hb hr (rfl) (fun t ht hW => ⟨0, rfl, (by first | exact Or.inl ⟨rfl, by omega⟩ | exact Or.inr ⟨rfl, by omega⟩), ht⟩) (fun q h => absurd h List.not_mem_nil) dX8_isSlot_14
  · (try simp only [i_lt, i_le, i_eq, T0] at c_1)
    refine lv_iload_n hx hb dX8_isSlot_4 rfl (lv_at hl 0 rfl) ?_
    refine lv_iconst (v := 4) hx hb dX8_isSlot_5 (by decide) ?_
    refine lv_icmp_ge (tgt := 13) hx hb dX8_isSlot_6 (by decide) (fun c_2 => ?_) (fun c_2 => ?_)
    · (try simp only [i_lt, i_le, i_eq, T4] at c_2)
      refine lv_iconst (v := 0) hx hb dX8_isSlot_13 (by decide) ?_
      exact W.zret (v := 0) hx hb hr (rfl) (fun t ht hW => ⟨0, rfl, (by first | exact Or.inl ⟨rfl, by omega⟩ | exact Or.inr ⟨rfl, by omega⟩), ht⟩) (fun q h => absurd h List.not_mem_nil) dX8_isSlot_14
    · (try simp only [i_lt, i_le, i_eq, T4] at c_2)
      refine lv_iconst (v := 1) hx hb dX8_isSlot_9 (by decide) ?_
      refine lv_goto (tgt := 14) hx hb dX8_isSlot_10 (by decide) ?_
      exact W.zret (v := 1) hx hb hr (rfl) (fun t ht hW => ⟨1, rfl, (by first | exact Or.inl ⟨rfl, by omega⟩ | exact Or.inr ⟨rfl, by omega⟩), ht⟩) (fun q h => absurd h List.not_mem_nil) dX8_isSlot_14
set_option maxHeartbeats 8000000 in
set_option maxRecDepth 100000 in
theorem s_X8_isPole (l : Launch) (dC : Nat → ClassId) (dI : Nat → Nat → Nat) (cB cI cJ cZ cL : ClassId) (a : Nat → Nat) (fk : Int32) (fp : Int32) (n_lines : Int32) (n_days : Int32) (n_law : Int32) (n_odds : Int32) (n_volts : Int32) (n_spans : Int32) (n_wetLines : Int32) (n_wet : Int32) (n_acts : Int32) (p0 : Int32)  : Met l yX8_isPole (wy yX8_isPole cX8_isPole 2 (some .boolean)) ({ frames := 0, cells := 0, slots := 0, locals := 0 }) (va_Pc [.ref (a 0), .int p0] (fun U => va_P (dC, dI) vwCl [((a 0), .inr (8, [.ref (a 1), .ref (a 2), .ref (a 3), .ref (a 4), .ref (a 5), .ref (a 6), .ref (a 7), .ref (a 8), .ref (a 9), .ref (a 10), .ref (a 11), .ref (a 12), .ref (a 13), .ref (a 14), .int fk, .int fp])), ((a 4), .inr (2, [.int n_lines, .int n_days, .int n_law, .int n_odds, .int n_volts, .int n_spans, .int n_wetLines, .int n_wet, .int n_acts, .ref (a 19), .ref (a 20), .ref (a 21), .ref (a 22), .ref (a 23), .ref (a 24), .ref (a 25), .ref (a 26)]))] U.heap ∧ va_K (dC, dI) vwCl (tyL cB cI cJ cZ cL) U ∧ NW U)) (vp_Si (fun r => (r = 1 ∧ (0 ≤ Int32.toInt p0 ∧ Int32.toInt p0 < Int32.toInt n_spans)) ∨ (r = 0 ∧ ¬ (0 ≤ Int32.toInt p0 ∧ Int32.toInt p0 < Int32.toInt n_spans)))) 0 0 (fun _ => False) := by
  refine Met.ofW (cc := cX8_isPole) (maxL := 2) (ret := (some .boolean)) (by decide) rfl ?_
  intro p e s m args below meth c s₁ B hml hv
  obtain ⟨rfl, hP, hK, hN⟩ := hv
  have hx := B.exec
  have hb := B.bytes
  have hr := B.returns
  have ht : ∀ w ∈ lw_ok, w.before _ s = true := fun w h => atoms_spec (ws := wy yX8_isPole cX8_isPole 2 (some .boolean)) B.pre w (List.mem_cons_of_mem _ h)
  have hown : s.vm.findClass RX8 = some m.cls := findClass_of_methodNamed B.named
  have hlocks := B.notSynchronized
  have hl := lv_entry ([.ref (a 0), .int p0]) (n := 2) (Nat.le_of_ble_eq_true rfl)
  rw [lg_entry_eq]
  generalize (lg_sl ([.ref (a 0), .int p0]) ++ List.replicate (2 - (lg_sl ([.ref (a 0), .int p0])).length) Slot.unset).toArray = ls at hl ⊢
  have hl : lv_has ls 2 [(0, .ref (a 0)), (1, .int p0)] := hl
  have hP : va_P (dC, dI) vwCl [((a 0), .inr (8, [.ref (a 1), .ref (a 2), .ref (a 3), .ref (a 4), .ref (a 5), .ref (a 6), .ref (a 7), .ref (a 8), .ref (a 9), .ref (a 10), .ref (a 11), .ref (a 12), .ref (a 13), .ref (a 14), .int fk, .int fp])), ((a 4), .inr (2, [.int n_lines, .int n_days, .int n_law, .int n_odds, .int n_volts, .int n_spans, .int n_wetLines, .int n_wet, .int n_acts, .ref (a 19), .ref (a 20), .ref (a 21), .ref (a 22), .ref (a 23), .ref (a 24), .ref (a 25), .ref (a 26)]))] s.heap := hP
  have rg_p0 := rgI p0
  refine lv_iload_n hx hb dX8_isPole_0 rfl (lv_at hl 1 rfl) ?_
  refine lv_if_lt (tgt := 19) hx hb dX8_isPole_1 (by decide) (fun c_1 => ?_) (fun c_1 => ?_)
  · (try simp only [i_lt, i_le, i_eq, T0] at c_1)
    refine lv_iconst (v := 0) hx hb dX8_isPole_19 (by decide) ?_
    exact W.zret (v := 0) hx hb hr (rfl) (fun t ht hW => ⟨0, rfl, (by first | exact Or.inl ⟨rfl, by omega⟩ | exact Or.inr ⟨rfl, by omega⟩), ht⟩) (fun q h => absurd h List.not_mem_nil) dX8_isPole_20
  · (try simp only [i_lt, i_le, i_eq, T0] at c_1)
    refine lv_iload_n hx hb dX8_isPole_4 rfl (lv_at hl 1 rfl) ?_
    refine lv_aload_n hx hb dX8_isPole_5 rfl (lv_at hl 0 rfl) ?_
    refine va_get (D := (dC, dI)) (ci := 8) (v := .ref (a 4)) (C := RX8) (T := TX8) (N := 16) hx hb ht iX8 hown hK hP 0 rfl rfl 3 (by decide) (ht _ w_378) (fun _ h9 => h9) rfl dX8_isPole_6 ?_
    refine va_get (D := (dC, dI)) (ci := 2) (v := .int n_spans) (C := RX2) (T := TX2) (N := 17) hx hb ht iX2 hown hK hP 1 rfl rfl 5 (by decide) (ht _ w_221) (fun _ h9 => h9) rfl dX8_isPole_9 ?_
    refine lv_icmp_ge (tgt := 19) hx hb dX8_isPole_12 (by decide) (fun c_2 => ?_) (fun c_2 => ?_)
    · (try simp only [i_lt, i_le, i_eq] at c_2)
      refine lv_iconst (v := 0) hx hb dX8_isPole_19 (by decide) ?_
      exact W.zret (v := 0) hx hb hr (rfl) (fun t ht hW => ⟨0, rfl, (by first | exact Or.inl ⟨rfl, by omega⟩ | exact Or.inr ⟨rfl, by omega⟩), ht⟩) (fun q h => absurd h List.not_mem_nil) dX8_isPole_20
    · (try simp only [i_lt, i_le, i_eq] at c_2)
      refine lv_iconst (v := 1) hx hb dX8_isPole_15 (by decide) ?_
      refine lv_goto (tgt := 20) hx hb dX8_isPole_16 (by decide) ?_
      exact W.zret (v := 1) hx hb hr (rfl) (fun t ht hW => ⟨1, rfl, (by first | exact Or.inl ⟨rfl, by omega⟩ | exact Or.inr ⟨rfl, by omega⟩), ht⟩) (fun q h => absurd h List.not_mem_nil) dX8_isPole_20
set_option maxHeartbeats 8000000 in
set_option maxRecDepth 100000 in
theorem s_X8_isDay (l : Launch) (dC : Nat → ClassId) (dI : Nat → Nat → Nat) (cB cI cJ cZ cL : ClassId) (a : Nat → Nat) (fk : Int32) (fp : Int32) (n_lines : Int32) (n_days : Int32) (n_law : Int32) (n_odds : Int32) (n_volts : Int32) (n_spans : Int32) (n_wetLines : Int32) (n_wet : Int32) (n_acts : Int32) (p0 : Int32)  : Met l yX8_isDay (wy yX8_isDay cX8_isDay 2 (some .boolean)) ({ frames := 1, cells := 0, slots := 0, locals := 40 }) (va_Pc [.ref (a 0), .int p0] (fun U => va_P (dC, dI) vwCl [((a 0), .inr (8, [.ref (a 1), .ref (a 2), .ref (a 3), .ref (a 4), .ref (a 5), .ref (a 6), .ref (a 7), .ref (a 8), .ref (a 9), .ref (a 10), .ref (a 11), .ref (a 12), .ref (a 13), .ref (a 14), .int fk, .int fp])), ((a 4), .inr (2, [.int n_lines, .int n_days, .int n_law, .int n_odds, .int n_volts, .int n_spans, .int n_wetLines, .int n_wet, .int n_acts, .ref (a 19), .ref (a 20), .ref (a 21), .ref (a 22), .ref (a 23), .ref (a 24), .ref (a 25), .ref (a 26)]))] U.heap ∧ va_K (dC, dI) vwCl (tyL cB cI cJ cZ cL) U ∧ NW U)) (vp_Si (fun r => (r = 1 ∧ (0 < Int32.toInt n_lines ∧ 0 ≤ Int32.toInt p0 ∧ Int32.toInt p0 ≤ Int32.toInt n_days)) ∨ (r = 0 ∧ ¬ (0 < Int32.toInt n_lines ∧ 0 ≤ Int32.toInt p0 ∧ Int32.toInt p0 ≤ Int32.toInt n_days)))) 0 0 (fun _ => False) := by
  refine Met.ofW (cc := cX8_isDay) (maxL := 2) (ret := (some .boolean)) (by decide) rfl ?_
  intro p e s m args below meth c s₁ B hml hv
  obtain ⟨rfl, hP, hK, hN⟩ := hv
  have hx := B.exec
  have hb := B.bytes
  have hr := B.returns
  have ht : ∀ w ∈ lw_ok, w.before _ s = true := fun w h => atoms_spec (ws := wy yX8_isDay cX8_isDay 2 (some .boolean)) B.pre w (List.mem_cons_of_mem _ h)
  have hown : s.vm.findClass RX8 = some m.cls := findClass_of_methodNamed B.named
  have hlocks := B.notSynchronized
  have hl := lv_entry ([.ref (a 0), .int p0]) (n := 2) (Nat.le_of_ble_eq_true rfl)
  rw [lg_entry_eq]
  generalize (lg_sl ([.ref (a 0), .int p0]) ++ List.replicate (2 - (lg_sl ([.ref (a 0), .int p0])).length) Slot.unset).toArray = ls at hl ⊢
  have hl : lv_has ls 2 [(0, .ref (a 0)), (1, .int p0)] := hl
  have hP : va_P (dC, dI) vwCl [((a 0), .inr (8, [.ref (a 1), .ref (a 2), .ref (a 3), .ref (a 4), .ref (a 5), .ref (a 6), .ref (a 7), .ref (a 8), .ref (a 9), .ref (a 10), .ref (a 11), .ref (a 12), .ref (a 13), .ref (a 14), .int fk, .int fp])), ((a 4), .inr (2, [.int n_lines, .int n_days, .int n_law, .int n_odds, .int n_volts, .int n_spans, .int n_wetLines, .int n_wet, .int n_acts, .ref (a 19), .ref (a 20), .ref (a 21), .ref (a 22), .ref (a 23), .ref (a 24), .ref (a 25), .ref (a 26)]))] s.heap := hP
  have rg_p0 := rgI p0
  refine lv_aload_n hx hb dX8_isDay_0 rfl (lv_at hl 0 rfl) ?_
  have hPc := hP.sub (ws' := [((a 0), .inr (8, [.ref (a 1), .ref (a 2), .ref (a 3), .ref (a 4), .ref (a 5), .ref (a 6), .ref (a 7), .ref (a 8), .ref (a 9), .ref (a 10), .ref (a 11), .ref (a 12), .ref (a 13), .ref (a 14), .int fk, .int fp])), ((a 4), .inr (2, [.int n_lines, .int n_days, .int n_law, .int n_odds, .int n_volts, .int n_spans, .int n_wetLines, .int n_wet, .int n_acts, .ref (a 19), .ref (a 20), .ref (a 21), .ref (a 22), .ref (a 23), .ref (a 24), .ref (a 25), .ref (a 26)]))]) [0, 1] rfl
  refine vp_callSi (W.runV (As := []) (rest := []) ⟨hx, hb, hml, hown, ht⟩ (s_X8_isTold l dC dI cB cI cJ cZ cL a fk fp n_lines n_days n_law n_odds n_volts n_spans n_wetLines n_wet n_acts) (cwV 0 ht (gV w_617 w_619 w_11 w_105 w_620) rfl rfl rfl (by decide +kernel) ⟨Nat.le_of_ble_eq_true rfl, Nat.le_of_ble_eq_true rfl⟩) (pVSn hN hK hPc (ci := 8) (q0 := 0) rfl rfl) rfl rfl hl.1 rfl (lv_room (Nat.le_of_ble_eq_true rfl)) dX8_isDay_1 ⟨Nat.le_of_ble_eq_true rfl, Nat.le_of_ble_eq_true rfl⟩) (fun r_1 hw => ?_)
  clear hPc
  (try dsimp only at hw)
  have hw_2 := hw
  clear hw
  rcases hw_2 with ⟨hw, c_3⟩ | ⟨hw, c_3⟩
  · subst hw
    refine lv_if_eq (tgt := 26) hx hb dX8_isDay_4 (by decide) (fun c9 => by first | exact absurd c9 (by decide) | exact absurd (by decide) c9) (fun _ => ?_)
    refine lv_iload_n hx hb dX8_isDay_7 rfl (lv_at hl 1 rfl) ?_
    refine lv_if_lt (tgt := 26) hx hb dX8_isDay_8 (by decide) (fun c_4 => ?_) (fun c_4 => ?_)
    · (try simp only [i_lt, i_le, i_eq, T0] at c_4)
      refine lv_iconst (v := 0) hx hb dX8_isDay_26 (by decide) ?_
      exact W.zret (v := 0) hx hb hr (rfl) (fun t ht hW => ⟨0, rfl, (by first | exact Or.inl ⟨rfl, by omega⟩ | exact Or.inr ⟨rfl, by omega⟩), ht⟩) (fun q h => absurd h List.not_mem_nil) dX8_isDay_27
    · (try simp only [i_lt, i_le, i_eq, T0] at c_4)
      refine lv_iload_n hx hb dX8_isDay_11 rfl (lv_at hl 1 rfl) ?_
      refine lv_aload_n hx hb dX8_isDay_12 rfl (lv_at hl 0 rfl) ?_
      refine va_get (D := (dC, dI)) (ci := 8) (v := .ref (a 4)) (C := RX8) (T := TX8) (N := 16) hx hb ht iX8 hown hK hP 0 rfl rfl 3 (by decide) (ht _ w_378) (fun _ h9 => h9) rfl dX8_isDay_13 ?_
      refine va_get (D := (dC, dI)) (ci := 2) (v := .int n_days) (C := RX2) (T := TX2) (N := 17) hx hb ht iX2 hown hK hP 1 rfl rfl 1 (by decide) (ht _ w_206) (fun _ h9 => h9) rfl dX8_isDay_16 ?_
      refine lv_icmp_gt (tgt := 26) hx hb dX8_isDay_19 (by decide) (fun c_5 => ?_) (fun c_5 => ?_)
      · (try simp only [i_lt, i_le, i_eq] at c_5)
        refine lv_iconst (v := 0) hx hb dX8_isDay_26 (by decide) ?_
        exact W.zret (v := 0) hx hb hr (rfl) (fun t ht hW => ⟨0, rfl, (by first | exact Or.inl ⟨rfl, by omega⟩ | exact Or.inr ⟨rfl, by omega⟩), ht⟩) (fun q h => absurd h List.not_mem_nil) dX8_isDay_27
      · (try simp only [i_lt, i_le, i_eq] at c_5)
        refine lv_iconst (v := 1) hx hb dX8_isDay_22 (by decide) ?_
        refine lv_goto (tgt := 27) hx hb dX8_isDay_23 (by decide) ?_
        exact W.zret (v := 1) hx hb hr (rfl) (fun t ht hW => ⟨1, rfl, (by first | exact Or.inl ⟨rfl, by omega⟩ | exact Or.inr ⟨rfl, by omega⟩), ht⟩) (fun q h => absurd h List.not_mem_nil) dX8_isDay_27
  · subst hw
    refine lv_if_eq (tgt := 26) hx hb dX8_isDay_4 (by decide) (fun _ => ?_) (fun c9 => by first | exact absurd (by decide) c9 | exact absurd c9 (by decide))
    refine lv_iconst (v := 0) hx hb dX8_isDay_26 (by decide) ?_
    exact W.zret (v := 0) hx hb hr (rfl) (fun t ht hW => ⟨0, rfl, (by first | exact Or.inl ⟨rfl, by omega⟩ | exact Or.inr ⟨rfl, by omega⟩), ht⟩) (fun q h => absurd h List.not_mem_nil) dX8_isDay_27
set_option maxHeartbeats 8000000 in
set_option maxRecDepth 100000 in
theorem s_X8_isChanceDay (l : Launch) (dC : Nat → ClassId) (dI : Nat → Nat → Nat) (cB cI cJ cZ cL : ClassId) (a : Nat → Nat) (fk : Int32) (fp : Int32) (n_lines : Int32) (n_days : Int32) (n_law : Int32) (n_odds : Int32) (n_volts : Int32) (n_spans : Int32) (n_wetLines : Int32) (n_wet : Int32) (n_acts : Int32) (p0 : Int32)  : Met l yX8_isChanceDay (wy yX8_isChanceDay cX8_isChanceDay 2 (some .boolean)) ({ frames := 2, cells := 0, slots := 0, locals := 80 }) (va_Pc [.ref (a 0), .int p0] (fun U => va_P (dC, dI) vwCl [((a 0), .inr (8, [.ref (a 1), .ref (a 2), .ref (a 3), .ref (a 4), .ref (a 5), .ref (a 6), .ref (a 7), .ref (a 8), .ref (a 9), .ref (a 10), .ref (a 11), .ref (a 12), .ref (a 13), .ref (a 14), .int fk, .int fp])), ((a 4), .inr (2, [.int n_lines, .int n_days, .int n_law, .int n_odds, .int n_volts, .int n_spans, .int n_wetLines, .int n_wet, .int n_acts, .ref (a 19), .ref (a 20), .ref (a 21), .ref (a 22), .ref (a 23), .ref (a 24), .ref (a 25), .ref (a 26)]))] U.heap ∧ va_K (dC, dI) vwCl (tyL cB cI cJ cZ cL) U ∧ NW U)) (vp_Si (fun r => (r = 1 ∧ (0 < Int32.toInt n_lines ∧ 0 ≤ Int32.toInt p0 ∧ Int32.toInt p0 ≤ Int32.toInt n_days ∧ Int32.toInt p0 ≤ 7)) ∨ (r = 0 ∧ ¬ (0 < Int32.toInt n_lines ∧ 0 ≤ Int32.toInt p0 ∧ Int32.toInt p0 ≤ Int32.toInt n_days ∧ Int32.toInt p0 ≤ 7)))) 0 0 (fun _ => False) := by
  refine Met.ofW (cc := cX8_isChanceDay) (maxL := 2) (ret := (some .boolean)) (by decide) rfl ?_
  intro p e s m args below meth c s₁ B hml hv
  obtain ⟨rfl, hP, hK, hN⟩ := hv
  have hx := B.exec
  have hb := B.bytes
  have hr := B.returns
  have ht : ∀ w ∈ lw_ok, w.before _ s = true := fun w h => atoms_spec (ws := wy yX8_isChanceDay cX8_isChanceDay 2 (some .boolean)) B.pre w (List.mem_cons_of_mem _ h)
  have hown : s.vm.findClass RX8 = some m.cls := findClass_of_methodNamed B.named
  have hlocks := B.notSynchronized
  have hl := lv_entry ([.ref (a 0), .int p0]) (n := 2) (Nat.le_of_ble_eq_true rfl)
  rw [lg_entry_eq]
  generalize (lg_sl ([.ref (a 0), .int p0]) ++ List.replicate (2 - (lg_sl ([.ref (a 0), .int p0])).length) Slot.unset).toArray = ls at hl ⊢
  have hl : lv_has ls 2 [(0, .ref (a 0)), (1, .int p0)] := hl
  have hP : va_P (dC, dI) vwCl [((a 0), .inr (8, [.ref (a 1), .ref (a 2), .ref (a 3), .ref (a 4), .ref (a 5), .ref (a 6), .ref (a 7), .ref (a 8), .ref (a 9), .ref (a 10), .ref (a 11), .ref (a 12), .ref (a 13), .ref (a 14), .int fk, .int fp])), ((a 4), .inr (2, [.int n_lines, .int n_days, .int n_law, .int n_odds, .int n_volts, .int n_spans, .int n_wetLines, .int n_wet, .int n_acts, .ref (a 19), .ref (a 20), .ref (a 21), .ref (a 22), .ref (a 23), .ref (a 24), .ref (a 25), .ref (a 26)]))] s.heap := hP
  have rg_p0 := rgI p0
  refine lv_aload_n hx hb dX8_isChanceDay_0 rfl (lv_at hl 0 rfl) ?_
  refine lv_iload_n hx hb dX8_isChanceDay_1 rfl (lv_at hl 1 rfl) ?_
  have hPc := hP.sub (ws' := [((a 0), .inr (8, [.ref (a 1), .ref (a 2), .ref (a 3), .ref (a 4), .ref (a 5), .ref (a 6), .ref (a 7), .ref (a 8), .ref (a 9), .ref (a 10), .ref (a 11), .ref (a 12), .ref (a 13), .ref (a 14), .int fk, .int fp])), ((a 4), .inr (2, [.int n_lines, .int n_days, .int n_law, .int n_odds, .int n_volts, .int n_spans, .int n_wetLines, .int n_wet, .int n_acts, .ref (a 19), .ref (a 20), .ref (a 21), .ref (a 22), .ref (a 23), .ref (a 24), .ref (a 25), .ref (a 26)]))]) [0, 1] rfl
  refine vp_callSi (W.runV (As := [.int p0]) (rest := []) ⟨hx, hb, hml, hown, ht⟩ (s_X8_isDay l dC dI cB cI cJ cZ cL a fk fp n_lines n_days n_law n_odds n_volts n_spans n_wetLines n_wet n_acts p0) (cwV 1 ht (gV w_633 w_635 w_12 w_105 w_636) rfl rfl rfl (by decide +kernel) ⟨Nat.le_of_ble_eq_true rfl, Nat.le_of_ble_eq_true rfl⟩) (pVSn hN hK hPc (ci := 8) (q0 := 0) rfl rfl) rfl rfl hl.1 rfl (lv_room (Nat.le_of_ble_eq_true rfl)) dX8_isChanceDay_2 ⟨Nat.le_of_ble_eq_true rfl, Nat.le_of_ble_eq_true rfl⟩) (fun r_1 hw => ?_)
  clear hPc
  (try dsimp only at hw)
  have hw_2 := hw
  clear hw
  rcases hw_2 with ⟨hw, c_3⟩ | ⟨hw, c_3⟩
  · subst hw
    refine lv_if_eq (tgt := 18) hx hb dX8_isChanceDay_5 (by decide) (fun c9 => by first | exact absurd c9 (by decide) | exact absurd (by decide) c9) (fun _ => ?_)
    refine lv_iload_n hx hb dX8_isChanceDay_8 rfl (lv_at hl 1 rfl) ?_
    refine lv_bipush (v := 7) hx hb dX8_isChanceDay_9 (by decide) ?_
    refine lv_icmp_gt (tgt := 18) hx hb dX8_isChanceDay_11 (by decide) (fun c_4 => ?_) (fun c_4 => ?_)
    · (try simp only [i_lt, i_le, i_eq, T7] at c_4)
      refine lv_iconst (v := 0) hx hb dX8_isChanceDay_18 (by decide) ?_
      exact W.zret (v := 0) hx hb hr (rfl) (fun t ht hW => ⟨0, rfl, (by first | exact Or.inl ⟨rfl, by omega⟩ | exact Or.inr ⟨rfl, by omega⟩), ht⟩) (fun q h => absurd h List.not_mem_nil) dX8_isChanceDay_19
    · (try simp only [i_lt, i_le, i_eq, T7] at c_4)
      refine lv_iconst (v := 1) hx hb dX8_isChanceDay_14 (by decide) ?_
      refine lv_goto (tgt := 19) hx hb dX8_isChanceDay_15 (by decide) ?_
      exact W.zret (v := 1) hx hb hr (rfl) (fun t ht hW => ⟨1, rfl, (by first | exact Or.inl ⟨rfl, by omega⟩ | exact Or.inr ⟨rfl, by omega⟩), ht⟩) (fun q h => absurd h List.not_mem_nil) dX8_isChanceDay_19
  · subst hw
    refine lv_if_eq (tgt := 18) hx hb dX8_isChanceDay_5 (by decide) (fun _ => ?_) (fun c9 => by first | exact absurd (by decide) c9 | exact absurd c9 (by decide))
    refine lv_iconst (v := 0) hx hb dX8_isChanceDay_18 (by decide) ?_
    exact W.zret (v := 0) hx hb hr (rfl) (fun t ht hW => ⟨0, rfl, (by first | exact Or.inl ⟨rfl, by omega⟩ | exact Or.inr ⟨rfl, by omega⟩), ht⟩) (fun q h => absurd h List.not_mem_nil) dX8_isChanceDay_19
set_option maxHeartbeats 8000000 in
set_option maxRecDepth 100000 in
theorem s_X8_isStation (l : Launch) (dC : Nat → ClassId) (dI : Nat → Nat → Nat) (cB cI cJ cZ cL : ClassId) (a : Nat → Nat) (fk : Int32) (fp : Int32) (n_lines : Int32) (n_days : Int32) (n_law : Int32) (n_odds : Int32) (n_volts : Int32) (n_spans : Int32) (n_wetLines : Int32) (n_wet : Int32) (n_acts : Int32) (n_a_needs : Nat → Int32) (p0 : Int32) (hsp : 0 ≤ Int32.toInt n_spans ∧ Int32.toInt n_spans ≤ 5) : Met l yX8_isStation (wy yX8_isStation cX8_isStation 2 (some .boolean)) ({ frames := 1, cells := 0, slots := 0, locals := 40 }) (va_Pc [.ref (a 0), .int p0] (fun U => va_P (dC, dI) vwCl [((a 0), .inr (8, [.ref (a 1), .ref (a 2), .ref (a 3), .ref (a 4), .ref (a 5), .ref (a 6), .ref (a 7), .ref (a 8), .ref (a 9), .ref (a 10), .ref (a 11), .ref (a 12), .ref (a 13), .ref (a 14), .int fk, .int fp])), ((a 4), .inr (2, [.int n_lines, .int n_days, .int n_law, .int n_odds, .int n_volts, .int n_spans, .int n_wetLines, .int n_wet, .int n_acts, .ref (a 19), .ref (a 20), .ref (a 21), .ref (a 22), .ref (a 23), .ref (a 24), .ref (a 25), .ref (a 26)])), ((a 21), .inl (cI, 5, .inl n_a_needs))] U.heap ∧ va_K (dC, dI) vwCl (tyL cB cI cJ cZ cL) U ∧ NW U)) (vp_Si (fun r => (r = 1 ∧ (0 ≤ Int32.toInt p0 ∧ Int32.toInt p0 < Int32.toInt n_spans)) ∨ r = 0)) 0 0 (fun _ => False) := by
  refine Met.ofW (cc := cX8_isStation) (maxL := 2) (ret := (some .boolean)) (by decide) rfl ?_
  intro p e s m args below meth c s₁ B hml hv
  obtain ⟨rfl, hP, hK, hN⟩ := hv
  have hx := B.exec
  have hb := B.bytes
  have hr := B.returns
  have ht : ∀ w ∈ lw_ok, w.before _ s = true := fun w h => atoms_spec (ws := wy yX8_isStation cX8_isStation 2 (some .boolean)) B.pre w (List.mem_cons_of_mem _ h)
  have hown : s.vm.findClass RX8 = some m.cls := findClass_of_methodNamed B.named
  have hlocks := B.notSynchronized
  have hl := lv_entry ([.ref (a 0), .int p0]) (n := 2) (Nat.le_of_ble_eq_true rfl)
  rw [lg_entry_eq]
  generalize (lg_sl ([.ref (a 0), .int p0]) ++ List.replicate (2 - (lg_sl ([.ref (a 0), .int p0])).length) Slot.unset).toArray = ls at hl ⊢
  have hl : lv_has ls 2 [(0, .ref (a 0)), (1, .int p0)] := hl
  have hP : va_P (dC, dI) vwCl [((a 0), .inr (8, [.ref (a 1), .ref (a 2), .ref (a 3), .ref (a 4), .ref (a 5), .ref (a 6), .ref (a 7), .ref (a 8), .ref (a 9), .ref (a 10), .ref (a 11), .ref (a 12), .ref (a 13), .ref (a 14), .int fk, .int fp])), ((a 4), .inr (2, [.int n_lines, .int n_days, .int n_law, .int n_odds, .int n_volts, .int n_spans, .int n_wetLines, .int n_wet, .int n_acts, .ref (a 19), .ref (a 20), .ref (a 21), .ref (a 22), .ref (a 23), .ref (a 24), .ref (a 25), .ref (a 26)])), ((a 21), .inl (cI, 5, .inl n_a_needs))] s.heap := hP
  have rg_p0 := rgI p0
  refine lv_aload_n hx hb dX8_isStation_0 rfl (lv_at hl 0 rfl) ?_
  refine lv_iload_n hx hb dX8_isStation_1 rfl (lv_at hl 1 rfl) ?_
  have hPc := hP.sub (ws' := [((a 0), .inr (8, [.ref (a 1), .ref (a 2), .ref (a 3), .ref (a 4), .ref (a 5), .ref (a 6), .ref (a 7), .ref (a 8), .ref (a 9), .ref (a 10), .ref (a 11), .ref (a 12), .ref (a 13), .ref (a 14), .int fk, .int fp])), ((a 4), .inr (2, [.int n_lines, .int n_days, .int n_law, .int n_odds, .int n_volts, .int n_spans, .int n_wetLines, .int n_wet, .int n_acts, .ref (a 19), .ref (a 20), .ref (a 21), .ref (a 22), .ref (a 23), .ref (a 24), .ref (a 25), .ref (a 26)]))]) [0, 1] rfl
  refine vp_callSi (W.runV (As := [.int p0]) (rest := []) ⟨hx, hb, hml, hown, ht⟩ (s_X8_isPole l dC dI cB cI cJ cZ cL a fk fp n_lines n_days n_law n_odds n_volts n_spans n_wetLines n_wet n_acts p0) (cwV 1 ht (gV w_609 w_611 w_10 w_105 w_612) rfl rfl rfl (by decide +kernel) ⟨Nat.le_of_ble_eq_true rfl, Nat.le_of_ble_eq_true rfl⟩) (pVSn hN hK hPc (ci := 8) (q0 := 0) rfl rfl) rfl rfl hl.1 rfl (lv_room (Nat.le_of_ble_eq_true rfl)) dX8_isStation_2 ⟨Nat.le_of_ble_eq_true rfl, Nat.le_of_ble_eq_true rfl⟩) (fun r_1 hw => ?_)
  clear hPc
  (try dsimp only at hw)
  have hw_2 := hw
  clear hw
  rcases hw_2 with ⟨hw, c_3⟩ | ⟨hw, c_3⟩
  · subst hw
    refine lv_if_eq (tgt := 25) hx hb dX8_isStation_5 (by decide) (fun c9 => by first | exact absurd c9 (by decide) | exact absurd (by decide) c9) (fun _ => ?_)
    refine lv_aload_n hx hb dX8_isStation_8 rfl (lv_at hl 0 rfl) ?_
    refine va_get (D := (dC, dI)) (ci := 8) (v := .ref (a 4)) (C := RX8) (T := TX8) (N := 16) hx hb ht iX8 hown hK hP 0 rfl rfl 3 (by decide) (ht _ w_378) (fun _ h9 => h9) rfl dX8_isStation_9 ?_
    refine va_get (D := (dC, dI)) (ci := 2) (v := .ref (a 21)) (C := RX2) (T := TX2) (N := 17) hx hb ht iX2 hown hK hP 1 rfl rfl 11 (by decide) (ht _ w_241) (fun _ h9 => h9) rfl dX8_isStation_12 ?_
    refine lv_iload_n hx hb dX8_isStation_15 rfl (lv_at hl 1 rfl) ?_
    refine va_iald hx hb hK hP 2 1 rfl rfl (vp_in_iff.mpr (by omega)) dX8_isStation_16 ?_
    refine lv_topi (fun y_4 ey_4 => ?_)
    refine lv_iconst (v := (-1)) hx hb dX8_isStation_17 (by decide) ?_
    refine lv_icmp_eq (tgt := 25) hx hb dX8_isStation_18 (by decide) (fun c_5 => ?_) (fun c_5 => ?_)
    · (try simp only [i_lt, i_le, i_eq, Tm1] at c_5)
      refine lv_iconst (v := 0) hx hb dX8_isStation_25 (by decide) ?_
      exact W.zret (v := 0) hx hb hr (rfl) (fun t ht hW => ⟨0, rfl, (by first | exact Or.inl ⟨rfl, by omega⟩ | exact Or.inr rfl), ht⟩) (fun q h => absurd h List.not_mem_nil) dX8_isStation_26
    · (try simp only [i_lt, i_le, i_eq, Tm1] at c_5)
      refine lv_iconst (v := 1) hx hb dX8_isStation_21 (by decide) ?_
      refine lv_goto (tgt := 26) hx hb dX8_isStation_22 (by decide) ?_
      exact W.zret (v := 1) hx hb hr (rfl) (fun t ht hW => ⟨1, rfl, (by first | exact Or.inl ⟨rfl, by omega⟩ | exact Or.inr rfl), ht⟩) (fun q h => absurd h List.not_mem_nil) dX8_isStation_26
  · subst hw
    refine lv_if_eq (tgt := 25) hx hb dX8_isStation_5 (by decide) (fun _ => ?_) (fun c9 => by first | exact absurd (by decide) c9 | exact absurd c9 (by decide))
    refine lv_iconst (v := 0) hx hb dX8_isStation_25 (by decide) ?_
    exact W.zret (v := 0) hx hb hr (rfl) (fun t ht hW => ⟨0, rfl, (by first | exact Or.inl ⟨rfl, by omega⟩ | exact Or.inr rfl), ht⟩) (fun q h => absurd h List.not_mem_nil) dX8_isStation_26
set_option maxHeartbeats 8000000 in
set_option maxRecDepth 100000 in
theorem s_X8_allDays (l : Launch) (dC : Nat → ClassId) (dI : Nat → Nat → Nat) (cB cI cJ cZ cL : ClassId) (a : Nat → Nat) (fk : Int32) (fp : Int32) (n_lines : Int32) (n_days : Int32) (n_law : Int32) (n_odds : Int32) (n_volts : Int32) (n_spans : Int32) (n_wetLines : Int32) (n_wet : Int32) (n_acts : Int32)   : Met l yX8_allDays (wy yX8_allDays cX8_allDays 1 (some .int)) ({ frames := 0, cells := 0, slots := 0, locals := 0 }) (va_Pc [.ref (a 0)] (fun U => va_P (dC, dI) vwCl [((a 0), .inr (8, [.ref (a 1), .ref (a 2), .ref (a 3), .ref (a 4), .ref (a 5), .ref (a 6), .ref (a 7), .ref (a 8), .ref (a 9), .ref (a 10), .ref (a 11), .ref (a 12), .ref (a 13), .ref (a 14), .int fk, .int fp])), ((a 4), .inr (2, [.int n_lines, .int n_days, .int n_law, .int n_odds, .int n_volts, .int n_spans, .int n_wetLines, .int n_wet, .int n_acts, .ref (a 19), .ref (a 20), .ref (a 21), .ref (a 22), .ref (a 23), .ref (a 24), .ref (a 25), .ref (a 26)]))] U.heap ∧ va_K (dC, dI) vwCl (tyL cB cI cJ cZ cL) U ∧ NW U)) (vp_Si (fun r => True)) 0 0 (fun _ => False) := by
  refine Met.ofW (cc := cX8_allDays) (maxL := 1) (ret := (some .int)) (by decide) rfl ?_
  intro p e s m args below meth c s₁ B hml hv
  obtain ⟨rfl, hP, hK, hN⟩ := hv
  have hx := B.exec
  have hb := B.bytes
  have hr := B.returns
  have ht : ∀ w ∈ lw_ok, w.before _ s = true := fun w h => atoms_spec (ws := wy yX8_allDays cX8_allDays 1 (some .int)) B.pre w (List.mem_cons_of_mem _ h)
  have hown : s.vm.findClass RX8 = some m.cls := findClass_of_methodNamed B.named
  have hlocks := B.notSynchronized
  have hl := lv_entry ([.ref (a 0)]) (n := 1) (Nat.le_of_ble_eq_true rfl)
  rw [lg_entry_eq]
  generalize (lg_sl ([.ref (a 0)]) ++ List.replicate (1 - (lg_sl ([.ref (a 0)])).length) Slot.unset).toArray = ls at hl ⊢
  have hl : lv_has ls 1 [(0, .ref (a 0))] := hl
  have hP : va_P (dC, dI) vwCl [((a 0), .inr (8, [.ref (a 1), .ref (a 2), .ref (a 3), .ref (a 4), .ref (a 5), .ref (a 6), .ref (a 7), .ref (a 8), .ref (a 9), .ref (a 10), .ref (a 11), .ref (a 12), .ref (a 13), .ref (a 14), .int fk, .int fp])), ((a 4), .inr (2, [.int n_lines, .int n_days, .int n_law, .int n_odds, .int n_volts, .int n_spans, .int n_wetLines, .int n_wet, .int n_acts, .ref (a 19), .ref (a 20), .ref (a 21), .ref (a 22), .ref (a 23), .ref (a 24), .ref (a 25), .ref (a 26)]))] s.heap := hP
  refine lv_iconst (v := 1) hx hb dX8_allDays_0 (by decide) ?_
  refine lv_aload_n hx hb dX8_allDays_1 rfl (lv_at hl 0 rfl) ?_
  refine va_get (D := (dC, dI)) (ci := 8) (v := .ref (a 4)) (C := RX8) (T := TX8) (N := 16) hx hb ht iX8 hown hK hP 0 rfl rfl 3 (by decide) (ht _ w_378) (fun _ h9 => h9) rfl dX8_allDays_2 ?_
  refine va_get (D := (dC, dI)) (ci := 2) (v := .int n_days) (C := RX2) (T := TX2) (N := 17) hx hb ht iX2 hown hK hP 1 rfl rfl 1 (by decide) (ht _ w_206) (fun _ h9 => h9) rfl dX8_allDays_5 ?_
  refine lv_iconst (v := 1) hx hb dX8_allDays_8 (by decide) ?_
  refine lv_iadd hx hb dX8_allDays_9 ?_
  refine lv_topi (fun y_1 ey_1 => ?_)
  have ty_1 := iaddF ey_1
  simp only [T1] at ty_1
  clear ey_1
  refine lv_ishl hx hb dX8_allDays_10 ?_
  refine lv_topi (fun y_2 ey_2 => ?_)
  have ty_2 := shl1F ey_2
  clear ey_2
  refine lv_iconst (v := 1) hx hb dX8_allDays_11 (by decide) ?_
  refine lv_isub hx hb dX8_allDays_12 ?_
  refine lv_topi (fun y_3 ey_3 => ?_)
  have ty_3 := isubF ey_3
  simp only [T1] at ty_3
  clear ey_3
  exact W.iret (v := y_3) hx hb hr (fun t ht hW => ⟨y_3, rfl, trivial, ht⟩) (fun q h => absurd h List.not_mem_nil) dX8_allDays_13
set_option maxHeartbeats 8000000 in
set_option maxRecDepth 100000 in
theorem s_X8_allPoles (l : Launch) (dC : Nat → ClassId) (dI : Nat → Nat → Nat) (cB cI cJ cZ cL : ClassId) (a : Nat → Nat) (fk : Int32) (fp : Int32) (n_lines : Int32) (n_days : Int32) (n_law : Int32) (n_odds : Int32) (n_volts : Int32) (n_spans : Int32) (n_wetLines : Int32) (n_wet : Int32) (n_acts : Int32)  (hsp : 0 ≤ Int32.toInt n_spans ∧ Int32.toInt n_spans ≤ 5) : Met l yX8_allPoles (wy yX8_allPoles cX8_allPoles 1 (some .int)) ({ frames := 0, cells := 0, slots := 0, locals := 0 }) (va_Pc [.ref (a 0)] (fun U => va_P (dC, dI) vwCl [((a 0), .inr (8, [.ref (a 1), .ref (a 2), .ref (a 3), .ref (a 4), .ref (a 5), .ref (a 6), .ref (a 7), .ref (a 8), .ref (a 9), .ref (a 10), .ref (a 11), .ref (a 12), .ref (a 13), .ref (a 14), .int fk, .int fp])), ((a 4), .inr (2, [.int n_lines, .int n_days, .int n_law, .int n_odds, .int n_volts, .int n_spans, .int n_wetLines, .int n_wet, .int n_acts, .ref (a 19), .ref (a 20), .ref (a 21), .ref (a 22), .ref (a 23), .ref (a 24), .ref (a 25), .ref (a 26)]))] U.heap ∧ va_K (dC, dI) vwCl (tyL cB cI cJ cZ cL) U ∧ NW U)) (vp_Si (fun r => 0 ≤ Int32.toInt r ∧ Int32.toInt r ≤ 31)) 0 0 (fun _ => False) := by
  refine Met.ofW (cc := cX8_allPoles) (maxL := 1) (ret := (some .int)) (by decide) rfl ?_
  intro p e s m args below meth c s₁ B hml hv
  obtain ⟨rfl, hP, hK, hN⟩ := hv
  have hx := B.exec
  have hb := B.bytes
  have hr := B.returns
  have ht : ∀ w ∈ lw_ok, w.before _ s = true := fun w h => atoms_spec (ws := wy yX8_allPoles cX8_allPoles 1 (some .int)) B.pre w (List.mem_cons_of_mem _ h)
  have hown : s.vm.findClass RX8 = some m.cls := findClass_of_methodNamed B.named
  have hlocks := B.notSynchronized
  have hl := lv_entry ([.ref (a 0)]) (n := 1) (Nat.le_of_ble_eq_true rfl)
  rw [lg_entry_eq]
  generalize (lg_sl ([.ref (a 0)]) ++ List.replicate (1 - (lg_sl ([.ref (a 0)])).length) Slot.unset).toArray = ls at hl ⊢
  have hl : lv_has ls 1 [(0, .ref (a 0))] := hl
  have hP : va_P (dC, dI) vwCl [((a 0), .inr (8, [.ref (a 1), .ref (a 2), .ref (a 3), .ref (a 4), .ref (a 5), .ref (a 6), .ref (a 7), .ref (a 8), .ref (a 9), .ref (a 10), .ref (a 11), .ref (a 12), .ref (a 13), .ref (a 14), .int fk, .int fp])), ((a 4), .inr (2, [.int n_lines, .int n_days, .int n_law, .int n_odds, .int n_volts, .int n_spans, .int n_wetLines, .int n_wet, .int n_acts, .ref (a 19), .ref (a 20), .ref (a 21), .ref (a 22), .ref (a 23), .ref (a 24), .ref (a 25), .ref (a 26)]))] s.heap := hP
  refine lv_iconst (v := 1) hx hb dX8_allPoles_0 (by decide) ?_
  refine lv_aload_n hx hb dX8_allPoles_1 rfl (lv_at hl 0 rfl) ?_
  refine va_get (D := (dC, dI)) (ci := 8) (v := .ref (a 4)) (C := RX8) (T := TX8) (N := 16) hx hb ht iX8 hown hK hP 0 rfl rfl 3 (by decide) (ht _ w_378) (fun _ h9 => h9) rfl dX8_allPoles_2 ?_
  refine va_get (D := (dC, dI)) (ci := 2) (v := .int n_spans) (C := RX2) (T := TX2) (N := 17) hx hb ht iX2 hown hK hP 1 rfl rfl 5 (by decide) (ht _ w_221) (fun _ h9 => h9) rfl dX8_allPoles_5 ?_
  refine lv_ishl hx hb dX8_allPoles_8 ?_
  refine lv_topi (fun y_1 ey_1 => ?_)
  have ty_1 := shl1F ey_1
  clear ey_1
  refine lv_iconst (v := 1) hx hb dX8_allPoles_9 (by decide) ?_
  refine lv_isub hx hb dX8_allPoles_10 ?_
  refine lv_topi (fun y_2 ey_2 => ?_)
  have ty_2 := isubF ey_2
  simp only [T1] at ty_2
  clear ey_2
  exact W.iret (v := y_2) hx hb hr (fun t ht hW => ⟨y_2, rfl, (by first | omega | assumption | exact ⟨by first | omega | assumption, by first | omega | assumption⟩), ht⟩) (fun q h => absurd h List.not_mem_nil) dX8_allPoles_11
set_option maxHeartbeats 8000000 in
set_option maxRecDepth 100000 in
theorem s_X8_highestBit (l : Launch) (dC : Nat → ClassId) (dI : Nat → Nat → Nat) (cB cI cJ cZ cL : ClassId) (a : Nat → Nat)  (p0 : Int32)  : Met l yX8_highestBit (wy yX8_highestBit cX8_highestBit 1 (some .int)) ({ frames := 1, cells := 0, slots := 0, locals := 40 }) (va_Pc [.int p0] (fun U => va_P (dC, dI) vwCl [] U.heap ∧ va_K (dC, dI) vwCl (tyL cB cI cJ cZ cL) U ∧ NW U)) (vp_Si (fun r => True)) 0 0 (fun _ => False) := by
  refine Met.ofW (cc := cX8_highestBit) (maxL := 1) (ret := (some .int)) (by decide) rfl ?_
  intro p e s m args below meth c s₁ B hml hv
  obtain ⟨rfl, hP, hK, hN⟩ := hv
  have hx := B.exec
  have hb := B.bytes
  have hr := B.returns
  have ht : ∀ w ∈ lw_ok, w.before _ s = true := fun w h => atoms_spec (ws := wy yX8_highestBit cX8_highestBit 1 (some .int)) B.pre w (List.mem_cons_of_mem _ h)
  have hown : s.vm.findClass RX8 = some m.cls := findClass_of_methodNamed B.named
  have hlocks := B.notSynchronized
  have hl := lv_entry ([.int p0]) (n := 1) (Nat.le_of_ble_eq_true rfl)
  rw [lg_entry_eq]
  generalize (lg_sl ([.int p0]) ++ List.replicate (1 - (lg_sl ([.int p0])).length) Slot.unset).toArray = ls at hl ⊢
  have hl : lv_has ls 1 [(0, .int p0)] := hl
  have hP : va_P (dC, dI) vwCl [] s.heap := hP
  have rg_p0 := rgI p0
  refine lv_iload_n hx hb dX8_highestBit_0 rfl (lv_at hl 0 rfl) ?_
  refine lv_if_ne (tgt := 8) hx hb dX8_highestBit_1 (by decide) (fun c_1 => ?_) (fun c_1 => ?_)
  · (try simp only [i_lt, i_le, i_eq, T0] at c_1)
    refine lv_bipush (v := 31) hx hb dX8_highestBit_8 (by decide) ?_
    refine lv_iload_n hx hb dX8_highestBit_10 rfl (lv_at hl 0 rfl) ?_
    have hPc := hP.sub (ws' := []) [] rfl
    refine vp_callSi (W.runS (As := [.int p0]) (rest := [.int 31]) ⟨hx, hb, hml, hown, ht⟩ (s_J6_numberOfLeadingZeros_0f7a4 l dC dI cB cI cJ cZ cL p0) (va_cwS 1 ht (gQ w_850 w_651 w_122 w_652) rfl rfl rfl (by decide +kernel) ⟨Nat.le_of_ble_eq_true rfl, Nat.le_of_ble_eq_true rfl⟩) (pSSn hN hK hPc) rfl rfl hl.1 rfl (lv_room (Nat.le_of_ble_eq_true rfl)) dX8_highestBit_11 ⟨Nat.le_of_ble_eq_true rfl, Nat.le_of_ble_eq_true rfl⟩) (fun r_2 hw => ?_)
    clear hPc
    clear hw
    refine lv_isub hx hb dX8_highestBit_14 ?_
    refine lv_topi (fun y_3 ey_3 => ?_)
    have ty_3 := isubF ey_3
    simp only [T31] at ty_3
    clear ey_3
    exact W.iret (v := y_3) hx hb hr (fun t ht hW => ⟨y_3, rfl, trivial, ht⟩) (fun q h => absurd h List.not_mem_nil) dX8_highestBit_15
  · (try simp only [i_lt, i_le, i_eq, T0] at c_1)
    refine lv_iconst (v := (-1)) hx hb dX8_highestBit_4 (by decide) ?_
    refine lv_goto (tgt := 15) hx hb dX8_highestBit_5 (by decide) ?_
    exact W.iret (v := (-1)) hx hb hr (fun t ht hW => ⟨(-1), rfl, trivial, ht⟩) (fun q h => absurd h List.not_mem_nil) dX8_highestBit_15
set_option maxHeartbeats 8000000 in
set_option maxRecDepth 100000 in
theorem s_X8_longestRun (l : Launch) (dC : Nat → ClassId) (dI : Nat → Nat → Nat) (cB cI cJ cZ cL : ClassId) (a : Nat → Nat)  (p0 : Int32)  : Met l yX8_longestRun (wy yX8_longestRun cX8_longestRun 4 (some .int)) ({ frames := 1, cells := 0, slots := 0, locals := 40 }) (va_Pc [.int p0] (fun U => va_P (dC, dI) vwCl [] U.heap ∧ va_K (dC, dI) vwCl (tyL cB cI cJ cZ cL) U ∧ NW U)) (vp_Si (fun r => True)) 0 0 (fun _ => False) := by
  refine Met.ofW (cc := cX8_longestRun) (maxL := 4) (ret := (some .int)) (by decide) rfl ?_
  intro p e s m args below meth c s₁ B hml hv
  obtain ⟨rfl, hP, hK, hN⟩ := hv
  have hx := B.exec
  have hb := B.bytes
  have hr := B.returns
  have ht : ∀ w ∈ lw_ok, w.before _ s = true := fun w h => atoms_spec (ws := wy yX8_longestRun cX8_longestRun 4 (some .int)) B.pre w (List.mem_cons_of_mem _ h)
  have hown : s.vm.findClass RX8 = some m.cls := findClass_of_methodNamed B.named
  have hlocks := B.notSynchronized
  have hl := lv_entry ([.int p0]) (n := 4) (Nat.le_of_ble_eq_true rfl)
  rw [lg_entry_eq]
  generalize (lg_sl ([.int p0]) ++ List.replicate (4 - (lg_sl ([.int p0])).length) Slot.unset).toArray = ls at hl ⊢
  have hl : lv_has ls 4 [(0, .int p0)] := hl
  have hP : va_P (dC, dI) vwCl [] s.heap := hP
  have rg_p0 := rgI p0
  refine lv_iconst (v := 0) hx hb dX8_longestRun_0 (by decide) ?_
  refine lv_istore_n (lv' := [(1, .int 0), (0, .int p0)]) hx hb dX8_longestRun_1 rfl hl (by decide) rfl (fun ls hl => ?_)
  refine lv_iconst (v := 0) hx hb dX8_longestRun_2 (by decide) ?_
  refine lv_istore_n (lv' := [(2, .int 0), (1, .int 0), (0, .int p0)]) hx hb dX8_longestRun_3 rfl hl (by decide) rfl (fun ls hl => ?_)
  refine lv_iconst (v := 0) hx hb dX8_longestRun_4 (by decide) ?_
  refine lv_istore_n (lv' := [(3, .int 0), (2, .int 0), (1, .int 0), (0, .int p0)]) hx hb dX8_longestRun_5 rfl hl (by decide) rfl (fun ls hl => ?_)
  have lp_17 : ∀ (d : Nat) (v_6 : Int32) (v_7 : Int32) (v_8 : Int32) (ls : Array Slot), ((0 ≤ Int32.toInt v_8)) → (2147483647 - Int32.toInt v_8).toNat < d → lv_has ls 4 [(3, .int v_8), (2, .int v_7), (1, .int v_6), (0, .int p0)] → W p l e (headSpec (wy yX8_longestRun cX8_longestRun 4 (some .int)) ({ frames := 1, cells := 0, slots := 0, locals := 40 })).room s m ([.int p0] : List Value).toArray below meth c s.heap [] 0 0 (MQ below (vp_Si (fun r => True)) ([.int p0] : List Value).toArray s 0 0 (fun _ => False)) (F0 m 6 ls []) := by
    intro d
    induction d with
    | zero => intro v_6 v_7 v_8  ls hI hM; exact absurd hM (Nat.not_lt_zero _)
    | succ d ih_18 =>
      intro v_6 v_7 v_8 ls hI hM hl
      refine lv_iload_n hx hb dX8_longestRun_6 rfl (lv_at hl 0 rfl) ?_
      refine lv_bipush (v := 14) hx hb dX8_longestRun_7 (by decide) ?_
      refine lv_icmp_ge (tgt := 40) hx hb dX8_longestRun_9 (by decide) (fun c_19 => ?_) (fun c_19 => ?_)
      · (try simp only [i_lt, i_le, i_eq, T14] at c_19)
        refine lv_iload_n hx hb dX8_longestRun_40 rfl (lv_at hl 2 rfl) ?_
        exact W.iret (v := v_6) hx hb hr (fun t ht hW => ⟨v_6, rfl, trivial, ht⟩) (fun q h => absurd h List.not_mem_nil) dX8_longestRun_41
      · (try simp only [i_lt, i_le, i_eq, T14] at c_19)
        refine lv_iload_n hx hb dX8_longestRun_12 rfl (lv_at hl 3 rfl) ?_
        refine lv_iload_n hx hb dX8_longestRun_13 rfl (lv_at hl 0 rfl) ?_
        have hPc := hP.sub (ws' := []) [] rfl
        refine vp_callSi (W.runS (As := [.int p0, .int v_8]) (rest := []) ⟨hx, hb, hml, hown, ht⟩ (s_X8_hasBit l dC dI cB cI cJ cZ cL a p0 v_8) (va_cwS 2 ht (gQ w_810 w_655 w_105 w_656) rfl rfl rfl (by decide +kernel) ⟨Nat.le_of_ble_eq_true rfl, Nat.le_of_ble_eq_true rfl⟩) (pSSn hN hK hPc) rfl rfl hl.1 rfl (lv_room (Nat.le_of_ble_eq_true rfl)) dX8_longestRun_14 ⟨Nat.le_of_ble_eq_true rfl, Nat.le_of_ble_eq_true rfl⟩) (fun r_20 hw => ?_)
        clear hPc
        clear hw
        refine lv_if_eq (tgt := 26) hx hb dX8_longestRun_17 (by decide) (fun c_21 => ?_) (fun c_21 => ?_)
        · (try simp only [i_lt, i_le, i_eq, T0] at c_21)
          refine lv_iconst (v := 0) hx hb dX8_longestRun_26 (by decide) ?_
          refine lv_istore_n (lv' := [(2, .int 0), (3, .int v_8), (1, .int v_6), (0, .int p0)]) hx hb dX8_longestRun_27 rfl hl (by decide) rfl (fun ls hl => ?_)
          refine lv_iload_n hx hb dX8_longestRun_28 rfl (lv_at hl 2 rfl) ?_
          refine lv_iload_n hx hb dX8_longestRun_29 rfl (lv_at hl 0 rfl) ?_
          refine va_mmax hx hb (by rw [hml]; exact hl.1.symm) hown (ht _ w_826) (ht _ w_540) (ht _ w_119) (ht _ w_mathmax) (Nat.le_of_ble_eq_true rfl) (Nat.le_of_ble_eq_true rfl) (Nat.le_of_ble_eq_true rfl) (Nat.le_of_ble_eq_true rfl) dX8_longestRun_30 ?_
          refine lv_topi (fun y_22 ey_22 => ?_)
          have ty_22 := mmaxF ey_22
          simp only [T0] at ty_22
          clear ey_22
          refine lv_istore_n (lv' := [(1, .int y_22), (2, .int 0), (3, .int v_8), (0, .int p0)]) hx hb dX8_longestRun_33 rfl hl (by decide) rfl (fun ls hl => ?_)
          obtain ⟨y_23, ey_23⟩ : ∃ z : Int32, z = v_8 + 1 := ⟨_, rfl⟩
          have ty_23 := iaddF ey_23
          simp only [T1] at ty_23
          refine lv_iinc (v := y_23) (lv' := [(3, .int y_23), (1, .int y_22), (2, .int 0), (0, .int p0)]) hx hb dX8_longestRun_34 hl (k := 2) rfl (by rw [ey_23]; rfl) (by decide) rfl (fun ls hl => ?_)
          clear ey_23
          refine lv_goto (tgt := 6) hx hb dX8_longestRun_37 (by decide) ?_
          exact ih_18 y_22 0 y_23 _ (by first | omega | assumption) (by omega) (lv_sub hl [0, 2, 1, 3] rfl)
        · (try simp only [i_lt, i_le, i_eq, T0] at c_21)
          refine lv_iload_n hx hb dX8_longestRun_20 rfl (lv_at hl 1 rfl) ?_
          refine lv_iconst (v := 1) hx hb dX8_longestRun_21 (by decide) ?_
          refine lv_iadd hx hb dX8_longestRun_22 ?_
          refine lv_topi (fun y_24 ey_24 => ?_)
          have ty_24 := iaddF ey_24
          simp only [T1] at ty_24
          clear ey_24
          refine lv_goto (tgt := 27) hx hb dX8_longestRun_23 (by decide) ?_
          refine lv_istore_n (lv' := [(2, .int y_24), (3, .int v_8), (1, .int v_6), (0, .int p0)]) hx hb dX8_longestRun_27 rfl hl (by decide) rfl (fun ls hl => ?_)
          refine lv_iload_n hx hb dX8_longestRun_28 rfl (lv_at hl 2 rfl) ?_
          refine lv_iload_n hx hb dX8_longestRun_29 rfl (lv_at hl 0 rfl) ?_
          refine va_mmax hx hb (by rw [hml]; exact hl.1.symm) hown (ht _ w_826) (ht _ w_540) (ht _ w_119) (ht _ w_mathmax) (Nat.le_of_ble_eq_true rfl) (Nat.le_of_ble_eq_true rfl) (Nat.le_of_ble_eq_true rfl) (Nat.le_of_ble_eq_true rfl) dX8_longestRun_30 ?_
          refine lv_topi (fun y_25 ey_25 => ?_)
          have ty_25 := mmaxF ey_25
          clear ey_25
          refine lv_istore_n (lv' := [(1, .int y_25), (2, .int y_24), (3, .int v_8), (0, .int p0)]) hx hb dX8_longestRun_33 rfl hl (by decide) rfl (fun ls hl => ?_)
          obtain ⟨y_26, ey_26⟩ : ∃ z : Int32, z = v_8 + 1 := ⟨_, rfl⟩
          have ty_26 := iaddF ey_26
          simp only [T1] at ty_26
          refine lv_iinc (v := y_26) (lv' := [(3, .int y_26), (1, .int y_25), (2, .int y_24), (0, .int p0)]) hx hb dX8_longestRun_34 hl (k := 2) rfl (by rw [ey_26]; rfl) (by decide) rfl (fun ls hl => ?_)
          clear ey_26
          refine lv_goto (tgt := 6) hx hb dX8_longestRun_37 (by decide) ?_
          exact ih_18 y_25 y_24 y_26 _ (by first | omega | assumption) (by omega) (lv_sub hl [0, 2, 1, 3] rfl)
  exact lp_17 _ 0 0 0 _ (by first | omega | decide | assumption) (Nat.lt_succ_self _) (lv_sub hl [0, 1, 2, 3] rfl)
set_option maxHeartbeats 8000000 in
set_option maxRecDepth 100000 in
theorem s_X8_factorial (l : Launch) (dC : Nat → ClassId) (dI : Nat → Nat → Nat) (cB cI cJ cZ cL : ClassId) (a : Nat → Nat)  (p0 : Int32) (h0 : Int32.toInt p0 ≤ 100) : Met l yX8_factorial (wy yX8_factorial cX8_factorial 4 (some .long)) ({ frames := 0, cells := 0, slots := 0, locals := 0 }) (va_Pc [.int p0] (fun U => va_P (dC, dI) vwCl [] U.heap ∧ va_K (dC, dI) vwCl (tyL cB cI cJ cZ cL) U ∧ NW U)) (vp_Sl (fun r => True)) 0 0 (fun _ => False) := by
  refine Met.ofW (cc := cX8_factorial) (maxL := 4) (ret := (some .long)) (by decide) rfl ?_
  intro p e s m args below meth c s₁ B hml hv
  obtain ⟨rfl, hP, hK, hN⟩ := hv
  have hx := B.exec
  have hb := B.bytes
  have hr := B.returns
  have ht : ∀ w ∈ lw_ok, w.before _ s = true := fun w h => atoms_spec (ws := wy yX8_factorial cX8_factorial 4 (some .long)) B.pre w (List.mem_cons_of_mem _ h)
  have hown : s.vm.findClass RX8 = some m.cls := findClass_of_methodNamed B.named
  have hlocks := B.notSynchronized
  have hl := lv_entry ([.int p0]) (n := 4) (Nat.le_of_ble_eq_true rfl)
  rw [lg_entry_eq]
  generalize (lg_sl ([.int p0]) ++ List.replicate (4 - (lg_sl ([.int p0])).length) Slot.unset).toArray = ls at hl ⊢
  have hl : lv_has ls 4 [(0, .int p0)] := hl
  have hP : va_P (dC, dI) vwCl [] s.heap := hP
  have rg_p0 := rgI p0
  refine lv_lconst (v := 1) hx hb dX8_factorial_0 (by decide) ?_
  refine lv_lstore_n (lv' := [(1, .long 1), (0, .int p0)]) hx hb dX8_factorial_1 rfl hl (by decide) rfl (fun ls hl => ?_)
  refine lv_iconst (v := 2) hx hb dX8_factorial_2 (by decide) ?_
  refine lv_istore_n (lv' := [(3, .int 2), (1, .long 1), (0, .int p0)]) hx hb dX8_factorial_3 rfl hl (by decide) rfl (fun ls hl => ?_)
  have lp_9 : ∀ (d : Nat) (v_3 : Int64) (v_4 : Int32) (ls : Array Slot), ((2 ≤ Int32.toInt v_4)) → (2147483647 - Int32.toInt v_4).toNat < d → lv_has ls 4 [(3, .int v_4), (1, .long v_3), (0, .int p0)] → W p l e (headSpec (wy yX8_factorial cX8_factorial 4 (some .long)) ({ frames := 0, cells := 0, slots := 0, locals := 0 })).room s m ([.int p0] : List Value).toArray below meth c s.heap [] 0 0 (MQ below (vp_Sl (fun r => True)) ([.int p0] : List Value).toArray s 0 0 (fun _ => False)) (F0 m 4 ls []) := by
    intro d
    induction d with
    | zero => intro v_3 v_4  ls hI hM; exact absurd hM (Nat.not_lt_zero _)
    | succ d ih_10 =>
      intro v_3 v_4 ls hI hM hl
      refine lv_iload_n hx hb dX8_factorial_4 rfl (lv_at hl 0 rfl) ?_
      refine lv_iload_n hx hb dX8_factorial_5 rfl (lv_at hl 2 rfl) ?_
      refine lv_icmp_gt (tgt := 20) hx hb dX8_factorial_6 (by decide) (fun c_11 => ?_) (fun c_11 => ?_)
      · (try simp only [i_lt, i_le, i_eq] at c_11)
        refine lv_lload_n hx hb dX8_factorial_20 rfl (lv_at hl 1 rfl) ?_
        exact W.lret (v := v_3) hx hb hr (fun t ht hW => ⟨v_3, rfl, trivial, ht⟩) (fun q h => absurd h List.not_mem_nil) dX8_factorial_21
      · (try simp only [i_lt, i_le, i_eq] at c_11)
        refine lv_lload_n hx hb dX8_factorial_9 rfl (lv_at hl 1 rfl) ?_
        refine lv_iload_n hx hb dX8_factorial_10 rfl (lv_at hl 0 rfl) ?_
        refine lv_i2l hx hb dX8_factorial_11 rfl ?_
        refine lv_topl (fun y_12 ey_12 => ?_)
        have ty_12 := i2lF ey_12
        clear ey_12
        refine lv_lmul hx hb dX8_factorial_12 ?_
        refine lv_topl (fun y_13 ey_13 => ?_)
        clear ey_13
        refine lv_lstore_n (lv' := [(1, .long y_13), (3, .int v_4), (0, .int p0)]) hx hb dX8_factorial_13 rfl hl (by decide) rfl (fun ls hl => ?_)
        obtain ⟨y_14, ey_14⟩ : ∃ z : Int32, z = v_4 + 1 := ⟨_, rfl⟩
        have ty_14 := iaddF ey_14
        simp only [T1] at ty_14
        refine lv_iinc (v := y_14) (lv' := [(3, .int y_14), (1, .long y_13), (0, .int p0)]) hx hb dX8_factorial_14 hl (k := 1) rfl (by rw [ey_14]; rfl) (by decide) rfl (fun ls hl => ?_)
        clear ey_14
        refine lv_goto (tgt := 4) hx hb dX8_factorial_17 (by decide) ?_
        exact ih_10 y_13 y_14 _ (by first | omega | assumption) (by omega) (lv_sub hl [0, 1, 2] rfl)
  exact lp_9 _ 1 2 _ (by first | omega | decide | assumption) (Nat.lt_succ_self _) (lv_sub hl [0, 1, 2] rfl)
set_option maxHeartbeats 8000000 in
set_option maxRecDepth 100000 in
theorem s_X8_power (l : Launch) (dC : Nat → ClassId) (dI : Nat → Nat → Nat) (cB cI cJ cZ cL : ClassId) (a : Nat → Nat)  (p0 : Int32) (p1 : Int32)  : Met l yX8_power (wy yX8_power cX8_power 5 (some .long)) ({ frames := 0, cells := 0, slots := 0, locals := 0 }) (va_Pc [.int p0, .int p1] (fun U => va_P (dC, dI) vwCl [] U.heap ∧ va_K (dC, dI) vwCl (tyL cB cI cJ cZ cL) U ∧ NW U)) (vp_Sl (fun r => True)) 0 0 (fun _ => False) := by
  refine Met.ofW (cc := cX8_power) (maxL := 5) (ret := (some .long)) (by decide) rfl ?_
  intro p e s m args below meth c s₁ B hml hv
  obtain ⟨rfl, hP, hK, hN⟩ := hv
  have hx := B.exec
  have hb := B.bytes
  have hr := B.returns
  have ht : ∀ w ∈ lw_ok, w.before _ s = true := fun w h => atoms_spec (ws := wy yX8_power cX8_power 5 (some .long)) B.pre w (List.mem_cons_of_mem _ h)
  have hown : s.vm.findClass RX8 = some m.cls := findClass_of_methodNamed B.named
  have hlocks := B.notSynchronized
  have hl := lv_entry ([.int p0, .int p1]) (n := 5) (Nat.le_of_ble_eq_true rfl)
  rw [lg_entry_eq]
  generalize (lg_sl ([.int p0, .int p1]) ++ List.replicate (5 - (lg_sl ([.int p0, .int p1])).length) Slot.unset).toArray = ls at hl ⊢
  have hl : lv_has ls 5 [(0, .int p0), (1, .int p1)] := hl
  have hP : va_P (dC, dI) vwCl [] s.heap := hP
  have rg_p0 := rgI p0
  have rg_p1 := rgI p1
  refine lv_lconst (v := 1) hx hb dX8_power_0 (by decide) ?_
  refine lv_lstore_n (lv' := [(2, .long 1), (0, .int p0), (1, .int p1)]) hx hb dX8_power_1 rfl hl (by decide) rfl (fun ls hl => ?_)
  refine lv_iconst (v := 0) hx hb dX8_power_2 (by decide) ?_
  refine lv_istore (lv' := [(4, .int 0), (2, .long 1), (0, .int p0), (1, .int p1)]) hx hb dX8_power_3 hl (by decide) rfl (fun ls hl => ?_)
  have lp_10 : ∀ (d : Nat) (v_4 : Int64) (v_5 : Int32) (ls : Array Slot), ((0 ≤ Int32.toInt v_5)) → (2147483647 - Int32.toInt v_5).toNat < d → lv_has ls 5 [(4, .int v_5), (2, .long v_4), (0, .int p0), (1, .int p1)] → W p l e (headSpec (wy yX8_power cX8_power 5 (some .long)) ({ frames := 0, cells := 0, slots := 0, locals := 0 })).room s m ([.int p0, .int p1] : List Value).toArray below meth c s.heap [] 0 0 (MQ below (vp_Sl (fun r => True)) ([.int p0, .int p1] : List Value).toArray s 0 0 (fun _ => False)) (F0 m 5 ls []) := by
    intro d
    induction d with
    | zero => intro v_4 v_5  ls hI hM; exact absurd hM (Nat.not_lt_zero _)
    | succ d ih_11 =>
      intro v_4 v_5 ls hI hM hl
      refine lv_iload hx hb dX8_power_5 (lv_at hl 0 rfl) ?_
      refine lv_iload_n hx hb dX8_power_7 rfl (lv_at hl 3 rfl) ?_
      refine lv_icmp_ge (tgt := 22) hx hb dX8_power_8 (by decide) (fun c_12 => ?_) (fun c_12 => ?_)
      · (try simp only [i_lt, i_le, i_eq] at c_12)
        refine lv_lload_n hx hb dX8_power_22 rfl (lv_at hl 1 rfl) ?_
        exact W.lret (v := v_4) hx hb hr (fun t ht hW => ⟨v_4, rfl, trivial, ht⟩) (fun q h => absurd h List.not_mem_nil) dX8_power_23
      · (try simp only [i_lt, i_le, i_eq] at c_12)
        refine lv_lload_n hx hb dX8_power_11 rfl (lv_at hl 1 rfl) ?_
        refine lv_iload_n hx hb dX8_power_12 rfl (lv_at hl 2 rfl) ?_
        refine lv_i2l hx hb dX8_power_13 rfl ?_
        refine lv_topl (fun y_13 ey_13 => ?_)
        have ty_13 := i2lF ey_13
        clear ey_13
        refine lv_lmul hx hb dX8_power_14 ?_
        refine lv_topl (fun y_14 ey_14 => ?_)
        clear ey_14
        refine lv_lstore_n (lv' := [(2, .long y_14), (4, .int v_5), (0, .int p0), (1, .int p1)]) hx hb dX8_power_15 rfl hl (by decide) rfl (fun ls hl => ?_)
        obtain ⟨y_15, ey_15⟩ : ∃ z : Int32, z = v_5 + 1 := ⟨_, rfl⟩
        have ty_15 := iaddF ey_15
        simp only [T1] at ty_15
        refine lv_iinc (v := y_15) (lv' := [(4, .int y_15), (2, .long y_14), (0, .int p0), (1, .int p1)]) hx hb dX8_power_16 hl (k := 1) rfl (by rw [ey_15]; rfl) (by decide) rfl (fun ls hl => ?_)
        clear ey_15
        refine lv_goto (tgt := 5) hx hb dX8_power_19 (by decide) ?_
        exact ih_11 y_14 y_15 _ (by first | omega | assumption) (by omega) (lv_sub hl [0, 1, 2, 3] rfl)
  exact lp_10 _ 1 0 _ (by first | omega | decide | assumption) (Nat.lt_succ_self _) (lv_sub hl [0, 1, 2, 3] rfl)
set_option maxHeartbeats 8000000 in
set_option maxRecDepth 100000 in
theorem s_X2_stationBits (l : Launch) (dC : Nat → ClassId) (dI : Nat → Nat → Nat) (cB cI cJ cZ cL : ClassId) (a : Nat → Nat) (n_lines : Int32) (n_days : Int32) (n_law : Int32) (n_odds : Int32) (n_volts : Int32) (n_spans : Int32) (n_wetLines : Int32) (n_wet : Int32) (n_acts : Int32) (n_a_needs : Nat → Int32)  (hsp : 0 ≤ Int32.toInt n_spans ∧ Int32.toInt n_spans ≤ 5) : Met l yX2_stationBits (wy yX2_stationBits cX2_stationBits 3 (some .int)) ({ frames := 0, cells := 0, slots := 0, locals := 0 }) (va_Pc [.ref (a 4)] (fun U => va_P (dC, dI) vwCl [((a 4), .inr (2, [.int n_lines, .int n_days, .int n_law, .int n_odds, .int n_volts, .int n_spans, .int n_wetLines, .int n_wet, .int n_acts, .ref (a 19), .ref (a 20), .ref (a 21), .ref (a 22), .ref (a 23), .ref (a 24), .ref (a 25), .ref (a 26)])), ((a 21), .inl (cI, 5, .inl n_a_needs))] U.heap ∧ va_K (dC, dI) vwCl (tyL cB cI cJ cZ cL) U ∧ NW U)) (vp_Si (fun r => True)) 0 0 (fun _ => False) := by
  refine Met.ofW (cc := cX2_stationBits) (maxL := 3) (ret := (some .int)) (by decide) rfl ?_
  intro p e s m args below meth c s₁ B hml hv
  obtain ⟨rfl, hP, hK, hN⟩ := hv
  have hx := B.exec
  have hb := B.bytes
  have hr := B.returns
  have ht : ∀ w ∈ lw_ok, w.before _ s = true := fun w h => atoms_spec (ws := wy yX2_stationBits cX2_stationBits 3 (some .int)) B.pre w (List.mem_cons_of_mem _ h)
  have hown : s.vm.findClass RX2 = some m.cls := findClass_of_methodNamed B.named
  have hlocks := B.notSynchronized
  have hl := lv_entry ([.ref (a 4)]) (n := 3) (Nat.le_of_ble_eq_true rfl)
  rw [lg_entry_eq]
  generalize (lg_sl ([.ref (a 4)]) ++ List.replicate (3 - (lg_sl ([.ref (a 4)])).length) Slot.unset).toArray = ls at hl ⊢
  have hl : lv_has ls 3 [(0, .ref (a 4))] := hl
  have hP : va_P (dC, dI) vwCl [((a 4), .inr (2, [.int n_lines, .int n_days, .int n_law, .int n_odds, .int n_volts, .int n_spans, .int n_wetLines, .int n_wet, .int n_acts, .ref (a 19), .ref (a 20), .ref (a 21), .ref (a 22), .ref (a 23), .ref (a 24), .ref (a 25), .ref (a 26)])), ((a 21), .inl (cI, 5, .inl n_a_needs))] s.heap := hP
  refine lv_iconst (v := 0) hx hb dX2_stationBits_0 (by decide) ?_
  refine lv_istore_n (lv' := [(1, .int 0), (0, .ref (a 4))]) hx hb dX2_stationBits_1 rfl hl (by decide) rfl (fun ls hl => ?_)
  refine lv_iconst (v := 0) hx hb dX2_stationBits_2 (by decide) ?_
  refine lv_istore_n (lv' := [(2, .int 0), (1, .int 0), (0, .ref (a 4))]) hx hb dX2_stationBits_3 rfl hl (by decide) rfl (fun ls hl => ?_)
  have lp_15 : ∀ (d : Nat) (v_6 : Int32) (v_7 : Int32) (ls : Array Slot), ((0 ≤ Int32.toInt v_7)) → (2147483647 - Int32.toInt v_7).toNat < d → lv_has ls 3 [(2, .int v_7), (1, .int v_6), (0, .ref (a 4))] → W p l e (headSpec (wy yX2_stationBits cX2_stationBits 3 (some .int)) ({ frames := 0, cells := 0, slots := 0, locals := 0 })).room s m ([.ref (a 4)] : List Value).toArray below meth c s.heap [] 0 0 (MQ below (vp_Si (fun r => True)) ([.ref (a 4)] : List Value).toArray s 0 0 (fun _ => False)) (F0 m 4 ls []) := by
    intro d
    induction d with
    | zero => intro v_6 v_7  ls hI hM; exact absurd hM (Nat.not_lt_zero _)
    | succ d ih_16 =>
      intro v_6 v_7 ls hI hM hl
      refine lv_iload_n hx hb dX2_stationBits_4 rfl (lv_at hl 0 rfl) ?_
      refine lv_aload_n hx hb dX2_stationBits_5 rfl (lv_at hl 2 rfl) ?_
      refine va_get (D := (dC, dI)) (ci := 2) (v := .int n_spans) (C := RX2) (T := TX2) (N := 17) hx hb ht iX2 hown hK hP 0 rfl rfl 5 (by decide) (ht _ w_217) (fun _ h9 => h9) rfl dX2_stationBits_6 ?_
      refine lv_icmp_ge (tgt := 34) hx hb dX2_stationBits_9 (by decide) (fun c_17 => ?_) (fun c_17 => ?_)
      · (try simp only [i_lt, i_le, i_eq] at c_17)
        refine lv_iload_n hx hb dX2_stationBits_34 rfl (lv_at hl 1 rfl) ?_
        exact W.iret (v := v_6) hx hb hr (fun t ht hW => ⟨v_6, rfl, trivial, ht⟩) (fun q h => absurd h List.not_mem_nil) dX2_stationBits_35
      · (try simp only [i_lt, i_le, i_eq] at c_17)
        refine lv_aload_n hx hb dX2_stationBits_12 rfl (lv_at hl 2 rfl) ?_
        refine va_get (D := (dC, dI)) (ci := 2) (v := .ref (a 21)) (C := RX2) (T := TX2) (N := 17) hx hb ht iX2 hown hK hP 0 rfl rfl 11 (by decide) (ht _ w_239) (fun _ h9 => h9) rfl dX2_stationBits_13 ?_
        refine lv_iload_n hx hb dX2_stationBits_16 rfl (lv_at hl 0 rfl) ?_
        refine va_iald hx hb hK hP 1 1 rfl rfl (vp_in_iff.mpr (by omega)) dX2_stationBits_17 ?_
        refine lv_topi (fun y_18 ey_18 => ?_)
        refine lv_iconst (v := (-1)) hx hb dX2_stationBits_18 (by decide) ?_
        refine lv_icmp_eq (tgt := 28) hx hb dX2_stationBits_19 (by decide) (fun c_19 => ?_) (fun c_19 => ?_)
        · (try simp only [i_lt, i_le, i_eq, Tm1] at c_19)
          obtain ⟨y_20, ey_20⟩ : ∃ z : Int32, z = v_7 + 1 := ⟨_, rfl⟩
          have ty_20 := iaddF ey_20
          simp only [T1] at ty_20
          refine lv_iinc (v := y_20) (lv' := [(2, .int y_20), (1, .int v_6), (0, .ref (a 4))]) hx hb dX2_stationBits_28 hl (k := 0) rfl (by rw [ey_20]; rfl) (by decide) rfl (fun ls hl => ?_)
          clear ey_20
          refine lv_goto (tgt := 4) hx hb dX2_stationBits_31 (by decide) ?_
          exact ih_16 v_6 y_20 _ (by first | omega | assumption) (by omega) (lv_sub hl [0, 1, 2] rfl)
        · (try simp only [i_lt, i_le, i_eq, Tm1] at c_19)
          refine lv_iload_n hx hb dX2_stationBits_22 rfl (lv_at hl 1 rfl) ?_
          refine lv_iconst (v := 1) hx hb dX2_stationBits_23 (by decide) ?_
          refine lv_iload_n hx hb dX2_stationBits_24 rfl (lv_at hl 0 rfl) ?_
          refine lv_ishl hx hb dX2_stationBits_25 ?_
          refine lv_topi (fun y_21 ey_21 => ?_)
          have ty_21 := shl1F ey_21
          clear ey_21
          refine lv_ior hx hb dX2_stationBits_26 ?_
          refine lv_topi (fun y_22 ey_22 => ?_)
          have ty_22 := iorF ey_22
          clear ey_22
          refine lv_istore_n (lv' := [(1, .int y_22), (2, .int v_7), (0, .ref (a 4))]) hx hb dX2_stationBits_27 rfl hl (by decide) rfl (fun ls hl => ?_)
          obtain ⟨y_23, ey_23⟩ : ∃ z : Int32, z = v_7 + 1 := ⟨_, rfl⟩
          have ty_23 := iaddF ey_23
          simp only [T1] at ty_23
          refine lv_iinc (v := y_23) (lv' := [(2, .int y_23), (1, .int y_22), (0, .ref (a 4))]) hx hb dX2_stationBits_28 hl (k := 1) rfl (by rw [ey_23]; rfl) (by decide) rfl (fun ls hl => ?_)
          clear ey_23
          refine lv_goto (tgt := 4) hx hb dX2_stationBits_31 (by decide) ?_
          exact ih_16 y_22 y_23 _ (by first | omega | assumption) (by omega) (lv_sub hl [0, 1, 2] rfl)
  exact lp_15 _ 0 0 _ (by first | omega | decide | assumption) (Nat.lt_succ_self _) (lv_sub hl [0, 1, 2] rfl)
set_option maxHeartbeats 8000000 in
set_option maxRecDepth 100000 in
theorem s_X2_latestCup (l : Launch) (dC : Nat → ClassId) (dI : Nat → Nat → Nat) (cB cI cJ cZ cL : ClassId) (a : Nat → Nat) (n_lines : Int32) (n_days : Int32) (n_law : Int32) (n_odds : Int32) (n_volts : Int32) (n_spans : Int32) (n_wetLines : Int32) (n_wet : Int32) (n_acts : Int32) (n_a_cupDays : Nat → Int32) (p0 : Int32) (p1 : Int32) (h0 : 0 ≤ Int32.toInt p0 ∧ Int32.toInt p0 < 5) : Met l yX2_latestCup (wy yX2_latestCup cX2_latestCup 4 (some .int)) ({ frames := 1, cells := 0, slots := 0, locals := 40 }) (va_Pc [.ref (a 4), .int p0, .int p1] (fun U => va_P (dC, dI) vwCl [((a 4), .inr (2, [.int n_lines, .int n_days, .int n_law, .int n_odds, .int n_volts, .int n_spans, .int n_wetLines, .int n_wet, .int n_acts, .ref (a 19), .ref (a 20), .ref (a 21), .ref (a 22), .ref (a 23), .ref (a 24), .ref (a 25), .ref (a 26)])), ((a 25), .inl (cI, 5, .inl n_a_cupDays))] U.heap ∧ va_K (dC, dI) vwCl (tyL cB cI cJ cZ cL) U ∧ NW U)) (vp_Si (fun r => True)) 0 0 (fun _ => False) := by
  refine Met.ofW (cc := cX2_latestCup) (maxL := 4) (ret := (some .int)) (by decide) rfl ?_
  intro p e s m args below meth c s₁ B hml hv
  obtain ⟨rfl, hP, hK, hN⟩ := hv
  have hx := B.exec
  have hb := B.bytes
  have hr := B.returns
  have ht : ∀ w ∈ lw_ok, w.before _ s = true := fun w h => atoms_spec (ws := wy yX2_latestCup cX2_latestCup 4 (some .int)) B.pre w (List.mem_cons_of_mem _ h)
  have hown : s.vm.findClass RX2 = some m.cls := findClass_of_methodNamed B.named
  have hlocks := B.notSynchronized
  have hl := lv_entry ([.ref (a 4), .int p0, .int p1]) (n := 4) (Nat.le_of_ble_eq_true rfl)
  rw [lg_entry_eq]
  generalize (lg_sl ([.ref (a 4), .int p0, .int p1]) ++ List.replicate (4 - (lg_sl ([.ref (a 4), .int p0, .int p1])).length) Slot.unset).toArray = ls at hl ⊢
  have hl : lv_has ls 4 [(0, .ref (a 4)), (1, .int p0), (2, .int p1)] := hl
  have hP : va_P (dC, dI) vwCl [((a 4), .inr (2, [.int n_lines, .int n_days, .int n_law, .int n_odds, .int n_volts, .int n_spans, .int n_wetLines, .int n_wet, .int n_acts, .ref (a 19), .ref (a 20), .ref (a 21), .ref (a 22), .ref (a 23), .ref (a 24), .ref (a 25), .ref (a 26)])), ((a 25), .inl (cI, 5, .inl n_a_cupDays))] s.heap := hP
  have rg_p0 := rgI p0
  have rg_p1 := rgI p1
  refine lv_aload_n hx hb dX2_latestCup_0 rfl (lv_at hl 0 rfl) ?_
  refine va_get (D := (dC, dI)) (ci := 2) (v := .ref (a 25)) (C := RX2) (T := TX2) (N := 17) hx hb ht iX2 hown hK hP 0 rfl rfl 15 (by decide) (ht _ w_245) (fun _ h9 => h9) rfl dX2_latestCup_1 ?_
  refine lv_iload_n hx hb dX2_latestCup_4 rfl (lv_at hl 1 rfl) ?_
  refine va_iald hx hb hK hP 1 1 rfl rfl (vp_in_iff.mpr (by omega)) dX2_latestCup_5 ?_
  refine lv_topi (fun y_1 ey_1 => ?_)
  refine lv_iconst (v := 2) hx hb dX2_latestCup_6 (by decide) ?_
  refine lv_iload_n hx hb dX2_latestCup_7 rfl (lv_at hl 2 rfl) ?_
  refine lv_ishl hx hb dX2_latestCup_8 ?_
  refine lv_topi (fun y_2 ey_2 => ?_)
  clear ey_2
  refine lv_iconst (v := 1) hx hb dX2_latestCup_9 (by decide) ?_
  refine lv_isub hx hb dX2_latestCup_10 ?_
  refine lv_topi (fun y_3 ey_3 => ?_)
  have ty_3 := isubF ey_3
  simp only [T1] at ty_3
  clear ey_3
  refine lv_iand hx hb dX2_latestCup_11 ?_
  refine lv_topi (fun y_4 ey_4 => ?_)
  clear ey_4
  refine lv_istore_n (lv' := [(3, .int y_4), (0, .ref (a 4)), (1, .int p0), (2, .int p1)]) hx hb dX2_latestCup_12 rfl hl (by decide) rfl (fun ls hl => ?_)
  refine lv_iload_n hx hb dX2_latestCup_13 rfl (lv_at hl 0 rfl) ?_
  refine lv_if_ne (tgt := 21) hx hb dX2_latestCup_14 (by decide) (fun c_5 => ?_) (fun c_5 => ?_)
  · (try simp only [i_lt, i_le, i_eq, T0] at c_5)
    refine lv_bipush (v := 31) hx hb dX2_latestCup_21 (by decide) ?_
    refine lv_iload_n hx hb dX2_latestCup_23 rfl (lv_at hl 0 rfl) ?_
    have hPc := hP.sub (ws' := []) [] rfl
    refine vp_callSi (W.runS (As := [.int y_4]) (rest := [.int 31]) ⟨hx, hb, hml, hown, ht⟩ (s_J6_numberOfLeadingZeros_0f7a4 l dC dI cB cI cJ cZ cL y_4) (va_cwS 1 ht (gQ w_650 w_651 w_122 w_652) rfl rfl rfl (by decide +kernel) ⟨Nat.le_of_ble_eq_true rfl, Nat.le_of_ble_eq_true rfl⟩) (pSSn hN hK hPc) rfl rfl hl.1 rfl (lv_room (Nat.le_of_ble_eq_true rfl)) dX2_latestCup_24 ⟨Nat.le_of_ble_eq_true rfl, Nat.le_of_ble_eq_true rfl⟩) (fun r_6 hw => ?_)
    clear hPc
    clear hw
    refine lv_isub hx hb dX2_latestCup_27 ?_
    refine lv_topi (fun y_7 ey_7 => ?_)
    have ty_7 := isubF ey_7
    simp only [T31] at ty_7
    clear ey_7
    exact W.iret (v := y_7) hx hb hr (fun t ht hW => ⟨y_7, rfl, trivial, ht⟩) (fun q h => absurd h List.not_mem_nil) dX2_latestCup_28
  · (try simp only [i_lt, i_le, i_eq, T0] at c_5)
    refine lv_iconst (v := (-1)) hx hb dX2_latestCup_17 (by decide) ?_
    refine lv_goto (tgt := 28) hx hb dX2_latestCup_18 (by decide) ?_
    exact W.iret (v := (-1)) hx hb hr (fun t ht hW => ⟨(-1), rfl, trivial, ht⟩) (fun q h => absurd h List.not_mem_nil) dX2_latestCup_28
set_option maxHeartbeats 8000000 in
set_option maxRecDepth 100000 in
theorem s_X2_firstSnap (l : Launch) (dC : Nat → ClassId) (dI : Nat → Nat → Nat) (cB cI cJ cZ cL : ClassId) (a : Nat → Nat) (n_lines : Int32) (n_days : Int32) (n_law : Int32) (n_odds : Int32) (n_volts : Int32) (n_spans : Int32) (n_wetLines : Int32) (n_wet : Int32) (n_acts : Int32) (n_a_snapDays : Nat → Int32) (p0 : Int32) (h0 : 0 ≤ Int32.toInt p0 ∧ Int32.toInt p0 < 5) : Met l yX2_firstSnap (wy yX2_firstSnap cX2_firstSnap 2 (some .int)) ({ frames := 1, cells := 0, slots := 0, locals := 40 }) (va_Pc [.ref (a 4), .int p0] (fun U => va_P (dC, dI) vwCl [((a 4), .inr (2, [.int n_lines, .int n_days, .int n_law, .int n_odds, .int n_volts, .int n_spans, .int n_wetLines, .int n_wet, .int n_acts, .ref (a 19), .ref (a 20), .ref (a 21), .ref (a 22), .ref (a 23), .ref (a 24), .ref (a 25), .ref (a 26)])), ((a 26), .inl (cI, 5, .inl n_a_snapDays))] U.heap ∧ va_K (dC, dI) vwCl (tyL cB cI cJ cZ cL) U ∧ NW U)) (vp_Si (fun r => True)) 0 0 (fun _ => False) := by
  refine Met.ofW (cc := cX2_firstSnap) (maxL := 2) (ret := (some .int)) (by decide) rfl ?_
  intro p e s m args below meth c s₁ B hml hv
  obtain ⟨rfl, hP, hK, hN⟩ := hv
  have hx := B.exec
  have hb := B.bytes
  have hr := B.returns
  have ht : ∀ w ∈ lw_ok, w.before _ s = true := fun w h => atoms_spec (ws := wy yX2_firstSnap cX2_firstSnap 2 (some .int)) B.pre w (List.mem_cons_of_mem _ h)
  have hown : s.vm.findClass RX2 = some m.cls := findClass_of_methodNamed B.named
  have hlocks := B.notSynchronized
  have hl := lv_entry ([.ref (a 4), .int p0]) (n := 2) (Nat.le_of_ble_eq_true rfl)
  rw [lg_entry_eq]
  generalize (lg_sl ([.ref (a 4), .int p0]) ++ List.replicate (2 - (lg_sl ([.ref (a 4), .int p0])).length) Slot.unset).toArray = ls at hl ⊢
  have hl : lv_has ls 2 [(0, .ref (a 4)), (1, .int p0)] := hl
  have hP : va_P (dC, dI) vwCl [((a 4), .inr (2, [.int n_lines, .int n_days, .int n_law, .int n_odds, .int n_volts, .int n_spans, .int n_wetLines, .int n_wet, .int n_acts, .ref (a 19), .ref (a 20), .ref (a 21), .ref (a 22), .ref (a 23), .ref (a 24), .ref (a 25), .ref (a 26)])), ((a 26), .inl (cI, 5, .inl n_a_snapDays))] s.heap := hP
  have rg_p0 := rgI p0
  refine lv_aload_n hx hb dX2_firstSnap_0 rfl (lv_at hl 0 rfl) ?_
  refine va_get (D := (dC, dI)) (ci := 2) (v := .ref (a 26)) (C := RX2) (T := TX2) (N := 17) hx hb ht iX2 hown hK hP 0 rfl rfl 16 (by decide) (ht _ w_246) (fun _ h9 => h9) rfl dX2_firstSnap_1 ?_
  refine lv_iload_n hx hb dX2_firstSnap_4 rfl (lv_at hl 1 rfl) ?_
  refine va_iald hx hb hK hP 1 1 rfl rfl (vp_in_iff.mpr (by omega)) dX2_firstSnap_5 ?_
  refine lv_topi (fun y_1 ey_1 => ?_)
  refine lv_if_ne (tgt := 13) hx hb dX2_firstSnap_6 (by decide) (fun c_2 => ?_) (fun c_2 => ?_)
  · (try simp only [i_lt, i_le, i_eq, T0] at c_2)
    refine lv_aload_n hx hb dX2_firstSnap_13 rfl (lv_at hl 0 rfl) ?_
    refine va_get (D := (dC, dI)) (ci := 2) (v := .ref (a 26)) (C := RX2) (T := TX2) (N := 17) hx hb ht iX2 hown hK hP 0 rfl rfl 16 (by decide) (ht _ w_246) (fun _ h9 => h9) rfl dX2_firstSnap_14 ?_
    refine lv_iload_n hx hb dX2_firstSnap_17 rfl (lv_at hl 1 rfl) ?_
    refine va_iald hx hb hK hP 1 1 rfl rfl (vp_in_iff.mpr (by omega)) dX2_firstSnap_18 ?_
    refine lv_topi (fun y_3 ey_3 => ?_)
    obtain rfl : y_1 = y_3 := ey_1.trans ey_3.symm
    clear ey_3
    have hPc := hP.sub (ws' := []) [] rfl
    refine vp_callSi (W.runS (As := [.int y_1]) (rest := []) ⟨hx, hb, hml, hown, ht⟩ (s_J6_numberOfTrailingZeros_0f7a4 l dC dI cB cI cJ cZ cL y_1) (va_cwS 1 ht (gQ w_957 w_812 w_122 w_813) rfl rfl rfl (by decide +kernel) ⟨Nat.le_of_ble_eq_true rfl, Nat.le_of_ble_eq_true rfl⟩) (pSSn hN hK hPc) rfl rfl hl.1 rfl (lv_room (Nat.le_of_ble_eq_true rfl)) dX2_firstSnap_19 ⟨Nat.le_of_ble_eq_true rfl, Nat.le_of_ble_eq_true rfl⟩) (fun r_4 hw => ?_)
    clear hPc
    clear hw
    exact W.iret (v := r_4) hx hb hr (fun t ht hW => ⟨r_4, rfl, trivial, ht⟩) (fun q h => absurd h List.not_mem_nil) dX2_firstSnap_22
  · (try simp only [i_lt, i_le, i_eq, T0] at c_2)
    refine lv_iconst (v := (-1)) hx hb dX2_firstSnap_9 (by decide) ?_
    refine lv_goto (tgt := 22) hx hb dX2_firstSnap_10 (by decide) ?_
    exact W.iret (v := (-1)) hx hb hr (fun t ht hW => ⟨(-1), rfl, trivial, ht⟩) (fun q h => absurd h List.not_mem_nil) dX2_firstSnap_22
set_option maxHeartbeats 8000000 in
set_option maxRecDepth 100000 in
theorem s_X2_isBroken (l : Launch) (dC : Nat → ClassId) (dI : Nat → Nat → Nat) (cB cI cJ cZ cL : ClassId) (a : Nat → Nat) (n_lines : Int32) (n_days : Int32) (n_law : Int32) (n_odds : Int32) (n_volts : Int32) (n_spans : Int32) (n_wetLines : Int32) (n_wet : Int32) (n_acts : Int32) (n_a_snapDays : Nat → Int32) (p0 : Int32) (p1 : Int32) (h0 : 0 ≤ Int32.toInt p0 ∧ Int32.toInt p0 < 5) : Met l yX2_isBroken (wy yX2_isBroken cX2_isBroken 3 (some .boolean)) ({ frames := 0, cells := 0, slots := 0, locals := 0 }) (va_Pc [.ref (a 4), .int p0, .int p1] (fun U => va_P (dC, dI) vwCl [((a 4), .inr (2, [.int n_lines, .int n_days, .int n_law, .int n_odds, .int n_volts, .int n_spans, .int n_wetLines, .int n_wet, .int n_acts, .ref (a 19), .ref (a 20), .ref (a 21), .ref (a 22), .ref (a 23), .ref (a 24), .ref (a 25), .ref (a 26)])), ((a 26), .inl (cI, 5, .inl n_a_snapDays))] U.heap ∧ va_K (dC, dI) vwCl (tyL cB cI cJ cZ cL) U ∧ NW U)) (vp_Si (fun r => True)) 0 0 (fun _ => False) := by
  refine Met.ofW (cc := cX2_isBroken) (maxL := 3) (ret := (some .boolean)) (by decide) rfl ?_
  intro p e s m args below meth c s₁ B hml hv
  obtain ⟨rfl, hP, hK, hN⟩ := hv
  have hx := B.exec
  have hb := B.bytes
  have hr := B.returns
  have ht : ∀ w ∈ lw_ok, w.before _ s = true := fun w h => atoms_spec (ws := wy yX2_isBroken cX2_isBroken 3 (some .boolean)) B.pre w (List.mem_cons_of_mem _ h)
  have hown : s.vm.findClass RX2 = some m.cls := findClass_of_methodNamed B.named
  have hlocks := B.notSynchronized
  have hl := lv_entry ([.ref (a 4), .int p0, .int p1]) (n := 3) (Nat.le_of_ble_eq_true rfl)
  rw [lg_entry_eq]
  generalize (lg_sl ([.ref (a 4), .int p0, .int p1]) ++ List.replicate (3 - (lg_sl ([.ref (a 4), .int p0, .int p1])).length) Slot.unset).toArray = ls at hl ⊢
  have hl : lv_has ls 3 [(0, .ref (a 4)), (1, .int p0), (2, .int p1)] := hl
  have hP : va_P (dC, dI) vwCl [((a 4), .inr (2, [.int n_lines, .int n_days, .int n_law, .int n_odds, .int n_volts, .int n_spans, .int n_wetLines, .int n_wet, .int n_acts, .ref (a 19), .ref (a 20), .ref (a 21), .ref (a 22), .ref (a 23), .ref (a 24), .ref (a 25), .ref (a 26)])), ((a 26), .inl (cI, 5, .inl n_a_snapDays))] s.heap := hP
  have rg_p0 := rgI p0
  have rg_p1 := rgI p1
  refine lv_aload_n hx hb dX2_isBroken_0 rfl (lv_at hl 0 rfl) ?_
  refine va_get (D := (dC, dI)) (ci := 2) (v := .ref (a 26)) (C := RX2) (T := TX2) (N := 17) hx hb ht iX2 hown hK hP 0 rfl rfl 16 (by decide) (ht _ w_246) (fun _ h9 => h9) rfl dX2_isBroken_1 ?_
  refine lv_iload_n hx hb dX2_isBroken_4 rfl (lv_at hl 1 rfl) ?_
  refine va_iald hx hb hK hP 1 1 rfl rfl (vp_in_iff.mpr (by omega)) dX2_isBroken_5 ?_
  refine lv_topi (fun y_1 ey_1 => ?_)
  refine lv_iconst (v := 2) hx hb dX2_isBroken_6 (by decide) ?_
  refine lv_iload_n hx hb dX2_isBroken_7 rfl (lv_at hl 2 rfl) ?_
  refine lv_ishl hx hb dX2_isBroken_8 ?_
  refine lv_topi (fun y_2 ey_2 => ?_)
  clear ey_2
  refine lv_iconst (v := 1) hx hb dX2_isBroken_9 (by decide) ?_
  refine lv_isub hx hb dX2_isBroken_10 ?_
  refine lv_topi (fun y_3 ey_3 => ?_)
  have ty_3 := isubF ey_3
  simp only [T1] at ty_3
  clear ey_3
  refine lv_iand hx hb dX2_isBroken_11 ?_
  refine lv_topi (fun y_4 ey_4 => ?_)
  clear ey_4
  refine lv_if_eq (tgt := 19) hx hb dX2_isBroken_12 (by decide) (fun c_5 => ?_) (fun c_5 => ?_)
  · (try simp only [i_lt, i_le, i_eq, T0] at c_5)
    refine lv_iconst (v := 0) hx hb dX2_isBroken_19 (by decide) ?_
    exact W.zret (v := 0) hx hb hr (rfl) (fun t ht hW => ⟨0, rfl, trivial, ht⟩) (fun q h => absurd h List.not_mem_nil) dX2_isBroken_20
  · (try simp only [i_lt, i_le, i_eq, T0] at c_5)
    refine lv_iconst (v := 1) hx hb dX2_isBroken_15 (by decide) ?_
    refine lv_goto (tgt := 20) hx hb dX2_isBroken_16 (by decide) ?_
    exact W.zret (v := 1) hx hb hr (rfl) (fun t ht hW => ⟨1, rfl, trivial, ht⟩) (fun q h => absurd h List.not_mem_nil) dX2_isBroken_20
