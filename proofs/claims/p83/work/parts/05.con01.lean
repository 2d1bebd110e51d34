set_option maxHeartbeats 8000000 in
set_option maxRecDepth 100000 in
theorem s_X3_has (l : Launch) (dC : Nat → ClassId) (dI : Nat → Nat → Nat) (cB cI cJ cZ cL : ClassId) (a : Nat → Nat) (ss : Nat → Int32) (p0 : Int32) (h0 : 0 ≤ Int32.toInt p0 ∧ Int32.toInt p0 ≤ 3) : Met l yX3_has (wy yX3_has cX3_has 2 (some .boolean)) ({ frames := 0, cells := 0, slots := 0, locals := 0 }) (va_Pc [.ref (a 7), .int p0] (fun U => va_P (dC, dI) vwCl [((a 7), .inr (3, [.ref (a 35), .ref (a 36), .ref (a 37)])), ((a 37), .inl (cI, 4, .inl ss))] U.heap ∧ va_K (dC, dI) vwCl (tyL cB cI cJ cZ cL) U ∧ NW U)) (vp_Si (fun r => True)) 0 0 (fun _ => False) := by
  refine Met.ofW (cc := cX3_has) (maxL := 2) (ret := (some .boolean)) (by decide) rfl ?_
  intro p e s m args below meth c s₁ B hml hv
  obtain ⟨rfl, hP, hK, hN⟩ := hv
  have hx := B.exec
  have hb := B.bytes
  have hr := B.returns
  have ht : ∀ w ∈ lw_ok, w.before _ s = true := fun w h => atoms_spec (ws := wy yX3_has cX3_has 2 (some .boolean)) B.pre w (List.mem_cons_of_mem _ h)
  have hown : s.vm.findClass RX3 = some m.cls := findClass_of_methodNamed B.named
  have hlocks := B.notSynchronized
  have hl := lv_entry ([.ref (a 7), .int p0]) (n := 2) (Nat.le_of_ble_eq_true rfl)
  rw [lg_entry_eq]
  generalize (lg_sl ([.ref (a 7), .int p0]) ++ List.replicate (2 - (lg_sl ([.ref (a 7), .int p0])).length) Slot.unset).toArray = ls at hl ⊢
  have hl : lv_has ls 2 [(0, .ref (a 7)), (1, .int p0)] := hl
  have hP : va_P (dC, dI) vwCl [((a 7), .inr (3, [.ref (a 35), .ref (a 36), .ref (a 37)])), ((a 37), .inl (cI, 4, .inl ss))] s.heap := hP
  have rg_p0 := rgI p0
  refine lv_aload_n hx hb dX3_has_0 rfl (lv_at hl 0 rfl) ?_
  refine va_get (D := (dC, dI)) (ci := 3) (v := .ref (a 37)) (C := RX3) (T := TX3) (N := 3) hx hb ht iX3 hown hK hP 0 rfl rfl 2 (by decide) (ht _ w_292) (fun _ h9 => h9) rfl dX3_has_1 ?_
  refine lv_iload_n hx hb dX3_has_4 rfl (lv_at hl 1 rfl) ?_
  refine va_iald hx hb hK hP 1 1 rfl rfl (vp_in_iff.mpr (by omega)) dX3_has_5 ?_
  refine lv_topi (fun y_1 ey_1 => ?_)
  refine lv_iconst (v := (-1)) hx hb dX3_has_6 (by decide) ?_
  refine lv_icmp_eq (tgt := 14) hx hb dX3_has_7 (by decide) (fun c_2 => ?_) (fun c_2 => ?_)
  · (try simp only [i_lt, i_le, i_eq, Tm1] at c_2)
    refine lv_iconst (v := 0) hx hb dX3_has_14 (by decide) ?_
    exact W.zret (v := 0) hx hb hr (rfl) (fun t ht hW => ⟨0, rfl, trivial, ht⟩) (fun q h => absurd h List.not_mem_nil) dX3_has_15
  · (try simp only [i_lt, i_le, i_eq, Tm1] at c_2)
    refine lv_iconst (v := 1) hx hb dX3_has_10 (by decide) ?_
    refine lv_goto (tgt := 15) hx hb dX3_has_11 (by decide) ?_
    exact W.zret (v := 1) hx hb hr (rfl) (fun t ht hW => ⟨1, rfl, trivial, ht⟩) (fun q h => absurd h List.not_mem_nil) dX3_has_15
set_option maxHeartbeats 8000000 in
set_option maxRecDepth 100000 in
theorem s_X3_used (l : Launch) (dC : Nat → ClassId) (dI : Nat → Nat → Nat) (cB cI cJ cZ cL : ClassId) (a : Nat → Nat) (ss : Nat → Int32)   : Met l yX3_used (wy yX3_used cX3_used 3 (some .int)) ({ frames := 1, cells := 0, slots := 0, locals := 40 }) (va_Pc [.ref (a 7)] (fun U => va_P (dC, dI) vwCl [((a 7), .inr (3, [.ref (a 35), .ref (a 36), .ref (a 37)])), ((a 37), .inl (cI, 4, .inl ss))] U.heap ∧ va_K (dC, dI) vwCl (tyL cB cI cJ cZ cL) U ∧ NW U)) (vp_Si (fun r => True)) 0 0 (fun _ => False) := by
  refine Met.ofW (cc := cX3_used) (maxL := 3) (ret := (some .int)) (by decide) rfl ?_
  intro p e s m args below meth c s₁ B hml hv
  obtain ⟨rfl, hP, hK, hN⟩ := hv
  have hx := B.exec
  have hb := B.bytes
  have hr := B.returns
  have ht : ∀ w ∈ lw_ok, w.before _ s = true := fun w h => atoms_spec (ws := wy yX3_used cX3_used 3 (some .int)) B.pre w (List.mem_cons_of_mem _ h)
  have hown : s.vm.findClass RX3 = some m.cls := findClass_of_methodNamed B.named
  have hlocks := B.notSynchronized
  have hl := lv_entry ([.ref (a 7)]) (n := 3) (Nat.le_of_ble_eq_true rfl)
  rw [lg_entry_eq]
  generalize (lg_sl ([.ref (a 7)]) ++ List.replicate (3 - (lg_sl ([.ref (a 7)])).length) Slot.unset).toArray = ls at hl ⊢
  have hl : lv_has ls 3 [(0, .ref (a 7))] := hl
  have hP : va_P (dC, dI) vwCl [((a 7), .inr (3, [.ref (a 35), .ref (a 36), .ref (a 37)])), ((a 37), .inl (cI, 4, .inl ss))] s.heap := hP
  refine lv_iconst (v := 0) hx hb dX3_used_0 (by decide) ?_
  refine lv_istore_n (lv' := [(1, .int 0), (0, .ref (a 7))]) hx hb dX3_used_1 rfl hl (by decide) rfl (fun ls hl => ?_)
  refine lv_iconst (v := 0) hx hb dX3_used_2 (by decide) ?_
  refine lv_istore_n (lv' := [(2, .int 0), (1, .int 0), (0, .ref (a 7))]) hx hb dX3_used_3 rfl hl (by decide) rfl (fun ls hl => ?_)
  have lp_11 : ∀ (d : Nat) (v_3 : Int32) (v_4 : Int32) (ls : Array Slot), ((0 ≤ Int32.toInt v_4)) → (2147483647 - Int32.toInt v_4).toNat < d → lv_has ls 3 [(2, .int v_4), (1, .int v_3), (0, .ref (a 7))] → W p l e (headSpec (wy yX3_used cX3_used 3 (some .int)) ({ frames := 1, cells := 0, slots := 0, locals := 40 })).room s m ([.ref (a 7)] : List Value).toArray below meth c s.heap [] 0 0 (MQ below (vp_Si (fun r => True)) ([.ref (a 7)] : List Value).toArray s 0 0 (fun _ => False)) (F0 m 4 ls []) := by
    intro d
    induction d with
    | zero => intro v_3 v_4  ls hI hM; exact absurd hM (Nat.not_lt_zero _)
    | succ d ih_12 =>
      intro v_3 v_4 ls hI hM hl
      refine lv_iload_n hx hb dX3_used_4 rfl (lv_at hl 0 rfl) ?_
      refine lv_iconst (v := 4) hx hb dX3_used_5 (by decide) ?_
      refine lv_icmp_ge (tgt := 26) hx hb dX3_used_6 (by decide) (fun c_13 => ?_) (fun c_13 => ?_)
      · (try simp only [i_lt, i_le, i_eq, T4] at c_13)
        refine lv_iload_n hx hb dX3_used_26 rfl (lv_at hl 1 rfl) ?_
        exact W.iret (v := v_3) hx hb hr (fun t ht hW => ⟨v_3, rfl, trivial, ht⟩) (fun q h => absurd h List.not_mem_nil) dX3_used_27
      · (try simp only [i_lt, i_le, i_eq, T4] at c_13)
        refine lv_aload_n hx hb dX3_used_9 rfl (lv_at hl 2 rfl) ?_
        refine lv_iload_n hx hb dX3_used_10 rfl (lv_at hl 0 rfl) ?_
        have hPc := hP.sub (ws' := [((a 7), .inr (3, [.ref (a 35), .ref (a 36), .ref (a 37)])), ((a 37), .inl (cI, 4, .inl ss))]) [0, 1] rfl
        refine vp_callSi (W.runV (As := [.int v_4]) (rest := []) ⟨hx, hb, hml, hown, ht⟩ (s_X3_has l dC dI cB cI cJ cZ cL a ss v_4 (by first | assumption | omega)) (cwV 1 ht (gV w_1209 w_1034 w_1035 w_110 w_1036) rfl rfl rfl (by decide +kernel) ⟨Nat.le_of_ble_eq_true rfl, Nat.le_of_ble_eq_true rfl⟩) (pVSn hN hK hPc (ci := 3) (q0 := 0) rfl rfl) rfl rfl hl.1 rfl (lv_room (Nat.le_of_ble_eq_true rfl)) dX3_used_11 ⟨Nat.le_of_ble_eq_true rfl, Nat.le_of_ble_eq_true rfl⟩) (fun r_14 hw => ?_)
        clear hPc
        clear hw
        refine lv_if_eq (tgt := 20) hx hb dX3_used_14 (by decide) (fun c_15 => ?_) (fun c_15 => ?_)
        · (try simp only [i_lt, i_le, i_eq, T0] at c_15)
          obtain ⟨y_16, ey_16⟩ : ∃ z : Int32, z = v_4 + 1 := ⟨_, rfl⟩
          have ty_16 := iaddF ey_16
          simp only [T1] at ty_16
          refine lv_iinc (v := y_16) (lv' := [(2, .int y_16), (1, .int v_3), (0, .ref (a 7))]) hx hb dX3_used_20 hl (k := 0) rfl (by rw [ey_16]; rfl) (by decide) rfl (fun ls hl => ?_)
          clear ey_16
          refine lv_goto (tgt := 4) hx hb dX3_used_23 (by decide) ?_
          exact ih_12 v_3 y_16 _ (by first | omega | assumption) (by omega) (lv_sub hl [0, 1, 2] rfl)
        · (try simp only [i_lt, i_le, i_eq, T0] at c_15)
          obtain ⟨y_17, ey_17⟩ : ∃ z : Int32, z = v_3 + 1 := ⟨_, rfl⟩
          have ty_17 := iaddF ey_17
          simp only [T1] at ty_17
          refine lv_iinc (v := y_17) (lv' := [(1, .int y_17), (2, .int v_4), (0, .ref (a 7))]) hx hb dX3_used_17 hl (k := 1) rfl (by rw [ey_17]; rfl) (by decide) rfl (fun ls hl => ?_)
          clear ey_17
          obtain ⟨y_18, ey_18⟩ : ∃ z : Int32, z = v_4 + 1 := ⟨_, rfl⟩
          have ty_18 := iaddF ey_18
          simp only [T1] at ty_18
          refine lv_iinc (v := y_18) (lv' := [(2, .int y_18), (1, .int y_17), (0, .ref (a 7))]) hx hb dX3_used_20 hl (k := 1) rfl (by rw [ey_18]; rfl) (by decide) rfl (fun ls hl => ?_)
          clear ey_18
          refine lv_goto (tgt := 4) hx hb dX3_used_23 (by decide) ?_
          exact ih_12 y_17 y_18 _ (by first | omega | assumption) (by omega) (lv_sub hl [0, 1, 2] rfl)
  exact lp_11 _ 0 0 _ (by first | omega | decide | assumption) (Nat.lt_succ_self _) (lv_sub hl [0, 1, 2] rfl)
set_option maxHeartbeats 8000000 in
set_option maxRecDepth 100000 in
theorem s_X3_at (l : Launch) (dC : Nat → ClassId) (dI : Nat → Nat → Nat) (cB cI cJ cZ cL : ClassId) (a : Nat → Nat) (sn : Nat → Int64) (p0 : Int32) (p1 : Int32) (h0 : 0 ≤ Int32.toInt p0 ∧ Int32.toInt p0 ≤ 3) (h1 : 0 ≤ Int32.toInt p1 ∧ Int32.toInt p1 < 60) : Met l yX3_at (wy yX3_at cX3_at 3 (some .long)) ({ frames := 0, cells := 0, slots := 0, locals := 0 }) (va_Pc [.ref (a 7), .int p0, .int p1] (fun U => va_P (dC, dI) vwCl [((a 7), .inr (3, [.ref (a 35), .ref (a 36), .ref (a 37)])), ((a 35), .inl (cJ, 240, .inr (.inl sn)))] U.heap ∧ va_K (dC, dI) vwCl (tyL cB cI cJ cZ cL) U ∧ NW U)) (vp_Sl (fun r => True)) 0 0 (fun _ => False) := by
  refine Met.ofW (cc := cX3_at) (maxL := 3) (ret := (some .long)) (by decide) rfl ?_
  intro p e s m args below meth c s₁ B hml hv
  obtain ⟨rfl, hP, hK, hN⟩ := hv
  have hx := B.exec
  have hb := B.bytes
  have hr := B.returns
  have ht : ∀ w ∈ lw_ok, w.before _ s = true := fun w h => atoms_spec (ws := wy yX3_at cX3_at 3 (some .long)) B.pre w (List.mem_cons_of_mem _ h)
  have hown : s.vm.findClass RX3 = some m.cls := findClass_of_methodNamed B.named
  have hlocks := B.notSynchronized
  have hl := lv_entry ([.ref (a 7), .int p0, .int p1]) (n := 3) (Nat.le_of_ble_eq_true rfl)
  rw [lg_entry_eq]
  generalize (lg_sl ([.ref (a 7), .int p0, .int p1]) ++ List.replicate (3 - (lg_sl ([.ref (a 7), .int p0, .int p1])).length) Slot.unset).toArray = ls at hl ⊢
  have hl : lv_has ls 3 [(0, .ref (a 7)), (1, .int p0), (2, .int p1)] := hl
  have hP : va_P (dC, dI) vwCl [((a 7), .inr (3, [.ref (a 35), .ref (a 36), .ref (a 37)])), ((a 35), .inl (cJ, 240, .inr (.inl sn)))] s.heap := hP
  have rg_p0 := rgI p0
  have rg_p1 := rgI p1
  refine lv_aload_n hx hb dX3_at_0 rfl (lv_at hl 0 rfl) ?_
  refine va_get (D := (dC, dI)) (ci := 3) (v := .ref (a 35)) (C := RX3) (T := TX3) (N := 3) hx hb ht iX3 hown hK hP 0 rfl rfl 0 (by decide) (ht _ w_289) (fun _ h9 => h9) rfl dX3_at_1 ?_
  refine lv_iload_n hx hb dX3_at_4 rfl (lv_at hl 1 rfl) ?_
  refine lv_bipush (v := 60) hx hb dX3_at_5 (by decide) ?_
  refine lv_imul hx hb dX3_at_7 ?_
  refine lv_topi (fun y_1 ey_1 => ?_)
  have ty_1 := imulF ey_1
  simp only [T60] at ty_1
  clear ey_1
  refine lv_iload_n hx hb dX3_at_8 rfl (lv_at hl 2 rfl) ?_
  refine lv_iadd hx hb dX3_at_9 ?_
  refine lv_topi (fun y_2 ey_2 => ?_)
  have ty_2 := iaddF ey_2
  clear ey_2
  refine va_lald hx hb hK hP 1 2 rfl rfl (vp_in_iff.mpr (by omega)) dX3_at_10 ?_
  refine lv_topl (fun y_3 ey_3 => ?_)
  exact W.lret (v := y_3) hx hb hr (fun t ht hW => ⟨y_3, rfl, trivial, ht⟩) (fun q h => absurd h List.not_mem_nil) dX3_at_11
set_option maxHeartbeats 8000000 in
set_option maxRecDepth 100000 in
theorem s_X3_cut (l : Launch) (dC : Nat → ClassId) (dI : Nat → Nat → Nat) (cB cI cJ cZ cL : ClassId) (a : Nat → Nat)  (p0 : Int32) (p1 : Int64)  : Met l yX3_cut (wy yX3_cut cX3_cut 3 (some .long)) ({ frames := 0, cells := 0, slots := 0, locals := 0 }) (va_Pc [.int p0, .long p1] (fun U => va_P (dC, dI) vwCl [] U.heap ∧ va_K (dC, dI) vwCl (tyL cB cI cJ cZ cL) U ∧ NW U)) (vp_Sl (fun r => True)) 0 0 (fun _ => False) := by
  refine Met.ofW (cc := cX3_cut) (maxL := 3) (ret := (some .long)) (by decide) rfl ?_
  intro p e s m args below meth c s₁ B hml hv
  obtain ⟨rfl, hP, hK, hN⟩ := hv
  have hx := B.exec
  have hb := B.bytes
  have hr := B.returns
  have ht : ∀ w ∈ lw_ok, w.before _ s = true := fun w h => atoms_spec (ws := wy yX3_cut cX3_cut 3 (some .long)) B.pre w (List.mem_cons_of_mem _ h)
  have hown : s.vm.findClass RX3 = some m.cls := findClass_of_methodNamed B.named
  have hlocks := B.notSynchronized
  have hl := lv_entry ([.int p0, .long p1]) (n := 3) (Nat.le_of_ble_eq_true rfl)
  rw [lg_entry_eq]
  generalize (lg_sl ([.int p0, .long p1]) ++ List.replicate (3 - (lg_sl ([.int p0, .long p1])).length) Slot.unset).toArray = ls at hl ⊢
  have hl : lv_has ls 3 [(0, .int p0), (1, .long p1)] := hl
  have hP : va_P (dC, dI) vwCl [] s.heap := hP
  have rg_p0 := rgI p0
  refine lv_iload_n hx hb dX3_cut_0 rfl (lv_at hl 0 rfl) ?_
  by_cases c_1 : p0 = 0
  · refine lv_topi (fun y_2 ey_2 => ?_)
    obtain rfl : y_2 = 0 := ey_2.trans c_1
    refine lv_tableIn (off := 27) (tgt := 28) hx hb dX3_cut_1 (by decide) (by decide) (by decide) (by decide) ?_
    simp only [i_eq, T0] at c_1
    refine lv_lload_n hx hb dX3_cut_28 rfl (lv_at hl 1 rfl) ?_
    refine lv_l2i hx hb dX3_cut_29 rfl ?_
    refine lv_topi (fun y_3 ey_3 => ?_)
    clear ey_3
    refine lv_i2b hx hb dX3_cut_30 rfl ?_
    refine lv_topi (fun y_4 ey_4 => ?_)
    clear ey_4
    refine lv_i2l hx hb dX3_cut_31 rfl ?_
    refine lv_topl (fun y_5 ey_5 => ?_)
    have ty_5 := i2lF ey_5
    clear ey_5
    exact W.lret (v := y_5) hx hb hr (fun t ht hW => ⟨y_5, rfl, trivial, ht⟩) (fun q h => absurd h List.not_mem_nil) dX3_cut_32
  simp only [i_eq, T0] at c_1
  by_cases c_6 : p0 = 1
  · refine lv_topi (fun y_7 ey_7 => ?_)
    obtain rfl : y_7 = 1 := ey_7.trans c_6
    refine lv_tableIn (off := 32) (tgt := 33) hx hb dX3_cut_1 (by decide) (by decide) (by decide) (by decide) ?_
    simp only [i_eq, T1] at c_6
    refine lv_lload_n hx hb dX3_cut_33 rfl (lv_at hl 1 rfl) ?_
    refine lv_l2i hx hb dX3_cut_34 rfl ?_
    refine lv_topi (fun y_8 ey_8 => ?_)
    clear ey_8
    refine lv_i2s hx hb dX3_cut_35 rfl ?_
    refine lv_topi (fun y_9 ey_9 => ?_)
    clear ey_9
    refine lv_i2l hx hb dX3_cut_36 rfl ?_
    refine lv_topl (fun y_10 ey_10 => ?_)
    have ty_10 := i2lF ey_10
    clear ey_10
    exact W.lret (v := y_10) hx hb hr (fun t ht hW => ⟨y_10, rfl, trivial, ht⟩) (fun q h => absurd h List.not_mem_nil) dX3_cut_37
  simp only [i_eq, T1] at c_6
  by_cases c_11 : p0 = 2
  · refine lv_topi (fun y_12 ey_12 => ?_)
    obtain rfl : y_12 = 2 := ey_12.trans c_11
    refine lv_tableIn (off := 37) (tgt := 38) hx hb dX3_cut_1 (by decide) (by decide) (by decide) (by decide) ?_
    simp only [i_eq, T2] at c_11
    refine lv_lload_n hx hb dX3_cut_38 rfl (lv_at hl 1 rfl) ?_
    refine lv_l2i hx hb dX3_cut_39 rfl ?_
    refine lv_topi (fun y_13 ey_13 => ?_)
    clear ey_13
    refine lv_i2l hx hb dX3_cut_40 rfl ?_
    refine lv_topl (fun y_14 ey_14 => ?_)
    have ty_14 := i2lF ey_14
    clear ey_14
    exact W.lret (v := y_14) hx hb hr (fun t ht hW => ⟨y_14, rfl, trivial, ht⟩) (fun q h => absurd h List.not_mem_nil) dX3_cut_41
  simp only [i_eq, T2] at c_11
  refine lv_tableOut (tgt := 42) hx hb dX3_cut_1 (by omega) (by decide) ?_
  refine lv_lload_n hx hb dX3_cut_42 rfl (lv_at hl 1 rfl) ?_
  exact W.lret (v := p1) hx hb hr (fun t ht hW => ⟨p1, rfl, trivial, ht⟩) (fun q h => absurd h List.not_mem_nil) dX3_cut_43
set_option maxHeartbeats 8000000 in
set_option maxRecDepth 100000 in
theorem s_X3_put (l : Launch) (dC : Nat → ClassId) (dI : Nat → Nat → Nat) (cB cI cJ cZ cL : ClassId) (sz : Nat) (a : Nat → Nat) (sn : Nat → Int64) (sw : Nat → Int32) (p0 : Int32) (p1 : Int32) (p2 : Int64) (h0 : 0 ≤ Int32.toInt p0 ∧ Int32.toInt p0 ≤ 3) (h1 : 0 ≤ Int32.toInt p1 ∧ Int32.toInt p1 < 60) : Met l yX3_put (wy yX3_put cX3_put 5 none) ({ frames := 1, cells := 0, slots := 0, locals := 40 }) (va_Pc [.ref (a 7), .int p0, .int p1, .long p2] (fun U => U.heap.size = sz ∧ va_P (dC, dI) vwCl [((a 7), .inr (3, [.ref (a 35), .ref (a 36), .ref (a 37)])), ((a 35), .inl (cJ, 240, .inr (.inl sn))), ((a 36), .inl (cI, 4, .inl sw))] U.heap ∧ va_K (dC, dI) vwCl (tyL cB cI cJ cZ cL) U ∧ va_D (fun _ => True) [((a 7), .inr (3, [.ref (a 35), .ref (a 36), .ref (a 37)])), ((a 35), .inl (cJ, 240, .inr (.inl sn))), ((a 36), .inl (cI, 4, .inl sw))] ∧ NW U)) (va_Qv (fun u => True) (fun (u : (Nat → Int64)) t => va_P (dC, dI) vwCl [((a 7), .inr (3, [.ref (a 35), .ref (a 36), .ref (a 37)])), ((a 35), .inl (cJ, 240, .inr (.inl u))), ((a 36), .inl (cI, 4, .inl sw))] t.heap ∧ va_D (va_A [((a 7), .inr (3, [.ref (a 35), .ref (a 36), .ref (a 37)])), ((a 35), .inl (cJ, 240, .inr (.inl sn))), ((a 36), .inl (cI, 4, .inl sw))] sz) [((a 7), .inr (3, [.ref (a 35), .ref (a 36), .ref (a 37)])), ((a 35), .inl (cJ, 240, .inr (.inl u))), ((a 36), .inl (cI, 4, .inl sw))]) (va_A [((a 7), .inr (3, [.ref (a 35), .ref (a 36), .ref (a 37)])), ((a 35), .inl (cJ, 240, .inr (.inl sn))), ((a 36), .inl (cI, 4, .inl sw))] sz)) 0 0 (va_A [((a 7), .inr (3, [.ref (a 35), .ref (a 36), .ref (a 37)])), ((a 35), .inl (cJ, 240, .inr (.inl sn))), ((a 36), .inl (cI, 4, .inl sw))] sz) := by
  refine Met.ofW (cc := cX3_put) (maxL := 5) (ret := none) (by decide) rfl ?_
  intro p e s m args below meth c s₁ B hml hv
  obtain ⟨rfl, hsz, hP, hK, hD0, hN⟩ := hv
  have hx := B.exec
  have hb := B.bytes
  have hr := B.returns
  have ht : ∀ w ∈ lw_ok, w.before _ s = true := fun w h => atoms_spec (ws := wy yX3_put cX3_put 5 none) B.pre w (List.mem_cons_of_mem _ h)
  have hown : s.vm.findClass RX3 = some m.cls := findClass_of_methodNamed B.named
  have hlocks := B.notSynchronized
  subst hsz
  have hD := hD0.self (sz := s.heap.size)
  generalize hAe : va_A [((a 7), .inr (3, [.ref (a 35), .ref (a 36), .ref (a 37)])), ((a 35), .inl (cJ, 240, .inr (.inl sn))), ((a 36), .inl (cI, 4, .inl sw))] s.heap.size = A at hD ⊢
  have hA : ∀ q : Nat, s.heap.size ≤ q → A q := fun q h => by rw [← hAe]; exact Or.inr h
  have hS : va_S A s.heap s.heap [] := va_S.rf
  clear hAe hD0
  have hl := lv_entry ([.ref (a 7), .int p0, .int p1, .long p2]) (n := 5) (Nat.le_of_ble_eq_true rfl)
  rw [lg_entry_eq]
  generalize (lg_sl ([.ref (a 7), .int p0, .int p1, .long p2]) ++ List.replicate (5 - (lg_sl ([.ref (a 7), .int p0, .int p1, .long p2])).length) Slot.unset).toArray = ls at hl ⊢
  have hl : lv_has ls 5 [(0, .ref (a 7)), (1, .int p0), (2, .int p1), (3, .long p2)] := hl
  have hP : va_P (dC, dI) vwCl [((a 7), .inr (3, [.ref (a 35), .ref (a 36), .ref (a 37)])), ((a 35), .inl (cJ, 240, .inr (.inl sn))), ((a 36), .inl (cI, 4, .inl sw))] s.heap := hP
  have hD : va_D A [((a 7), .inr (3, [.ref (a 35), .ref (a 36), .ref (a 37)])), ((a 35), .inl (cJ, 240, .inr (.inl sn))), ((a 36), .inl (cI, 4, .inl sw))] := hD
  have rg_p0 := rgI p0
  have rg_p1 := rgI p1
  refine lv_aload_n hx hb dX3_put_0 rfl (lv_at hl 0 rfl) ?_
  refine va_get (D := (dC, dI)) (ci := 3) (v := .ref (a 35)) (C := RX3) (T := TX3) (N := 3) hx hb ht iX3 hown hK hP 0 rfl rfl 0 (by decide) (ht _ w_289) (fun _ h9 => h9) rfl dX3_put_1 ?_
  refine lv_iload_n hx hb dX3_put_4 rfl (lv_at hl 1 rfl) ?_
  refine lv_bipush (v := 60) hx hb dX3_put_5 (by decide) ?_
  refine lv_imul hx hb dX3_put_7 ?_
  refine lv_topi (fun y_1 ey_1 => ?_)
  have ty_1 := imulF ey_1
  simp only [T60] at ty_1
  clear ey_1
  refine lv_iload_n hx hb dX3_put_8 rfl (lv_at hl 2 rfl) ?_
  refine lv_iadd hx hb dX3_put_9 ?_
  refine lv_topi (fun y_2 ey_2 => ?_)
  have ty_2 := iaddF ey_2
  clear ey_2
  refine lv_aload_n hx hb dX3_put_10 rfl (lv_at hl 0 rfl) ?_
  refine va_get (D := (dC, dI)) (ci := 3) (v := .ref (a 36)) (C := RX3) (T := TX3) (N := 3) hx hb ht iX3 hown hK hP 0 rfl rfl 1 (by decide) (ht _ w_290) (fun _ h9 => h9) rfl dX3_put_11 ?_
  refine lv_iload_n hx hb dX3_put_14 rfl (lv_at hl 1 rfl) ?_
  refine va_iald hx hb hK hP 2 1 rfl rfl (vp_in_iff.mpr (by omega)) dX3_put_15 ?_
  refine lv_topi (fun y_3 ey_3 => ?_)
  refine lv_lload_n hx hb dX3_put_16 rfl (lv_at hl 3 rfl) ?_
  have hPc := hP.sub (ws' := []) [] rfl
  refine vp_callSl (W.runS (As := [.int y_3, .long p2]) (rest := [.int y_2, .ref (a 35)]) ⟨hx, hb, hml, hown, ht⟩ (s_X3_cut l dC dI cB cI cJ cZ cL a y_3 p2) (va_cwS 2 ht (gQ w_1240 w_1241 w_110 w_1242) rfl rfl rfl (by decide +kernel) ⟨Nat.le_of_ble_eq_true rfl, Nat.le_of_ble_eq_true rfl⟩) (pSSn hN hK hPc) rfl rfl hl.1 rfl (lv_room (Nat.le_of_ble_eq_true rfl)) dX3_put_17 ⟨Nat.le_of_ble_eq_true rfl, Nat.le_of_ble_eq_true rfl⟩) (fun r_4 hw => ?_)
  clear hPc
  clear hw
  refine va_last hx hb hK hP hD hS 1 2 rfl rfl (vp_in_iff.mpr (by omega)) dX3_put_20 (fun H locs hP hD hS => ?_)
  obtain ⟨f_5, ef_5⟩ : ∃ z : Nat → Int64, z = vp_updL sn (Int32.toNatClampNeg y_2) r_4 := ⟨_, rfl⟩
  rw [← ef_5] at hP hD
  clear ef_5
  have hP : va_P (dC, dI) vwCl [((a 7), .inr (3, [.ref (a 35), .ref (a 36), .ref (a 37)])), ((a 35), .inl (cJ, 240, .inr (.inl f_5))), ((a 36), .inl (cI, 4, .inl sw))] H := hP
  have hD : va_D A [((a 7), .inr (3, [.ref (a 35), .ref (a 36), .ref (a 37)])), ((a 35), .inl (cJ, 240, .inr (.inl f_5))), ((a 36), .inl (cI, 4, .inl sw))] := hD
  have hP9 := hP.sub (ws' := [((a 7), .inr (3, [.ref (a 35), .ref (a 36), .ref (a 37)])), ((a 35), .inl (cJ, 240, .inr (.inl f_5))), ((a 36), .inl (cI, 4, .inl sw))]) [0, 1, 2] rfl
  have hD9 := hD.sub (ws' := [((a 7), .inr (3, [.ref (a 35), .ref (a 36), .ref (a 37)])), ((a 35), .inl (cJ, 240, .inr (.inl f_5))), ((a 36), .inl (cI, 4, .inl sw))]) [0, 1, 2] (by decide) rfl
  exact W.vret hx hb hr (fun t ht hW => ⟨⟨f_5, rfl, trivial, ⟨by rw [ht]; exact hP9, hD9⟩⟩, hS.F ht⟩) hS.2.2 dX3_put_21
set_option maxHeartbeats 8000000 in
set_option maxRecDepth 100000 in
theorem s_X5_at (l : Launch) (dC : Nat → ClassId) (dI : Nat → Nat → Nat) (cB cI cJ cZ cL : ClassId) (a : Nat → Nat) (tl : Int32) (tb : Nat → Int32) (p0 : Int32) (htl : 0 ≤ Int32.toInt tl ∧ Int32.toInt tl ≤ 500) : Met l yX5_at (wy yX5_at cX5_at 2 (some .int)) ({ frames := 0, cells := 0, slots := 0, locals := 0 }) (va_Pc [.ref (a 1), .int p0] (fun U => va_P (dC, dI) vwCl [((a 1), .inr (5, [.ref (a 15), .int tl])), ((a 15), .inl (cB, 500, .inl tb))] U.heap ∧ va_K (dC, dI) vwCl (tyL cB cI cJ cZ cL) U ∧ NW U)) (vp_Si (fun r => True)) 0 0 (fun _ => False) := by
  refine Met.ofW (cc := cX5_at) (maxL := 2) (ret := (some .int)) (by decide) rfl ?_
  intro p e s m args below meth c s₁ B hml hv
  obtain ⟨rfl, hP, hK, hN⟩ := hv
  have hx := B.exec
  have hb := B.bytes
  have hr := B.returns
  have ht : ∀ w ∈ lw_ok, w.before _ s = true := fun w h => atoms_spec (ws := wy yX5_at cX5_at 2 (some .int)) B.pre w (List.mem_cons_of_mem _ h)
  have hown : s.vm.findClass RX5 = some m.cls := findClass_of_methodNamed B.named
  have hlocks := B.notSynchronized
  have hl := lv_entry ([.ref (a 1), .int p0]) (n := 2) (Nat.le_of_ble_eq_true rfl)
  rw [lg_entry_eq]
  generalize (lg_sl ([.ref (a 1), .int p0]) ++ List.replicate (2 - (lg_sl ([.ref (a 1), .int p0])).length) Slot.unset).toArray = ls at hl ⊢
  have hl : lv_has ls 2 [(0, .ref (a 1)), (1, .int p0)] := hl
  have hP : va_P (dC, dI) vwCl [((a 1), .inr (5, [.ref (a 15), .int tl])), ((a 15), .inl (cB, 500, .inl tb))] s.heap := hP
  have rg_p0 := rgI p0
  refine lv_iload_n hx hb dX5_at_0 rfl (lv_at hl 1 rfl) ?_
  refine lv_if_lt (tgt := 25) hx hb dX5_at_1 (by decide) (fun c_1 => ?_) (fun c_1 => ?_)
  · (try simp only [i_lt, i_le, i_eq, T0] at c_1)
    refine lv_iconst (v := 0) hx hb dX5_at_25 (by decide) ?_
    exact W.iret (v := 0) hx hb hr (fun t ht hW => ⟨0, rfl, trivial, ht⟩) (fun q h => absurd h List.not_mem_nil) dX5_at_26
  · (try simp only [i_lt, i_le, i_eq, T0] at c_1)
    refine lv_iload_n hx hb dX5_at_4 rfl (lv_at hl 1 rfl) ?_
    refine lv_aload_n hx hb dX5_at_5 rfl (lv_at hl 0 rfl) ?_
    refine va_get (D := (dC, dI)) (ci := 5) (v := .int tl) (C := RX5) (T := TX5) (N := 2) hx hb ht iX5 hown hK hP 0 rfl rfl 1 (by decide) (ht _ w_138) (fun _ h9 => h9) rfl dX5_at_6 ?_
    refine lv_icmp_ge (tgt := 25) hx hb dX5_at_9 (by decide) (fun c_2 => ?_) (fun c_2 => ?_)
    · (try simp only [i_lt, i_le, i_eq] at c_2)
      refine lv_iconst (v := 0) hx hb dX5_at_25 (by decide) ?_
      exact W.iret (v := 0) hx hb hr (fun t ht hW => ⟨0, rfl, trivial, ht⟩) (fun q h => absurd h List.not_mem_nil) dX5_at_26
    · (try simp only [i_lt, i_le, i_eq] at c_2)
      refine lv_aload_n hx hb dX5_at_12 rfl (lv_at hl 0 rfl) ?_
      refine va_get (D := (dC, dI)) (ci := 5) (v := .ref (a 15)) (C := RX5) (T := TX5) (N := 2) hx hb ht iX5 hown hK hP 0 rfl rfl 0 (by decide) (ht _ w_137) (fun _ h9 => h9) rfl dX5_at_13 ?_
      refine lv_iload_n hx hb dX5_at_16 rfl (lv_at hl 1 rfl) ?_
      refine va_bald hx hb hK hP 1 0 rfl rfl (vp_in_iff.mpr (by omega)) dX5_at_17 ?_
      refine lv_topi (fun y_3 ey_3 => ?_)
      refine lv_sipush (v := 255) hx hb dX5_at_18 (by decide) ?_
      refine lv_iand hx hb dX5_at_21 ?_
      refine lv_topi (fun y_4 ey_4 => ?_)
      have ty_4 := iandF (m := 255) ey_4 (by decide)
      simp only [T255] at ty_4
      clear ey_4
      refine lv_goto (tgt := 26) hx hb dX5_at_22 (by decide) ?_
      exact W.iret (v := y_4) hx hb hr (fun t ht hW => ⟨y_4, rfl, trivial, ht⟩) (fun q h => absurd h List.not_mem_nil) dX5_at_26
set_option maxHeartbeats 8000000 in
set_option maxRecDepth 100000 in
theorem s_X0_commonDivisor (l : Launch) (dC : Nat → ClassId) (dI : Nat → Nat → Nat) (cB cI cJ cZ cL : ClassId) (a : Nat → Nat)  (p0 : Int64) (p1 : Int64)  : Met l yX0_commonDivisor (wy yX0_commonDivisor cX0_commonDivisor 11 (some .long)) ({ frames := 0, cells := 0, slots := 0, locals := 0 }) (va_Pc [.long p0, .long p1] (fun U => va_P (dC, dI) vwCl [] U.heap ∧ va_K (dC, dI) vwCl (tyL cB cI cJ cZ cL) U ∧ NW U)) (vp_Sl (fun r => True)) 0 0 (fun _ => False) := by
  refine Met.ofW (cc := cX0_commonDivisor) (maxL := 11) (ret := (some .long)) (by decide) rfl ?_
  intro p e s m args below meth c s₁ B hml hv
  obtain ⟨rfl, hP, hK, hN⟩ := hv
  have hx := B.exec
  have hb := B.bytes
  have hr := B.returns
  have ht : ∀ w ∈ lw_ok, w.before _ s = true := fun w h => atoms_spec (ws := wy yX0_commonDivisor cX0_commonDivisor 11 (some .long)) B.pre w (List.mem_cons_of_mem _ h)
  have hown : s.vm.findClass RX0 = some m.cls := findClass_of_methodNamed B.named
  have hlocks := B.notSynchronized
  have hl := lv_entry ([.long p0, .long p1]) (n := 11) (Nat.le_of_ble_eq_true rfl)
  rw [lg_entry_eq]
  generalize (lg_sl ([.long p0, .long p1]) ++ List.replicate (11 - (lg_sl ([.long p0, .long p1])).length) Slot.unset).toArray = ls at hl ⊢
  have hl : lv_has ls 11 [(0, .long p0), (2, .long p1)] := hl
  have hP : va_P (dC, dI) vwCl [] s.heap := hP
  refine lv_lload_n hx hb dX0_commonDivisor_0 rfl (lv_at hl 0 rfl) ?_
  refine lv_lstore (lv' := [(4, .long p0), (0, .long p0), (2, .long p1)]) hx hb dX0_commonDivisor_1 hl (by decide) rfl (fun ls hl => ?_)
  refine lv_lload_n hx hb dX0_commonDivisor_3 rfl (lv_at hl 2 rfl) ?_
  refine lv_lstore (lv' := [(6, .long p1), (4, .long p0), (0, .long p0), (2, .long p1)]) hx hb dX0_commonDivisor_4 hl (by decide) rfl (fun ls hl => ?_)
  refine lv_iconst (v := 0) hx hb dX0_commonDivisor_6 (by decide) ?_
  refine lv_istore (lv' := [(8, .int 0), (6, .long p1), (4, .long p0), (0, .long p0), (2, .long p1)]) hx hb dX0_commonDivisor_7 hl (by decide) rfl (fun ls hl => ?_)
  have lp_10 : ∀ (d : Nat) (v_3 : Int64) (v_4 : Int64) (v_5 : Int32) (ls : Array Slot), ((0 ≤ Int32.toInt v_5 ∧ Int32.toInt v_5 ≤ 100)) → (100 - Int32.toInt v_5).toNat < d → lv_has ls 11 [(8, .int v_5), (6, .long v_4), (4, .long v_3), (0, .long p0), (2, .long p1)] → W p l e (headSpec (wy yX0_commonDivisor cX0_commonDivisor 11 (some .long)) ({ frames := 0, cells := 0, slots := 0, locals := 0 })).room s m ([.long p0, .long p1] : List Value).toArray below meth c s.heap [] 0 0 (MQ below (vp_Sl (fun r => True)) ([.long p0, .long p1] : List Value).toArray s 0 0 (fun _ => False)) (F0 m 9 ls []) := by
    intro d
    induction d with
    | zero => intro v_3 v_4 v_5  ls hI hM; exact absurd hM (Nat.not_lt_zero _)
    | succ d ih_11 =>
      intro v_3 v_4 v_5 ls hI hM hl
      refine lv_iload hx hb dX0_commonDivisor_9 (lv_at hl 0 rfl) ?_
      refine lv_bipush (v := 100) hx hb dX0_commonDivisor_11 (by decide) ?_
      refine lv_icmp_ge (tgt := 44) hx hb dX0_commonDivisor_13 (by decide) (fun c_12 => ?_) (fun c_12 => ?_)
      · (try simp only [i_lt, i_le, i_eq, T100] at c_12)
        refine lv_lload hx hb dX0_commonDivisor_44 (lv_at hl 2 rfl) ?_
        exact W.lret (v := v_3) hx hb hr (fun t ht hW => ⟨v_3, rfl, trivial, ht⟩) (fun q h => absurd h List.not_mem_nil) dX0_commonDivisor_46
      · (try simp only [i_lt, i_le, i_eq, T100] at c_12)
        refine lv_lload hx hb dX0_commonDivisor_16 (lv_at hl 1 rfl) ?_
        refine lv_lconst (v := 0) hx hb dX0_commonDivisor_18 (by decide) ?_
        refine W.lcmp hx hb dX0_commonDivisor_19 ?_
        refine lv_if_eq (tgt := 44) hx hb dX0_commonDivisor_20 (by decide) (fun c_13 => ?_) (fun c_13 => ?_)
        · simp only [lg_cmp_lt, lg_cmp_le, lg_cmp_gt, lg_cmp_ge, lg_cmp_eq] at c_13
          (try simp only [l_lt, l_le, l_eq, L0] at c_13)
          refine lv_lload hx hb dX0_commonDivisor_44 (lv_at hl 2 rfl) ?_
          exact W.lret (v := v_3) hx hb hr (fun t ht hW => ⟨v_3, rfl, trivial, ht⟩) (fun q h => absurd h List.not_mem_nil) dX0_commonDivisor_46
        · simp only [lg_cmp_lt, lg_cmp_le, lg_cmp_gt, lg_cmp_ge, lg_cmp_eq] at c_13
          (try simp only [l_lt, l_le, l_eq, L0] at c_13)
          refine lv_lload hx hb dX0_commonDivisor_23 (lv_at hl 2 rfl) ?_
          refine lv_lload hx hb dX0_commonDivisor_25 (lv_at hl 1 rfl) ?_
          refine lv_lrem hx hb dX0_commonDivisor_27 (by rw [l_eq]; simp only [L0]; omega) ?_
          refine lv_topl (fun y_14 ey_14 => ?_)
          clear ey_14
          refine lv_lstore (lv' := [(9, .long y_14), (8, .int v_5), (6, .long v_4), (4, .long v_3), (0, .long p0), (2, .long p1)]) hx hb dX0_commonDivisor_28 hl (by decide) rfl (fun ls hl => ?_)
          refine lv_lload hx hb dX0_commonDivisor_30 (lv_at hl 2 rfl) ?_
          refine lv_lstore (lv' := [(4, .long v_4), (9, .long y_14), (8, .int v_5), (6, .long v_4), (0, .long p0), (2, .long p1)]) hx hb dX0_commonDivisor_32 hl (by decide) rfl (fun ls hl => ?_)
          refine lv_lload hx hb dX0_commonDivisor_34 (lv_at hl 1 rfl) ?_
          refine lv_lstore (lv' := [(6, .long y_14), (4, .long v_4), (9, .long y_14), (8, .int v_5), (0, .long p0), (2, .long p1)]) hx hb dX0_commonDivisor_36 hl (by decide) rfl (fun ls hl => ?_)
          obtain ⟨y_15, ey_15⟩ : ∃ z : Int32, z = v_5 + 1 := ⟨_, rfl⟩
          have ty_15 := iaddF ey_15
          simp only [T1] at ty_15
          refine lv_iinc (v := y_15) (lv' := [(8, .int y_15), (6, .long y_14), (4, .long v_4), (9, .long y_14), (0, .long p0), (2, .long p1)]) hx hb dX0_commonDivisor_38 hl (k := 3) rfl (by rw [ey_15]; rfl) (by decide) rfl (fun ls hl => ?_)
          clear ey_15
          refine lv_goto (tgt := 9) hx hb dX0_commonDivisor_41 (by decide) ?_
          exact ih_11 v_4 y_14 y_15 _ (by first | omega | assumption) (by omega) (lv_sub hl [0, 1, 2, 4, 5] rfl)
  exact lp_10 _ p0 p1 0 _ (by first | omega | decide | assumption) (Nat.lt_succ_self _) (lv_sub hl [0, 1, 2, 3, 4] rfl)
set_option maxHeartbeats 8000000 in
set_option maxRecDepth 100000 in
theorem s_X0_set (l : Launch) (dC : Nat → ClassId) (dI : Nat → Nat → Nat) (cB cI cJ cZ cL : ClassId) (sz : Nat) (a : Nat → Nat) (fa : Int64) (fb : Int64) (p0 : Int64) (p1 : Int64)  : Met l yX0_set (wy yX0_set cX0_set 7 none) ({ frames := 1, cells := 0, slots := 0, locals := 40 }) (va_Pc [.ref (a 10), .long p0, .long p1] (fun U => U.heap.size = sz ∧ va_P (dC, dI) vwCl [((a 10), .inr (0, [.long fa, .long fb]))] U.heap ∧ va_K (dC, dI) vwCl (tyL cB cI cJ cZ cL) U ∧ va_D (fun _ => True) [((a 10), .inr (0, [.long fa, .long fb]))] ∧ NW U)) (va_Qv (fun u => True) (fun (u : (Int64) × (Int64)) t => va_P (dC, dI) vwCl [((a 10), .inr (0, [.long u.1, .long u.2]))] t.heap ∧ va_D (va_A [((a 10), .inr (0, [.long fa, .long fb]))] sz) [((a 10), .inr (0, [.long u.1, .long u.2]))]) (va_A [((a 10), .inr (0, [.long fa, .long fb]))] sz)) 0 0 (va_A [((a 10), .inr (0, [.long fa, .long fb]))] sz) := by
  refine Met.ofW (cc := cX0_set) (maxL := 7) (ret := none) (by decide) rfl ?_
  intro p e s m args below meth c s₁ B hml hv
  obtain ⟨rfl, hsz, hP, hK, hD0, hN⟩ := hv
  have hx := B.exec
  have hb := B.bytes
  have hr := B.returns
  have ht : ∀ w ∈ lw_ok, w.before _ s = true := fun w h => atoms_spec (ws := wy yX0_set cX0_set 7 none) B.pre w (List.mem_cons_of_mem _ h)
  have hown : s.vm.findClass RX0 = some m.cls := findClass_of_methodNamed B.named
  have hlocks := B.notSynchronized
  subst hsz
  have hD := hD0.self (sz := s.heap.size)
  generalize hAe : va_A [((a 10), .inr (0, [.long fa, .long fb]))] s.heap.size = A at hD ⊢
  have hA : ∀ q : Nat, s.heap.size ≤ q → A q := fun q h => by rw [← hAe]; exact Or.inr h
  have hS : va_S A s.heap s.heap [] := va_S.rf
  clear hAe hD0
  have hl := lv_entry ([.ref (a 10), .long p0, .long p1]) (n := 7) (Nat.le_of_ble_eq_true rfl)
  rw [lg_entry_eq]
  generalize (lg_sl ([.ref (a 10), .long p0, .long p1]) ++ List.replicate (7 - (lg_sl ([.ref (a 10), .long p0, .long p1])).length) Slot.unset).toArray = ls at hl ⊢
  have hl : lv_has ls 7 [(0, .ref (a 10)), (1, .long p0), (3, .long p1)] := hl
  have hP : va_P (dC, dI) vwCl [((a 10), .inr (0, [.long fa, .long fb]))] s.heap := hP
  have hD : va_D A [((a 10), .inr (0, [.long fa, .long fb]))] := hD
  refine lv_lload_n hx hb dX0_set_0 rfl (lv_at hl 1 rfl) ?_
  refine va_mabs_long hx hb (by rw [hml]; exact hl.1.symm) hown (ht _ w_718) (ht _ w_719) (ht _ w_119) (ht _ w_mathabsl) (Nat.le_of_ble_eq_true rfl) (Nat.le_of_ble_eq_true rfl) (Nat.le_of_ble_eq_true rfl) (Nat.le_of_ble_eq_true rfl) dX0_set_1 ?_
  refine lv_topl (fun y_1 ey_1 => ?_)
  clear ey_1
  refine lv_lload_n hx hb dX0_set_4 rfl (lv_at hl 2 rfl) ?_
  have hPc := hP.sub (ws' := []) [] rfl
  refine vp_callSl (W.runS (As := [.long y_1, .long p1]) (rest := []) ⟨hx, hb, hml, hown, ht⟩ (s_X0_commonDivisor l dC dI cB cI cJ cZ cL a y_1 p1) (va_cwS 2 ht (gQ w_721 w_722 w_113 w_723) rfl rfl rfl (by decide +kernel) ⟨Nat.le_of_ble_eq_true rfl, Nat.le_of_ble_eq_true rfl⟩) (pSSn hN hK hPc) rfl rfl hl.1 rfl (lv_room (Nat.le_of_ble_eq_true rfl)) dX0_set_5 ⟨Nat.le_of_ble_eq_true rfl, Nat.le_of_ble_eq_true rfl⟩) (fun r_2 hw => ?_)
  clear hPc
  clear hw
  refine lv_lstore (lv' := [(5, .long r_2), (0, .ref (a 10)), (1, .long p0), (3, .long p1)]) hx hb dX0_set_8 hl (by decide) rfl (fun ls hl => ?_)
  refine lv_aload_n hx hb dX0_set_10 rfl (lv_at hl 1 rfl) ?_
  refine lv_lload hx hb dX0_set_11 (lv_at hl 0 rfl) ?_
  refine lv_lconst (v := 0) hx hb dX0_set_13 (by decide) ?_
  refine W.lcmp hx hb dX0_set_14 ?_
  refine lv_if_le (tgt := 25) hx hb dX0_set_15 (by decide) (fun c_3 => ?_) (fun c_3 => ?_)
  · simp only [lg_cmp_lt, lg_cmp_le, lg_cmp_gt, lg_cmp_ge, lg_cmp_eq] at c_3
    (try simp only [l_lt, l_le, l_eq, L0] at c_3)
    refine lv_lload_n hx hb dX0_set_25 rfl (lv_at hl 2 rfl) ?_
    refine va_put (D := (dC, dI)) (ci := 0) (v := .long p0) (ty := .long) (C := RX0) (T := TX0) (N := 2) hx hb ht iX0 tyX0 tyX0_ok nmX0 hown hK hP hD hS 0 rfl rfl 0 (by decide) (ht _ w_366) (fun _ h9 => h9) rfl (by decide +kernel) rfl rfl (Nat.le_of_ble_eq_true rfl) dX0_set_26 (fun H locs hP hD hS => ?_)
    have hP : va_P (dC, dI) vwCl [((a 10), .inr (0, [.long p0, .long fb]))] H := hP
    have hD : va_D A [((a 10), .inr (0, [.long p0, .long fb]))] := hD
    refine lv_aload_n hx hb dX0_set_29 rfl (lv_at hl 1 rfl) ?_
    refine lv_lload hx hb dX0_set_30 (lv_at hl 0 rfl) ?_
    refine lv_lconst (v := 0) hx hb dX0_set_32 (by decide) ?_
    refine W.lcmp hx hb dX0_set_33 ?_
    refine lv_if_le (tgt := 44) hx hb dX0_set_34 (by decide) (fun c_4 => ?_) (fun c_4 => ?_)
    · simp only [lg_cmp_lt, lg_cmp_le, lg_cmp_gt, lg_cmp_ge, lg_cmp_eq] at c_4
      (try simp only [l_lt, l_le, l_eq, L0] at c_4)
      refine lv_lload_n hx hb dX0_set_44 rfl (lv_at hl 3 rfl) ?_
      refine va_put (D := (dC, dI)) (ci := 0) (v := .long p1) (ty := .long) (C := RX0) (T := TX0) (N := 2) hx hb ht iX0 tyX0 tyX0_ok nmX0 hown hK hP hD hS 0 rfl rfl 1 (by decide) (ht _ w_368) (fun _ h9 => h9) rfl (by decide +kernel) rfl rfl (Nat.le_of_ble_eq_true rfl) dX0_set_45 (fun H locs hP hD hS => ?_)
      have hP : va_P (dC, dI) vwCl [((a 10), .inr (0, [.long p0, .long p1]))] H := hP
      have hD : va_D A [((a 10), .inr (0, [.long p0, .long p1]))] := hD
      have hP9 := hP.sub (ws' := [((a 10), .inr (0, [.long p0, .long p1]))]) [0] rfl
      have hD9 := hD.sub (ws' := [((a 10), .inr (0, [.long p0, .long p1]))]) [0] (by decide) rfl
      exact W.vret hx hb hr (fun t ht hW => ⟨⟨(p0, p1), rfl, trivial, ⟨by rw [ht]; exact hP9, hD9⟩⟩, hS.F ht⟩) hS.2.2 dX0_set_48
    · simp only [lg_cmp_lt, lg_cmp_le, lg_cmp_gt, lg_cmp_ge, lg_cmp_eq] at c_4
      (try simp only [l_lt, l_le, l_eq, L0] at c_4)
      exfalso; omega
  · simp only [lg_cmp_lt, lg_cmp_le, lg_cmp_gt, lg_cmp_ge, lg_cmp_eq] at c_3
    (try simp only [l_lt, l_le, l_eq, L0] at c_3)
    refine lv_lload_n hx hb dX0_set_18 rfl (lv_at hl 2 rfl) ?_
    refine lv_lload hx hb dX0_set_19 (lv_at hl 0 rfl) ?_
    refine lv_ldiv hx hb dX0_set_21 (by rw [l_eq]; simp only [L0]; omega) ?_
    refine lv_topl (fun y_5 ey_5 => ?_)
    clear ey_5
    refine lv_goto (tgt := 26) hx hb dX0_set_22 (by decide) ?_
    refine va_put (D := (dC, dI)) (ci := 0) (v := .long y_5) (ty := .long) (C := RX0) (T := TX0) (N := 2) hx hb ht iX0 tyX0 tyX0_ok nmX0 hown hK hP hD hS 0 rfl rfl 0 (by decide) (ht _ w_366) (fun _ h9 => h9) rfl (by decide +kernel) rfl rfl (Nat.le_of_ble_eq_true rfl) dX0_set_26 (fun H locs hP hD hS => ?_)
    have hP : va_P (dC, dI) vwCl [((a 10), .inr (0, [.long y_5, .long fb]))] H := hP
    have hD : va_D A [((a 10), .inr (0, [.long y_5, .long fb]))] := hD
    refine lv_aload_n hx hb dX0_set_29 rfl (lv_at hl 1 rfl) ?_
    refine lv_lload hx hb dX0_set_30 (lv_at hl 0 rfl) ?_
    refine lv_lconst (v := 0) hx hb dX0_set_32 (by decide) ?_
    refine W.lcmp hx hb dX0_set_33 ?_
    refine lv_if_le (tgt := 44) hx hb dX0_set_34 (by decide) (fun c_6 => ?_) (fun c_6 => ?_)
    · simp only [lg_cmp_lt, lg_cmp_le, lg_cmp_gt, lg_cmp_ge, lg_cmp_eq] at c_6
      (try simp only [l_lt, l_le, l_eq, L0] at c_6)
      exfalso; omega
    · simp only [lg_cmp_lt, lg_cmp_le, lg_cmp_gt, lg_cmp_ge, lg_cmp_eq] at c_6
      (try simp only [l_lt, l_le, l_eq, L0] at c_6)
      refine lv_lload_n hx hb dX0_set_37 rfl (lv_at hl 3 rfl) ?_
      refine lv_lload hx hb dX0_set_38 (lv_at hl 0 rfl) ?_
      refine lv_ldiv hx hb dX0_set_40 (by rw [l_eq]; simp only [L0]; omega) ?_
      refine lv_topl (fun y_7 ey_7 => ?_)
      clear ey_7
      refine lv_goto (tgt := 45) hx hb dX0_set_41 (by decide) ?_
      refine va_put (D := (dC, dI)) (ci := 0) (v := .long y_7) (ty := .long) (C := RX0) (T := TX0) (N := 2) hx hb ht iX0 tyX0 tyX0_ok nmX0 hown hK hP hD hS 0 rfl rfl 1 (by decide) (ht _ w_368) (fun _ h9 => h9) rfl (by decide +kernel) rfl rfl (Nat.le_of_ble_eq_true rfl) dX0_set_45 (fun H locs hP hD hS => ?_)
      have hP : va_P (dC, dI) vwCl [((a 10), .inr (0, [.long y_5, .long y_7]))] H := hP
      have hD : va_D A [((a 10), .inr (0, [.long y_5, .long y_7]))] := hD
      have hP9 := hP.sub (ws' := [((a 10), .inr (0, [.long y_5, .long y_7]))]) [0] rfl
      have hD9 := hD.sub (ws' := [((a 10), .inr (0, [.long y_5, .long y_7]))]) [0] (by decide) rfl
      exact W.vret hx hb hr (fun t ht hW => ⟨⟨(y_5, y_7), rfl, trivial, ⟨by rw [ht]; exact hP9, hD9⟩⟩, hS.F ht⟩) hS.2.2 dX0_set_48
set_option maxHeartbeats 8000000 in
set_option maxRecDepth 100000 in
theorem s_X0_part (l : Launch) (dC : Nat → ClassId) (dI : Nat → Nat → Nat) (cB cI cJ cZ cL : ClassId) (a : Nat → Nat) (fa : Int64) (fb : Int64) (p0 : Int32)  : Met l yX0_part (wy yX0_part cX0_part 2 (some .long)) ({ frames := 0, cells := 0, slots := 0, locals := 0 }) (va_Pc [.ref (a 10), .int p0] (fun U => va_P (dC, dI) vwCl [((a 10), .inr (0, [.long fa, .long fb]))] U.heap ∧ va_K (dC, dI) vwCl (tyL cB cI cJ cZ cL) U ∧ NW U)) (vp_Sl (fun r => True)) 0 0 (fun _ => False) := by
  refine Met.ofW (cc := cX0_part) (maxL := 2) (ret := (some .long)) (by decide) rfl ?_
  intro p e s m args below meth c s₁ B hml hv
  obtain ⟨rfl, hP, hK, hN⟩ := hv
  have hx := B.exec
  have hb := B.bytes
  have hr := B.returns
  have ht : ∀ w ∈ lw_ok, w.before _ s = true := fun w h => atoms_spec (ws := wy yX0_part cX0_part 2 (some .long)) B.pre w (List.mem_cons_of_mem _ h)
  have hown : s.vm.findClass RX0 = some m.cls := findClass_of_methodNamed B.named
  have hlocks := B.notSynchronized
  have hl := lv_entry ([.ref (a 10), .int p0]) (n := 2) (Nat.le_of_ble_eq_true rfl)
  rw [lg_entry_eq]
  generalize (lg_sl ([.ref (a 10), .int p0]) ++ List.replicate (2 - (lg_sl ([.ref (a 10), .int p0])).length) Slot.unset).toArray = ls at hl ⊢
  have hl : lv_has ls 2 [(0, .ref (a 10)), (1, .int p0)] := hl
  have hP : va_P (dC, dI) vwCl [((a 10), .inr (0, [.long fa, .long fb]))] s.heap := hP
  have rg_p0 := rgI p0
  refine lv_iload_n hx hb dX0_part_0 rfl (lv_at hl 1 rfl) ?_
  refine lv_if_ne (tgt := 11) hx hb dX0_part_1 (by decide) (fun c_1 => ?_) (fun c_1 => ?_)
  · (try simp only [i_lt, i_le, i_eq, T0] at c_1)
    refine lv_aload_n hx hb dX0_part_11 rfl (lv_at hl 0 rfl) ?_
    refine va_get (D := (dC, dI)) (ci := 0) (v := .long fb) (C := RX0) (T := TX0) (N := 2) hx hb ht iX0 hown hK hP 0 rfl rfl 1 (by decide) (ht _ w_368) (fun _ h9 => h9) rfl dX0_part_12 ?_
    exact W.lret (v := fb) hx hb hr (fun t ht hW => ⟨fb, rfl, trivial, ht⟩) (fun q h => absurd h List.not_mem_nil) dX0_part_15
  · (try simp only [i_lt, i_le, i_eq, T0] at c_1)
    refine lv_aload_n hx hb dX0_part_4 rfl (lv_at hl 0 rfl) ?_
    refine va_get (D := (dC, dI)) (ci := 0) (v := .long fa) (C := RX0) (T := TX0) (N := 2) hx hb ht iX0 hown hK hP 0 rfl rfl 0 (by decide) (ht _ w_366) (fun _ h9 => h9) rfl dX0_part_5 ?_
    refine lv_goto (tgt := 15) hx hb dX0_part_8 (by decide) ?_
    exact W.lret (v := fa) hx hb hr (fun t ht hW => ⟨fa, rfl, trivial, ht⟩) (fun q h => absurd h List.not_mem_nil) dX0_part_15
set_option maxHeartbeats 8000000 in
set_option maxRecDepth 100000 in
theorem s_X4_halved (l : Launch) (dC : Nat → ClassId) (dI : Nat → Nat → Nat) (cB cI cJ cZ cL : ClassId) (a : Nat → Nat)  (p0 : Int32)  : Met l yX4_halved (wy yX4_halved cX4_halved 1 (some .int)) ({ frames := 1, cells := 0, slots := 0, locals := 40 }) (va_Pc [.int p0] (fun U => va_P (dC, dI) vwCl [] U.heap ∧ va_K (dC, dI) vwCl (tyL cB cI cJ cZ cL) U ∧ NW U)) (vp_Si (fun r => True)) 0 0 (fun _ => False) := by
  refine Met.ofW (cc := cX4_halved) (maxL := 1) (ret := (some .int)) (by decide) rfl ?_
  intro p e s m args below meth c s₁ B hml hv
  obtain ⟨rfl, hP, hK, hN⟩ := hv
  have hx := B.exec
  have hb := B.bytes
  have hr := B.returns
  have ht : ∀ w ∈ lw_ok, w.before _ s = true := fun w h => atoms_spec (ws := wy yX4_halved cX4_halved 1 (some .int)) B.pre w (List.mem_cons_of_mem _ h)
  have hown : s.vm.findClass RX4 = some m.cls := findClass_of_methodNamed B.named
  have hlocks := B.notSynchronized
  have hl := lv_entry ([.int p0]) (n := 1) (Nat.le_of_ble_eq_true rfl)
  rw [lg_entry_eq]
  generalize (lg_sl ([.int p0]) ++ List.replicate (1 - (lg_sl ([.int p0])).length) Slot.unset).toArray = ls at hl ⊢
  have hl : lv_has ls 1 [(0, .int p0)] := hl
  have hP : va_P (dC, dI) vwCl [] s.heap := hP
  have rg_p0 := rgI p0
  refine lv_iconst (v := 1) hx hb dX4_halved_0 (by decide) ?_
  refine lv_iload_n hx hb dX4_halved_1 rfl (lv_at hl 0 rfl) ?_
  refine lv_iconst (v := 2) hx hb dX4_halved_2 (by decide) ?_
  refine lv_idiv hx hb dX4_halved_3 (by decide) ?_
  refine lv_topi (fun y_1 ey_1 => ?_)
  clear ey_1
  refine va_mmax hx hb (by rw [hml]; exact hl.1.symm) hown (ht _ w_664) (ht _ w_540) (ht _ w_119) (ht _ w_mathmax) (Nat.le_of_ble_eq_true rfl) (Nat.le_of_ble_eq_true rfl) (Nat.le_of_ble_eq_true rfl) (Nat.le_of_ble_eq_true rfl) dX4_halved_4 ?_
  refine lv_topi (fun y_2 ey_2 => ?_)
  have ty_2 := mmaxF ey_2
  simp only [T1] at ty_2
  clear ey_2
  exact W.iret (v := y_2) hx hb hr (fun t ht hW => ⟨y_2, rfl, trivial, ht⟩) (fun q h => absurd h List.not_mem_nil) dX4_halved_7
set_option maxHeartbeats 8000000 in
set_option maxRecDepth 100000 in
theorem s_X4_wetDays (l : Launch) (dC : Nat → ClassId) (dI : Nat → Nat → Nat) (cB cI cJ cZ cL : ClassId) (a : Nat → Nat) (ul : Int32) (uw : Int32) (uc : Int32) (ub : Int32) (p0 : Int32) (p1 : Int32)  : Met l yX4_wetDays (wy yX4_wetDays cX4_wetDays 3 (some .int)) ({ frames := 1, cells := 0, slots := 0, locals := 40 }) (va_Pc [.ref (a 8), .int p0, .int p1] (fun U => va_P (dC, dI) vwCl [((a 8), .inr (4, [.int ul, .int uw, .int uc, .int ub, .ref (a 38), .ref (a 39)]))] U.heap ∧ va_K (dC, dI) vwCl (tyL cB cI cJ cZ cL) U ∧ NW U)) (vp_Si (fun r => True)) 0 0 (fun _ => False) := by
  refine Met.ofW (cc := cX4_wetDays) (maxL := 3) (ret := (some .int)) (by decide) rfl ?_
  intro p e s m args below meth c s₁ B hml hv
  obtain ⟨rfl, hP, hK, hN⟩ := hv
  have hx := B.exec
  have hb := B.bytes
  have hr := B.returns
  have ht : ∀ w ∈ lw_ok, w.before _ s = true := fun w h => atoms_spec (ws := wy yX4_wetDays cX4_wetDays 3 (some .int)) B.pre w (List.mem_cons_of_mem _ h)
  have hown : s.vm.findClass RX4 = some m.cls := findClass_of_methodNamed B.named
  have hlocks := B.notSynchronized
  have hl := lv_entry ([.ref (a 8), .int p0, .int p1]) (n := 3) (Nat.le_of_ble_eq_true rfl)
  rw [lg_entry_eq]
  generalize (lg_sl ([.ref (a 8), .int p0, .int p1]) ++ List.replicate (3 - (lg_sl ([.ref (a 8), .int p0, .int p1])).length) Slot.unset).toArray = ls at hl ⊢
  have hl : lv_has ls 3 [(0, .ref (a 8)), (1, .int p0), (2, .int p1)] := hl
  have hP : va_P (dC, dI) vwCl [((a 8), .inr (4, [.int ul, .int uw, .int uc, .int ub, .ref (a 38), .ref (a 39)]))] s.heap := hP
  have rg_p0 := rgI p0
  have rg_p1 := rgI p1
  refine lv_aload_n hx hb dX4_wetDays_0 rfl (lv_at hl 0 rfl) ?_
  refine va_get (D := (dC, dI)) (ci := 4) (v := .int uw) (C := RX4) (T := TX4) (N := 6) hx hb ht iX4 hown hK hP 0 rfl rfl 1 (by decide) (ht _ w_310) (fun _ h9 => h9) rfl dX4_wetDays_1 ?_
  refine lv_iload_n hx hb dX4_wetDays_4 rfl (lv_at hl 1 rfl) ?_
  refine lv_ishr hx hb dX4_wetDays_5 ?_
  refine lv_topi (fun y_1 ey_1 => ?_)
  clear ey_1
  refine lv_iconst (v := 2) hx hb dX4_wetDays_6 (by decide) ?_
  refine lv_iload_n hx hb dX4_wetDays_7 rfl (lv_at hl 2 rfl) ?_
  refine lv_iload_n hx hb dX4_wetDays_8 rfl (lv_at hl 1 rfl) ?_
  refine lv_isub hx hb dX4_wetDays_9 ?_
  refine lv_topi (fun y_2 ey_2 => ?_)
  have ty_2 := isubF ey_2
  clear ey_2
  refine lv_ishl hx hb dX4_wetDays_10 ?_
  refine lv_topi (fun y_3 ey_3 => ?_)
  clear ey_3
  refine lv_iconst (v := 1) hx hb dX4_wetDays_11 (by decide) ?_
  refine lv_isub hx hb dX4_wetDays_12 ?_
  refine lv_topi (fun y_4 ey_4 => ?_)
  have ty_4 := isubF ey_4
  simp only [T1] at ty_4
  clear ey_4
  refine lv_iand hx hb dX4_wetDays_13 ?_
  refine lv_topi (fun y_5 ey_5 => ?_)
  clear ey_5
  have hPc := hP.sub (ws' := []) [] rfl
  refine vp_callSi (W.runS (As := [.int y_5]) (rest := []) ⟨hx, hb, hml, hown, ht⟩ (s_J6_bitCount_0f7a4 l dC dI cB cI cJ cZ cL y_5) (va_cwS 1 ht (gQ w_669 w_670 w_122 w_671) rfl rfl rfl (by decide +kernel) ⟨Nat.le_of_ble_eq_true rfl, Nat.le_of_ble_eq_true rfl⟩) (pSSn hN hK hPc) rfl rfl hl.1 rfl (lv_room (Nat.le_of_ble_eq_true rfl)) dX4_wetDays_14 ⟨Nat.le_of_ble_eq_true rfl, Nat.le_of_ble_eq_true rfl⟩) (fun r_6 hw => ?_)
  clear hPc
  (try dsimp only at hw)
  have hw_7 := hw
  clear hw
  exact W.iret (v := r_6) hx hb hr (fun t ht hW => ⟨r_6, rfl, trivial, ht⟩) (fun q h => absurd h List.not_mem_nil) dX4_wetDays_17
set_option maxHeartbeats 8000000 in
set_option maxRecDepth 100000 in
theorem s_X4_isWet (l : Launch) (dC : Nat → ClassId) (dI : Nat → Nat → Nat) (cB cI cJ cZ cL : ClassId) (a : Nat → Nat) (ul : Int32) (uw : Int32) (uc : Int32) (ub : Int32) (p0 : Int32)  : Met l yX4_isWet (wy yX4_isWet cX4_isWet 2 (some .boolean)) ({ frames := 1, cells := 0, slots := 0, locals := 40 }) (va_Pc [.ref (a 8), .int p0] (fun U => va_P (dC, dI) vwCl [((a 8), .inr (4, [.int ul, .int uw, .int uc, .int ub, .ref (a 38), .ref (a 39)]))] U.heap ∧ va_K (dC, dI) vwCl (tyL cB cI cJ cZ cL) U ∧ NW U)) (vp_Si (fun r => True)) 0 0 (fun _ => False) := by
  refine Met.ofW (cc := cX4_isWet) (maxL := 2) (ret := (some .boolean)) (by decide) rfl ?_
  intro p e s m args below meth c s₁ B hml hv
  obtain ⟨rfl, hP, hK, hN⟩ := hv
  have hx := B.exec
  have hb := B.bytes
  have hr := B.returns
  have ht : ∀ w ∈ lw_ok, w.before _ s = true := fun w h => atoms_spec (ws := wy yX4_isWet cX4_isWet 2 (some .boolean)) B.pre w (List.mem_cons_of_mem _ h)
  have hown : s.vm.findClass RX4 = some m.cls := findClass_of_methodNamed B.named
  have hlocks := B.notSynchronized
  have hl := lv_entry ([.ref (a 8), .int p0]) (n := 2) (Nat.le_of_ble_eq_true rfl)
  rw [lg_entry_eq]
  generalize (lg_sl ([.ref (a 8), .int p0]) ++ List.replicate (2 - (lg_sl ([.ref (a 8), .int p0])).length) Slot.unset).toArray = ls at hl ⊢
  have hl : lv_has ls 2 [(0, .ref (a 8)), (1, .int p0)] := hl
  have hP : va_P (dC, dI) vwCl [((a 8), .inr (4, [.int ul, .int uw, .int uc, .int ub, .ref (a 38), .ref (a 39)]))] s.heap := hP
  have rg_p0 := rgI p0
  refine lv_iload_n hx hb dX4_isWet_0 rfl (lv_at hl 1 rfl) ?_
  refine lv_if_lt (tgt := 19) hx hb dX4_isWet_1 (by decide) (fun c_1 => ?_) (fun c_1 => ?_)
  · (try simp only [i_lt, i_le, i_eq, T0] at c_1)
    refine lv_iconst (v := 0) hx hb dX4_isWet_19 (by decide) ?_
    exact W.zret (v := 0) hx hb hr (rfl) (fun t ht hW => ⟨0, rfl, trivial, ht⟩) (fun q h => absurd h List.not_mem_nil) dX4_isWet_20
  · (try simp only [i_lt, i_le, i_eq, T0] at c_1)
    refine lv_aload_n hx hb dX4_isWet_4 rfl (lv_at hl 0 rfl) ?_
    refine va_get (D := (dC, dI)) (ci := 4) (v := .int uw) (C := RX4) (T := TX4) (N := 6) hx hb ht iX4 hown hK hP 0 rfl rfl 1 (by decide) (ht _ w_310) (fun _ h9 => h9) rfl dX4_isWet_5 ?_
    refine lv_iload_n hx hb dX4_isWet_8 rfl (lv_at hl 1 rfl) ?_
    have hPc := hP.sub (ws' := []) [] rfl
    refine callSiN (va_runSN (As := [.int uw, .int p0]) (rest := []) ⟨hx, hb, hml, hown, ht⟩ (s_X8_hasBit l dC dI cB cI cJ cZ cL a uw p0) ⟨va_cnB 2 ht (gy w_656) rfl rfl rfl hN.n47 (ht _ w_105) (by decide +kernel) ⟨Nat.le_of_ble_eq_true rfl, Nat.le_of_ble_eq_true rfl⟩, ht _ w_655, trivial⟩ (pSSn hN hK hPc) rfl rfl hl.1 rfl (lv_room (Nat.le_of_ble_eq_true rfl)) dX4_isWet_9 ⟨Nat.le_of_ble_eq_true rfl, Nat.le_of_ble_eq_true rfl⟩) (fun r_2 hw => ?_)
    clear hPc
    clear hw
    refine lv_if_eq (tgt := 19) hx hb dX4_isWet_12 (by decide) (fun c_3 => ?_) (fun c_3 => ?_)
    · (try simp only [i_lt, i_le, i_eq, T0] at c_3)
      refine lv_iconst (v := 0) hx hb dX4_isWet_19 (by decide) ?_
      exact W.zret (v := 0) hx hb hr (rfl) (fun t ht hW => ⟨0, rfl, trivial, ht⟩) (fun q h => absurd h List.not_mem_nil) dX4_isWet_20
    · (try simp only [i_lt, i_le, i_eq, T0] at c_3)
      refine lv_iconst (v := 1) hx hb dX4_isWet_15 (by decide) ?_
      refine lv_goto (tgt := 20) hx hb dX4_isWet_16 (by decide) ?_
      exact W.zret (v := 1) hx hb hr (rfl) (fun t ht hW => ⟨1, rfl, trivial, ht⟩) (fun q h => absurd h List.not_mem_nil) dX4_isWet_20
set_option maxHeartbeats 8000000 in
set_option maxRecDepth 100000 in
theorem s_X4_leakOn (l : Launch) (dC : Nat → ClassId) (dI : Nat → Nat → Nat) (cB cI cJ cZ cL : ClassId) (a : Nat → Nat) (ul : Int32) (uw : Int32) (uc : Int32) (ub : Int32) (n_lines : Int32) (n_days : Int32) (n_law : Int32) (n_odds : Int32) (n_volts : Int32) (n_spans : Int32) (n_wetLines : Int32) (n_wet : Int32) (n_acts : Int32) (n_a_cupDays : Nat → Int32) (uk : Nat → Int32) (p0 : Int32) (p1 : Int32) (h_p0 : 0 ≤ Int32.toInt p0 ∧ Int32.toInt p0 < 5) : Met l yX4_leakOn (wy yX4_leakOn cX4_leakOn 6 (some .int)) ({ frames := 2, cells := 0, slots := 0, locals := 80 }) (va_Pc [.ref (a 8), .ref (a 4), .int p0, .int p1] (fun U => va_P (dC, dI) vwCl [((a 8), .inr (4, [.int ul, .int uw, .int uc, .int ub, .ref (a 38), .ref (a 39)])), ((a 4), .inr (2, [.int n_lines, .int n_days, .int n_law, .int n_odds, .int n_volts, .int n_spans, .int n_wetLines, .int n_wet, .int n_acts, .ref (a 19), .ref (a 20), .ref (a 21), .ref (a 22), .ref (a 23), .ref (a 24), .ref (a 25), .ref (a 26)])), ((a 25), .inl (cI, 5, .inl n_a_cupDays)), ((a 39), .inl (cI, 5, .inl uk))] U.heap ∧ va_K (dC, dI) vwCl (tyL cB cI cJ cZ cL) U ∧ NW U)) (vp_Si (fun r => True)) 0 0 (fun _ => False) := by
  refine Met.ofW (cc := cX4_leakOn) (maxL := 6) (ret := (some .int)) (by decide) rfl ?_
  intro p e s m args below meth c s₁ B hml hv
  obtain ⟨rfl, hP, hK, hN⟩ := hv
  have hx := B.exec
  have hb := B.bytes
  have hr := B.returns
  have ht : ∀ w ∈ lw_ok, w.before _ s = true := fun w h => atoms_spec (ws := wy yX4_leakOn cX4_leakOn 6 (some .int)) B.pre w (List.mem_cons_of_mem _ h)
  have hown : s.vm.findClass RX4 = some m.cls := findClass_of_methodNamed B.named
  have hlocks := B.notSynchronized
  have hl := lv_entry ([.ref (a 8), .ref (a 4), .int p0, .int p1]) (n := 6) (Nat.le_of_ble_eq_true rfl)
  rw [lg_entry_eq]
  generalize (lg_sl ([.ref (a 8), .ref (a 4), .int p0, .int p1]) ++ List.replicate (6 - (lg_sl ([.ref (a 8), .ref (a 4), .int p0, .int p1])).length) Slot.unset).toArray = ls at hl ⊢
  have hl : lv_has ls 6 [(0, .ref (a 8)), (1, .ref (a 4)), (2, .int p0), (3, .int p1)] := hl
  have hP : va_P (dC, dI) vwCl [((a 8), .inr (4, [.int ul, .int uw, .int uc, .int ub, .ref (a 38), .ref (a 39)])), ((a 4), .inr (2, [.int n_lines, .int n_days, .int n_law, .int n_odds, .int n_volts, .int n_spans, .int n_wetLines, .int n_wet, .int n_acts, .ref (a 19), .ref (a 20), .ref (a 21), .ref (a 22), .ref (a 23), .ref (a 24), .ref (a 25), .ref (a 26)])), ((a 25), .inl (cI, 5, .inl n_a_cupDays)), ((a 39), .inl (cI, 5, .inl uk))] s.heap := hP
  have rg_p0 := rgI p0
  have rg_p1 := rgI p1
  refine lv_aload_n hx hb dX4_leakOn_0 rfl (lv_at hl 1 rfl) ?_
  refine lv_iload_n hx hb dX4_leakOn_1 rfl (lv_at hl 2 rfl) ?_
  refine lv_iload_n hx hb dX4_leakOn_2 rfl (lv_at hl 3 rfl) ?_
  have hPc := hP.sub (ws' := [((a 4), .inr (2, [.int n_lines, .int n_days, .int n_law, .int n_odds, .int n_volts, .int n_spans, .int n_wetLines, .int n_wet, .int n_acts, .ref (a 19), .ref (a 20), .ref (a 21), .ref (a 22), .ref (a 23), .ref (a 24), .ref (a 25), .ref (a 26)])), ((a 25), .inl (cI, 5, .inl n_a_cupDays))]) [1, 2] rfl
  refine vp_callSi (W.runV (As := [.int p0, .int p1]) (rest := []) ⟨hx, hb, hml, hown, ht⟩ (s_X2_latestCup l dC dI cB cI cJ cZ cL a n_lines n_days n_law n_odds n_volts n_spans n_wetLines n_wet n_acts n_a_cupDays p0 p1 (by first | assumption | omega)) (cwV 2 ht (gV w_646 w_647 w_648 w_109 w_649) rfl rfl rfl (by decide +kernel) ⟨Nat.le_of_ble_eq_true rfl, Nat.le_of_ble_eq_true rfl⟩) (pVSn hN hK hPc (ci := 2) (q0 := 0) rfl rfl) rfl rfl hl.1 rfl (lv_room (Nat.le_of_ble_eq_true rfl)) dX4_leakOn_3 ⟨Nat.le_of_ble_eq_true rfl, Nat.le_of_ble_eq_true rfl⟩) (fun r_1 hw => ?_)
  clear hPc
  clear hw
  refine lv_istore (lv' := [(4, .int r_1), (0, .ref (a 8)), (1, .ref (a 4)), (2, .int p0), (3, .int p1)]) hx hb dX4_leakOn_6 hl (by decide) rfl (fun ls hl => ?_)
  refine lv_iload hx hb dX4_leakOn_8 (lv_at hl 0 rfl) ?_
  refine lv_iconst (v := (-1)) hx hb dX4_leakOn_10 (by decide) ?_
  refine lv_icmp_ne (tgt := 25) hx hb dX4_leakOn_11 (by decide) (fun c_2 => ?_) (fun c_2 => ?_)
  · (try simp only [i_lt, i_le, i_eq, Tm1] at c_2)
    refine lv_bipush (v := 30) hx hb dX4_leakOn_25 (by decide) ?_
    refine lv_goto (tgt := 36) hx hb dX4_leakOn_27 (by decide) ?_
    refine lv_istore (lv' := [(5, .int 30), (4, .int r_1), (0, .ref (a 8)), (1, .ref (a 4)), (2, .int p0), (3, .int p1)]) hx hb dX4_leakOn_36 hl (by decide) rfl (fun ls hl => ?_)
    refine lv_aload_n hx hb dX4_leakOn_38 rfl (lv_at hl 2 rfl) ?_
    refine va_get (D := (dC, dI)) (ci := 4) (v := .int ul) (C := RX4) (T := TX4) (N := 6) hx hb ht iX4 hown hK hP 0 rfl rfl 0 (by decide) (ht _ w_308) (fun _ h9 => h9) rfl dX4_leakOn_39 ?_
    by_cases c_3 : ul = 1
    · refine lv_topi (fun y_4 ey_4 => ?_)
      obtain rfl : y_4 = 1 := ey_4.trans c_3
      refine lv_tableIn (off := 26) (tgt := 68) hx hb dX4_leakOn_42 (by decide) (by decide) (by decide) (by decide) ?_
      simp only [i_eq, T1] at c_3
      refine lv_aload_n hx hb dX4_leakOn_68 rfl (lv_at hl 2 rfl) ?_
      refine lv_iload_n hx hb dX4_leakOn_69 rfl (lv_at hl 5 rfl) ?_
      have hPc := hP.sub (ws' := [((a 8), .inr (4, [.int ul, .int uw, .int uc, .int ub, .ref (a 38), .ref (a 39)]))]) [0] rfl
      refine vp_callSi (W.runV (As := [.int p1]) (rest := []) ⟨hx, hb, hml, hown, ht⟩ (s_X4_isWet l dC dI cB cI cJ cZ cL a ul uw uc ub p1) (cwV 1 ht (gV w_657 w_659 w_13 w_111 w_660) rfl rfl rfl (by decide +kernel) ⟨Nat.le_of_ble_eq_true rfl, Nat.le_of_ble_eq_true rfl⟩) (pVSn hN hK hPc (ci := 4) (q0 := 0) rfl rfl) rfl rfl hl.1 rfl (lv_room (Nat.le_of_ble_eq_true rfl)) dX4_leakOn_70 ⟨Nat.le_of_ble_eq_true rfl, Nat.le_of_ble_eq_true rfl⟩) (fun r_5 hw => ?_)
      clear hPc
      clear hw
      refine lv_if_eq (tgt := 84) hx hb dX4_leakOn_73 (by decide) (fun c_6 => ?_) (fun c_6 => ?_)
      · (try simp only [i_lt, i_le, i_eq, T0] at c_6)
        refine lv_iload hx hb dX4_leakOn_84 (lv_at hl 0 rfl) ?_
        exact W.iret (v := 30) hx hb hr (fun t ht hW => ⟨30, rfl, trivial, ht⟩) (fun q h => absurd h List.not_mem_nil) dX4_leakOn_86
      · (try simp only [i_lt, i_le, i_eq, T0] at c_6)
        refine lv_iload hx hb dX4_leakOn_76 (lv_at hl 0 rfl) ?_
        have hPc := hP.sub (ws' := []) [] rfl
        refine vp_callSi (W.runS (As := [.int 30]) (rest := []) ⟨hx, hb, hml, hown, ht⟩ (s_X4_halved l dC dI cB cI cJ cZ cL a 30) (va_cwS 1 ht (gQ w_661 w_662 w_111 w_663) rfl rfl rfl (by decide +kernel) ⟨Nat.le_of_ble_eq_true rfl, Nat.le_of_ble_eq_true rfl⟩) (pSSn hN hK hPc) rfl rfl hl.1 rfl (lv_room (Nat.le_of_ble_eq_true rfl)) dX4_leakOn_78 ⟨Nat.le_of_ble_eq_true rfl, Nat.le_of_ble_eq_true rfl⟩) (fun r_7 hw => ?_)
        clear hPc
        clear hw
        refine lv_goto (tgt := 86) hx hb dX4_leakOn_81 (by decide) ?_
        exact W.iret (v := r_7) hx hb hr (fun t ht hW => ⟨r_7, rfl, trivial, ht⟩) (fun q h => absurd h List.not_mem_nil) dX4_leakOn_86
    simp only [i_eq, T1] at c_3
    by_cases c_8 : ul = 2
    · refine lv_topi (fun y_9 ey_9 => ?_)
      obtain rfl : y_9 = 2 := ey_9.trans c_8
      refine lv_tableIn (off := 45) (tgt := 87) hx hb dX4_leakOn_42 (by decide) (by decide) (by decide) (by decide) ?_
      simp only [i_eq, T2] at c_8
      refine lv_aload_n hx hb dX4_leakOn_87 rfl (lv_at hl 2 rfl) ?_
      refine lv_iload_n hx hb dX4_leakOn_88 rfl (lv_at hl 5 rfl) ?_
      have hPc := hP.sub (ws' := [((a 8), .inr (4, [.int ul, .int uw, .int uc, .int ub, .ref (a 38), .ref (a 39)]))]) [0] rfl
      refine vp_callSi (W.runV (As := [.int p1]) (rest := []) ⟨hx, hb, hml, hown, ht⟩ (s_X4_isWet l dC dI cB cI cJ cZ cL a ul uw uc ub p1) (cwV 1 ht (gV w_657 w_659 w_13 w_111 w_660) rfl rfl rfl (by decide +kernel) ⟨Nat.le_of_ble_eq_true rfl, Nat.le_of_ble_eq_true rfl⟩) (pVSn hN hK hPc (ci := 4) (q0 := 0) rfl rfl) rfl rfl hl.1 rfl (lv_room (Nat.le_of_ble_eq_true rfl)) dX4_leakOn_89 ⟨Nat.le_of_ble_eq_true rfl, Nat.le_of_ble_eq_true rfl⟩) (fun r_10 hw => ?_)
      clear hPc
      clear hw
      refine lv_if_ne (tgt := 105) hx hb dX4_leakOn_92 (by decide) (fun c_11 => ?_) (fun c_11 => ?_)
      · (try simp only [i_lt, i_le, i_eq, T0] at c_11)
        refine lv_iload hx hb dX4_leakOn_105 (lv_at hl 0 rfl) ?_
        have hPc := hP.sub (ws' := []) [] rfl
        refine vp_callSi (W.runS (As := [.int 30]) (rest := []) ⟨hx, hb, hml, hown, ht⟩ (s_X4_halved l dC dI cB cI cJ cZ cL a 30) (va_cwS 1 ht (gQ w_661 w_662 w_111 w_663) rfl rfl rfl (by decide +kernel) ⟨Nat.le_of_ble_eq_true rfl, Nat.le_of_ble_eq_true rfl⟩) (pSSn hN hK hPc) rfl rfl hl.1 rfl (lv_room (Nat.le_of_ble_eq_true rfl)) dX4_leakOn_107 ⟨Nat.le_of_ble_eq_true rfl, Nat.le_of_ble_eq_true rfl⟩) (fun r_12 hw => ?_)
        clear hPc
        clear hw
        refine lv_goto (tgt := 115) hx hb dX4_leakOn_110 (by decide) ?_
        exact W.iret (v := r_12) hx hb hr (fun t ht hW => ⟨r_12, rfl, trivial, ht⟩) (fun q h => absurd h List.not_mem_nil) dX4_leakOn_115
      · (try simp only [i_lt, i_le, i_eq, T0] at c_11)
        refine lv_aload_n hx hb dX4_leakOn_95 rfl (lv_at hl 2 rfl) ?_
        refine lv_iload_n hx hb dX4_leakOn_96 rfl (lv_at hl 5 rfl) ?_
        refine lv_iconst (v := 1) hx hb dX4_leakOn_97 (by decide) ?_
        refine lv_isub hx hb dX4_leakOn_98 ?_
        refine lv_topi (fun y_13 ey_13 => ?_)
        have ty_13 := isubF ey_13
        simp only [T1] at ty_13
        clear ey_13
        have hPc := hP.sub (ws' := [((a 8), .inr (4, [.int ul, .int uw, .int uc, .int ub, .ref (a 38), .ref (a 39)]))]) [0] rfl
        refine vp_callSi (W.runV (As := [.int y_13]) (rest := []) ⟨hx, hb, hml, hown, ht⟩ (s_X4_isWet l dC dI cB cI cJ cZ cL a ul uw uc ub y_13) (cwV 1 ht (gV w_657 w_659 w_13 w_111 w_660) rfl rfl rfl (by decide +kernel) ⟨Nat.le_of_ble_eq_true rfl, Nat.le_of_ble_eq_true rfl⟩) (pVSn hN hK hPc (ci := 4) (q0 := 0) rfl rfl) rfl rfl hl.1 rfl (lv_room (Nat.le_of_ble_eq_true rfl)) dX4_leakOn_99 ⟨Nat.le_of_ble_eq_true rfl, Nat.le_of_ble_eq_true rfl⟩) (fun r_14 hw => ?_)
        clear hPc
        clear hw
        refine lv_if_eq (tgt := 113) hx hb dX4_leakOn_102 (by decide) (fun c_15 => ?_) (fun c_15 => ?_)
        · (try simp only [i_lt, i_le, i_eq, T0] at c_15)
          refine lv_iload hx hb dX4_leakOn_113 (lv_at hl 0 rfl) ?_
          exact W.iret (v := 30) hx hb hr (fun t ht hW => ⟨30, rfl, trivial, ht⟩) (fun q h => absurd h List.not_mem_nil) dX4_leakOn_115
        · (try simp only [i_lt, i_le, i_eq, T0] at c_15)
          refine lv_iload hx hb dX4_leakOn_105 (lv_at hl 0 rfl) ?_
          have hPc := hP.sub (ws' := []) [] rfl
          refine vp_callSi (W.runS (As := [.int 30]) (rest := []) ⟨hx, hb, hml, hown, ht⟩ (s_X4_halved l dC dI cB cI cJ cZ cL a 30) (va_cwS 1 ht (gQ w_661 w_662 w_111 w_663) rfl rfl rfl (by decide +kernel) ⟨Nat.le_of_ble_eq_true rfl, Nat.le_of_ble_eq_true rfl⟩) (pSSn hN hK hPc) rfl rfl hl.1 rfl (lv_room (Nat.le_of_ble_eq_true rfl)) dX4_leakOn_107 ⟨Nat.le_of_ble_eq_true rfl, Nat.le_of_ble_eq_true rfl⟩) (fun r_16 hw => ?_)
          clear hPc
          clear hw
          refine lv_goto (tgt := 115) hx hb dX4_leakOn_110 (by decide) ?_
          exact W.iret (v := r_16) hx hb hr (fun t ht hW => ⟨r_16, rfl, trivial, ht⟩) (fun q h => absurd h List.not_mem_nil) dX4_leakOn_115
    simp only [i_eq, T2] at c_8
    by_cases c_17 : ul = 3
    · refine lv_topi (fun y_18 ey_18 => ?_)
      obtain rfl : y_18 = 3 := ey_18.trans c_17
      refine lv_tableIn (off := 74) (tgt := 116) hx hb dX4_leakOn_42 (by decide) (by decide) (by decide) (by decide) ?_
      simp only [i_eq, T3] at c_17
      refine lv_iconst (v := 1) hx hb dX4_leakOn_116 (by decide) ?_
      refine lv_iload hx hb dX4_leakOn_117 (lv_at hl 0 rfl) ?_
      refine lv_aload_n hx hb dX4_leakOn_119 rfl (lv_at hl 2 rfl) ?_
      refine lv_iconst (v := 0) hx hb dX4_leakOn_120 (by decide) ?_
      refine lv_iload hx hb dX4_leakOn_121 (lv_at hl 1 rfl) ?_
      refine va_mmax hx hb (by rw [hml]; exact hl.1.symm) hown (ht _ w_664) (ht _ w_540) (ht _ w_119) (ht _ w_mathmax) (Nat.le_of_ble_eq_true rfl) (Nat.le_of_ble_eq_true rfl) (Nat.le_of_ble_eq_true rfl) (Nat.le_of_ble_eq_true rfl) dX4_leakOn_123 ?_
      refine lv_topi (fun y_19 ey_19 => ?_)
      have ty_19 := mmaxF ey_19
      simp only [T0] at ty_19
      clear ey_19
      refine lv_iload_n hx hb dX4_leakOn_126 rfl (lv_at hl 5 rfl) ?_
      have hPc := hP.sub (ws' := [((a 8), .inr (4, [.int ul, .int uw, .int uc, .int ub, .ref (a 38), .ref (a 39)]))]) [0] rfl
      refine vp_callSi (W.runV (As := [.int y_19, .int p1]) (rest := [.int 30, .int 1]) ⟨hx, hb, hml, hown, ht⟩ (s_X4_wetDays l dC dI cB cI cJ cZ cL a ul uw uc ub y_19 p1) (cwV 2 ht (gV w_665 w_667 w_14 w_111 w_668) rfl rfl rfl (by decide +kernel) ⟨Nat.le_of_ble_eq_true rfl, Nat.le_of_ble_eq_true rfl⟩) (pVSn hN hK hPc (ci := 4) (q0 := 0) rfl rfl) rfl rfl hl.1 rfl (lv_room (Nat.le_of_ble_eq_true rfl)) dX4_leakOn_127 ⟨Nat.le_of_ble_eq_true rfl, Nat.le_of_ble_eq_true rfl⟩) (fun r_20 hw => ?_)
      clear hPc
      clear hw
      refine lv_isub hx hb dX4_leakOn_130 ?_
      refine lv_topi (fun y_21 ey_21 => ?_)
      have ty_21 := isubF ey_21
      simp only [T30] at ty_21
      clear ey_21
      refine va_mmax hx hb (by rw [hml]; exact hl.1.symm) hown (ht _ w_664) (ht _ w_540) (ht _ w_119) (ht _ w_mathmax) (Nat.le_of_ble_eq_true rfl) (Nat.le_of_ble_eq_true rfl) (Nat.le_of_ble_eq_true rfl) (Nat.le_of_ble_eq_true rfl) dX4_leakOn_131 ?_
      refine lv_topi (fun y_22 ey_22 => ?_)
      have ty_22 := mmaxF ey_22
      simp only [T1] at ty_22
      clear ey_22
      exact W.iret (v := y_22) hx hb hr (fun t ht hW => ⟨y_22, rfl, trivial, ht⟩) (fun q h => absurd h List.not_mem_nil) dX4_leakOn_134
    simp only [i_eq, T3] at c_17
    refine lv_tableOut (tgt := 135) hx hb dX4_leakOn_42 (by omega) (by decide) ?_
    refine lv_iload hx hb dX4_leakOn_135 (lv_at hl 0 rfl) ?_
    exact W.iret (v := 30) hx hb hr (fun t ht hW => ⟨30, rfl, trivial, ht⟩) (fun q h => absurd h List.not_mem_nil) dX4_leakOn_137
  · (try simp only [i_lt, i_le, i_eq, Tm1] at c_2)
    refine lv_aload_n hx hb dX4_leakOn_14 rfl (lv_at hl 1 rfl) ?_
    refine va_get (D := (dC, dI)) (ci := 4) (v := .int uc) (C := RX4) (T := TX4) (N := 6) hx hb ht iX4 hown hK hP 0 rfl rfl 2 (by decide) (ht _ w_312) (fun _ h9 => h9) rfl dX4_leakOn_15 ?_
    refine lv_iload_n hx hb dX4_leakOn_18 rfl (lv_at hl 3 rfl) ?_
    have hPc := hP.sub (ws' := []) [] rfl
    refine callSiN (va_runSN (As := [.int uc, .int p0]) (rest := []) ⟨hx, hb, hml, hown, ht⟩ (s_X8_hasBit l dC dI cB cI cJ cZ cL a uc p0) ⟨va_cnB 2 ht (gy w_656) rfl rfl rfl hN.n47 (ht _ w_105) (by decide +kernel) ⟨Nat.le_of_ble_eq_true rfl, Nat.le_of_ble_eq_true rfl⟩, ht _ w_655, trivial⟩ (pSSn hN hK hPc) rfl rfl hl.1 rfl (lv_room (Nat.le_of_ble_eq_true rfl)) dX4_leakOn_19 ⟨Nat.le_of_ble_eq_true rfl, Nat.le_of_ble_eq_true rfl⟩) (fun r_23 hw => ?_)
    clear hPc
    clear hw
    refine lv_if_eq (tgt := 30) hx hb dX4_leakOn_22 (by decide) (fun c_24 => ?_) (fun c_24 => ?_)
    · (try simp only [i_lt, i_le, i_eq, T0] at c_24)
      refine lv_aload_n hx hb dX4_leakOn_30 rfl (lv_at hl 1 rfl) ?_
      refine va_get (D := (dC, dI)) (ci := 4) (v := .ref (a 39)) (C := RX4) (T := TX4) (N := 6) hx hb ht iX4 hown hK hP 0 rfl rfl 5 (by decide) (ht _ w_319) (fun _ h9 => h9) rfl dX4_leakOn_31 ?_
      refine lv_iload_n hx hb dX4_leakOn_34 rfl (lv_at hl 3 rfl) ?_
      refine va_iald hx hb hK hP 3 1 rfl rfl (vp_in_iff.mpr (by omega)) dX4_leakOn_35 ?_
      refine lv_topi (fun y_25 ey_25 => ?_)
      refine lv_istore (lv' := [(5, .int y_25), (4, .int r_1), (0, .ref (a 8)), (1, .ref (a 4)), (2, .int p0), (3, .int p1)]) hx hb dX4_leakOn_36 hl (by decide) rfl (fun ls hl => ?_)
      refine lv_aload_n hx hb dX4_leakOn_38 rfl (lv_at hl 2 rfl) ?_
      refine va_get (D := (dC, dI)) (ci := 4) (v := .int ul) (C := RX4) (T := TX4) (N := 6) hx hb ht iX4 hown hK hP 0 rfl rfl 0 (by decide) (ht _ w_308) (fun _ h9 => h9) rfl dX4_leakOn_39 ?_
      by_cases c_26 : ul = 1
      · refine lv_topi (fun y_27 ey_27 => ?_)
        obtain rfl : y_27 = 1 := ey_27.trans c_26
        refine lv_tableIn (off := 26) (tgt := 68) hx hb dX4_leakOn_42 (by decide) (by decide) (by decide) (by decide) ?_
        simp only [i_eq, T1] at c_26
        refine lv_aload_n hx hb dX4_leakOn_68 rfl (lv_at hl 2 rfl) ?_
        refine lv_iload_n hx hb dX4_leakOn_69 rfl (lv_at hl 5 rfl) ?_
        have hPc := hP.sub (ws' := [((a 8), .inr (4, [.int ul, .int uw, .int uc, .int ub, .ref (a 38), .ref (a 39)]))]) [0] rfl
        refine vp_callSi (W.runV (As := [.int p1]) (rest := []) ⟨hx, hb, hml, hown, ht⟩ (s_X4_isWet l dC dI cB cI cJ cZ cL a ul uw uc ub p1) (cwV 1 ht (gV w_657 w_659 w_13 w_111 w_660) rfl rfl rfl (by decide +kernel) ⟨Nat.le_of_ble_eq_true rfl, Nat.le_of_ble_eq_true rfl⟩) (pVSn hN hK hPc (ci := 4) (q0 := 0) rfl rfl) rfl rfl hl.1 rfl (lv_room (Nat.le_of_ble_eq_true rfl)) dX4_leakOn_70 ⟨Nat.le_of_ble_eq_true rfl, Nat.le_of_ble_eq_true rfl⟩) (fun r_28 hw => ?_)
        clear hPc
        clear hw
        refine lv_if_eq (tgt := 84) hx hb dX4_leakOn_73 (by decide) (fun c_29 => ?_) (fun c_29 => ?_)
        · (try simp only [i_lt, i_le, i_eq, T0] at c_29)
          refine lv_iload hx hb dX4_leakOn_84 (lv_at hl 0 rfl) ?_
          exact W.iret (v := y_25) hx hb hr (fun t ht hW => ⟨y_25, rfl, trivial, ht⟩) (fun q h => absurd h List.not_mem_nil) dX4_leakOn_86
        · (try simp only [i_lt, i_le, i_eq, T0] at c_29)
          refine lv_iload hx hb dX4_leakOn_76 (lv_at hl 0 rfl) ?_
          have hPc := hP.sub (ws' := []) [] rfl
          refine vp_callSi (W.runS (As := [.int y_25]) (rest := []) ⟨hx, hb, hml, hown, ht⟩ (s_X4_halved l dC dI cB cI cJ cZ cL a y_25) (va_cwS 1 ht (gQ w_661 w_662 w_111 w_663) rfl rfl rfl (by decide +kernel) ⟨Nat.le_of_ble_eq_true rfl, Nat.le_of_ble_eq_true rfl⟩) (pSSn hN hK hPc) rfl rfl hl.1 rfl (lv_room (Nat.le_of_ble_eq_true rfl)) dX4_leakOn_78 ⟨Nat.le_of_ble_eq_true rfl, Nat.le_of_ble_eq_true rfl⟩) (fun r_30 hw => ?_)
          clear hPc
          clear hw
          refine lv_goto (tgt := 86) hx hb dX4_leakOn_81 (by decide) ?_
          exact W.iret (v := r_30) hx hb hr (fun t ht hW => ⟨r_30, rfl, trivial, ht⟩) (fun q h => absurd h List.not_mem_nil) dX4_leakOn_86
      simp only [i_eq, T1] at c_26
      by_cases c_31 : ul = 2
      · refine lv_topi (fun y_32 ey_32 => ?_)
        obtain rfl : y_32 = 2 := ey_32.trans c_31
        refine lv_tableIn (off := 45) (tgt := 87) hx hb dX4_leakOn_42 (by decide) (by decide) (by decide) (by decide) ?_
        simp only [i_eq, T2] at c_31
        refine lv_aload_n hx hb dX4_leakOn_87 rfl (lv_at hl 2 rfl) ?_
        refine lv_iload_n hx hb dX4_leakOn_88 rfl (lv_at hl 5 rfl) ?_
        have hPc := hP.sub (ws' := [((a 8), .inr (4, [.int ul, .int uw, .int uc, .int ub, .ref (a 38), .ref (a 39)]))]) [0] rfl
        refine vp_callSi (W.runV (As := [.int p1]) (rest := []) ⟨hx, hb, hml, hown, ht⟩ (s_X4_isWet l dC dI cB cI cJ cZ cL a ul uw uc ub p1) (cwV 1 ht (gV w_657 w_659 w_13 w_111 w_660) rfl rfl rfl (by decide +kernel) ⟨Nat.le_of_ble_eq_true rfl, Nat.le_of_ble_eq_true rfl⟩) (pVSn hN hK hPc (ci := 4) (q0 := 0) rfl rfl) rfl rfl hl.1 rfl (lv_room (Nat.le_of_ble_eq_true rfl)) dX4_leakOn_89 ⟨Nat.le_of_ble_eq_true rfl, Nat.le_of_ble_eq_true rfl⟩) (fun r_33 hw => ?_)
        clear hPc
        clear hw
        refine lv_if_ne (tgt := 105) hx hb dX4_leakOn_92 (by decide) (fun c_34 => ?_) (fun c_34 => ?_)
        · (try simp only [i_lt, i_le, i_eq, T0] at c_34)
          refine lv_iload hx hb dX4_leakOn_105 (lv_at hl 0 rfl) ?_
          have hPc := hP.sub (ws' := []) [] rfl
          refine vp_callSi (W.runS (As := [.int y_25]) (rest := []) ⟨hx, hb, hml, hown, ht⟩ (s_X4_halved l dC dI cB cI cJ cZ cL a y_25) (va_cwS 1 ht (gQ w_661 w_662 w_111 w_663) rfl rfl rfl (by decide +kernel) ⟨Nat.le_of_ble_eq_true rfl, Nat.le_of_ble_eq_true rfl⟩) (pSSn hN hK hPc) rfl rfl hl.1 rfl (lv_room (Nat.le_of_ble_eq_true rfl)) dX4_leakOn_107 ⟨Nat.le_of_ble_eq_true rfl, Nat.le_of_ble_eq_true rfl⟩) (fun r_35 hw => ?_)
          clear hPc
          clear hw
          refine lv_goto (tgt := 115) hx hb dX4_leakOn_110 (by decide) ?_
          exact W.iret (v := r_35) hx hb hr (fun t ht hW => ⟨r_35, rfl, trivial, ht⟩) (fun q h => absurd h List.not_mem_nil) dX4_leakOn_115
        · (try simp only [i_lt, i_le, i_eq, T0] at c_34)
          refine lv_aload_n hx hb dX4_leakOn_95 rfl (lv_at hl 2 rfl) ?_
          refine lv_iload_n hx hb dX4_leakOn_96 rfl (lv_at hl 5 rfl) ?_
          refine lv_iconst (v := 1) hx hb dX4_leakOn_97 (by decide) ?_
          refine lv_isub hx hb dX4_leakOn_98 ?_
          refine lv_topi (fun y_36 ey_36 => ?_)
          have ty_36 := isubF ey_36
          simp only [T1] at ty_36
          clear ey_36
          have hPc := hP.sub (ws' := [((a 8), .inr (4, [.int ul, .int uw, .int uc, .int ub, .ref (a 38), .ref (a 39)]))]) [0] rfl
          refine vp_callSi (W.runV (As := [.int y_36]) (rest := []) ⟨hx, hb, hml, hown, ht⟩ (s_X4_isWet l dC dI cB cI cJ cZ cL a ul uw uc ub y_36) (cwV 1 ht (gV w_657 w_659 w_13 w_111 w_660) rfl rfl rfl (by decide +kernel) ⟨Nat.le_of_ble_eq_true rfl, Nat.le_of_ble_eq_true rfl⟩) (pVSn hN hK hPc (ci := 4) (q0 := 0) rfl rfl) rfl rfl hl.1 rfl (lv_room (Nat.le_of_ble_eq_true rfl)) dX4_leakOn_99 ⟨Nat.le_of_ble_eq_true rfl, Nat.le_of_ble_eq_true rfl⟩) (fun r_37 hw => ?_)
          clear hPc
          clear hw
          refine lv_if_eq (tgt := 113) hx hb dX4_leakOn_102 (by decide) (fun c_38 => ?_) (fun c_38 => ?_)
          · (try simp only [i_lt, i_le, i_eq, T0] at c_38)
            refine lv_iload hx hb dX4_leakOn_113 (lv_at hl 0 rfl) ?_
            exact W.iret (v := y_25) hx hb hr (fun t ht hW => ⟨y_25, rfl, trivial, ht⟩) (fun q h => absurd h List.not_mem_nil) dX4_leakOn_115
          · (try simp only [i_lt, i_le, i_eq, T0] at c_38)
            refine lv_iload hx hb dX4_leakOn_105 (lv_at hl 0 rfl) ?_
            have hPc := hP.sub (ws' := []) [] rfl
            refine vp_callSi (W.runS (As := [.int y_25]) (rest := []) ⟨hx, hb, hml, hown, ht⟩ (s_X4_halved l dC dI cB cI cJ cZ cL a y_25) (va_cwS 1 ht (gQ w_661 w_662 w_111 w_663) rfl rfl rfl (by decide +kernel) ⟨Nat.le_of_ble_eq_true rfl, Nat.le_of_ble_eq_true rfl⟩) (pSSn hN hK hPc) rfl rfl hl.1 rfl (lv_room (Nat.le_of_ble_eq_true rfl)) dX4_leakOn_107 ⟨Nat.le_of_ble_eq_true rfl, Nat.le_of_ble_eq_true rfl⟩) (fun r_39 hw => ?_)
            clear hPc
            clear hw
            refine lv_goto (tgt := 115) hx hb dX4_leakOn_110 (by decide) ?_
            exact W.iret (v := r_39) hx hb hr (fun t ht hW => ⟨r_39, rfl, trivial, ht⟩) (fun q h => absurd h List.not_mem_nil) dX4_leakOn_115
      simp only [i_eq, T2] at c_31
      by_cases c_40 : ul = 3
      · refine lv_topi (fun y_41 ey_41 => ?_)
        obtain rfl : y_41 = 3 := ey_41.trans c_40
        refine lv_tableIn (off := 74) (tgt := 116) hx hb dX4_leakOn_42 (by decide) (by decide) (by decide) (by decide) ?_
        simp only [i_eq, T3] at c_40
        refine lv_iconst (v := 1) hx hb dX4_leakOn_116 (by decide) ?_
        refine lv_iload hx hb dX4_leakOn_117 (lv_at hl 0 rfl) ?_
        refine lv_aload_n hx hb dX4_leakOn_119 rfl (lv_at hl 2 rfl) ?_
        refine lv_iconst (v := 0) hx hb dX4_leakOn_120 (by decide) ?_
        refine lv_iload hx hb dX4_leakOn_121 (lv_at hl 1 rfl) ?_
        refine va_mmax hx hb (by rw [hml]; exact hl.1.symm) hown (ht _ w_664) (ht _ w_540) (ht _ w_119) (ht _ w_mathmax) (Nat.le_of_ble_eq_true rfl) (Nat.le_of_ble_eq_true rfl) (Nat.le_of_ble_eq_true rfl) (Nat.le_of_ble_eq_true rfl) dX4_leakOn_123 ?_
        refine lv_topi (fun y_42 ey_42 => ?_)
        have ty_42 := mmaxF ey_42
        simp only [T0] at ty_42
        clear ey_42
        refine lv_iload_n hx hb dX4_leakOn_126 rfl (lv_at hl 5 rfl) ?_
        have hPc := hP.sub (ws' := [((a 8), .inr (4, [.int ul, .int uw, .int uc, .int ub, .ref (a 38), .ref (a 39)]))]) [0] rfl
        refine vp_callSi (W.runV (As := [.int y_42, .int p1]) (rest := [.int y_25, .int 1]) ⟨hx, hb, hml, hown, ht⟩ (s_X4_wetDays l dC dI cB cI cJ cZ cL a ul uw uc ub y_42 p1) (cwV 2 ht (gV w_665 w_667 w_14 w_111 w_668) rfl rfl rfl (by decide +kernel) ⟨Nat.le_of_ble_eq_true rfl, Nat.le_of_ble_eq_true rfl⟩) (pVSn hN hK hPc (ci := 4) (q0 := 0) rfl rfl) rfl rfl hl.1 rfl (lv_room (Nat.le_of_ble_eq_true rfl)) dX4_leakOn_127 ⟨Nat.le_of_ble_eq_true rfl, Nat.le_of_ble_eq_true rfl⟩) (fun r_43 hw => ?_)
        clear hPc
        clear hw
        refine lv_isub hx hb dX4_leakOn_130 ?_
        refine lv_topi (fun y_44 ey_44 => ?_)
        have ty_44 := isubF ey_44
        clear ey_44
        refine va_mmax hx hb (by rw [hml]; exact hl.1.symm) hown (ht _ w_664) (ht _ w_540) (ht _ w_119) (ht _ w_mathmax) (Nat.le_of_ble_eq_true rfl) (Nat.le_of_ble_eq_true rfl) (Nat.le_of_ble_eq_true rfl) (Nat.le_of_ble_eq_true rfl) dX4_leakOn_131 ?_
        refine lv_topi (fun y_45 ey_45 => ?_)
        have ty_45 := mmaxF ey_45
        simp only [T1] at ty_45
        clear ey_45
        exact W.iret (v := y_45) hx hb hr (fun t ht hW => ⟨y_45, rfl, trivial, ht⟩) (fun q h => absurd h List.not_mem_nil) dX4_leakOn_134
      simp only [i_eq, T3] at c_40
      refine lv_tableOut (tgt := 135) hx hb dX4_leakOn_42 (by omega) (by decide) ?_
      refine lv_iload hx hb dX4_leakOn_135 (lv_at hl 0 rfl) ?_
      exact W.iret (v := y_25) hx hb hr (fun t ht hW => ⟨y_25, rfl, trivial, ht⟩) (fun q h => absurd h List.not_mem_nil) dX4_leakOn_137
    · (try simp only [i_lt, i_le, i_eq, T0] at c_24)
      refine lv_bipush (v := 30) hx hb dX4_leakOn_25 (by decide) ?_
      refine lv_goto (tgt := 36) hx hb dX4_leakOn_27 (by decide) ?_
      refine lv_istore (lv' := [(5, .int 30), (4, .int r_1), (0, .ref (a 8)), (1, .ref (a 4)), (2, .int p0), (3, .int p1)]) hx hb dX4_leakOn_36 hl (by decide) rfl (fun ls hl => ?_)
      refine lv_aload_n hx hb dX4_leakOn_38 rfl (lv_at hl 2 rfl) ?_
      refine va_get (D := (dC, dI)) (ci := 4) (v := .int ul) (C := RX4) (T := TX4) (N := 6) hx hb ht iX4 hown hK hP 0 rfl rfl 0 (by decide) (ht _ w_308) (fun _ h9 => h9) rfl dX4_leakOn_39 ?_
      by_cases c_46 : ul = 1
      · refine lv_topi (fun y_47 ey_47 => ?_)
        obtain rfl : y_47 = 1 := ey_47.trans c_46
        refine lv_tableIn (off := 26) (tgt := 68) hx hb dX4_leakOn_42 (by decide) (by decide) (by decide) (by decide) ?_
        simp only [i_eq, T1] at c_46
        refine lv_aload_n hx hb dX4_leakOn_68 rfl (lv_at hl 2 rfl) ?_
        refine lv_iload_n hx hb dX4_leakOn_69 rfl (lv_at hl 5 rfl) ?_
        have hPc := hP.sub (ws' := [((a 8), .inr (4, [.int ul, .int uw, .int uc, .int ub, .ref (a 38), .ref (a 39)]))]) [0] rfl
        refine vp_callSi (W.runV (As := [.int p1]) (rest := []) ⟨hx, hb, hml, hown, ht⟩ (s_X4_isWet l dC dI cB cI cJ cZ cL a ul uw uc ub p1) (cwV 1 ht (gV w_657 w_659 w_13 w_111 w_660) rfl rfl rfl (by decide +kernel) ⟨Nat.le_of_ble_eq_true rfl, Nat.le_of_ble_eq_true rfl⟩) (pVSn hN hK hPc (ci := 4) (q0 := 0) rfl rfl) rfl rfl hl.1 rfl (lv_room (Nat.le_of_ble_eq_true rfl)) dX4_leakOn_70 ⟨Nat.le_of_ble_eq_true rfl, Nat.le_of_ble_eq_true rfl⟩) (fun r_48 hw => ?_)
        clear hPc
        clear hw
        refine lv_if_eq (tgt := 84) hx hb dX4_leakOn_73 (by decide) (fun c_49 => ?_) (fun c_49 => ?_)
        · (try simp only [i_lt, i_le, i_eq, T0] at c_49)
          refine lv_iload hx hb dX4_leakOn_84 (lv_at hl 0 rfl) ?_
          exact W.iret (v := 30) hx hb hr (fun t ht hW => ⟨30, rfl, trivial, ht⟩) (fun q h => absurd h List.not_mem_nil) dX4_leakOn_86
        · (try simp only [i_lt, i_le, i_eq, T0] at c_49)
          refine lv_iload hx hb dX4_leakOn_76 (lv_at hl 0 rfl) ?_
          have hPc := hP.sub (ws' := []) [] rfl
          refine vp_callSi (W.runS (As := [.int 30]) (rest := []) ⟨hx, hb, hml, hown, ht⟩ (s_X4_halved l dC dI cB cI cJ cZ cL a 30) (va_cwS 1 ht (gQ w_661 w_662 w_111 w_663) rfl rfl rfl (by decide +kernel) ⟨Nat.le_of_ble_eq_true rfl, Nat.le_of_ble_eq_true rfl⟩) (pSSn hN hK hPc) rfl rfl hl.1 rfl (lv_room (Nat.le_of_ble_eq_true rfl)) dX4_leakOn_78 ⟨Nat.le_of_ble_eq_true rfl, Nat.le_of_ble_eq_true rfl⟩) (fun r_50 hw => ?_)
          clear hPc
          clear hw
          refine lv_goto (tgt := 86) hx hb dX4_leakOn_81 (by decide) ?_
          exact W.iret (v := r_50) hx hb hr (fun t ht hW => ⟨r_50, rfl, trivial, ht⟩) (fun q h => absurd h List.not_mem_nil) dX4_leakOn_86
      simp only [i_eq, T1] at c_46
      by_cases c_51 : ul = 2
      · refine lv_topi (fun y_52 ey_52 => ?_)
        obtain rfl : y_52 = 2 := ey_52.trans c_51
        refine lv_tableIn (off := 45) (tgt := 87) hx hb dX4_leakOn_42 (by decide) (by decide) (by decide) (by decide) ?_
        simp only [i_eq, T2] at c_51
        refine lv_aload_n hx hb dX4_leakOn_87 rfl (lv_at hl 2 rfl) ?_
        refine lv_iload_n hx hb dX4_leakOn_88 rfl (lv_at hl 5 rfl) ?_
        have hPc := hP.sub (ws' := [((a 8), .inr (4, [.int ul, .int uw, .int uc, .int ub, .ref (a 38), .ref (a 39)]))]) [0] rfl
        refine vp_callSi (W.runV (As := [.int p1]) (rest := []) ⟨hx, hb, hml, hown, ht⟩ (s_X4_isWet l dC dI cB cI cJ cZ cL a ul uw uc ub p1) (cwV 1 ht (gV w_657 w_659 w_13 w_111 w_660) rfl rfl rfl (by decide +kernel) ⟨Nat.le_of_ble_eq_true rfl, Nat.le_of_ble_eq_true rfl⟩) (pVSn hN hK hPc (ci := 4) (q0 := 0) rfl rfl) rfl rfl hl.1 rfl (lv_room (Nat.le_of_ble_eq_true rfl)) dX4_leakOn_89 ⟨Nat.le_of_ble_eq_true rfl, Nat.le_of_ble_eq_true rfl⟩) (fun r_53 hw => ?_)
        clear hPc
        clear hw
        refine lv_if_ne (tgt := 105) hx hb dX4_leakOn_92 (by decide) (fun c_54 => ?_) (fun c_54 => ?_)
        · (try simp only [i_lt, i_le, i_eq, T0] at c_54)
          refine lv_iload hx hb dX4_leakOn_105 (lv_at hl 0 rfl) ?_
          have hPc := hP.sub (ws' := []) [] rfl
          refine vp_callSi (W.runS (As := [.int 30]) (rest := []) ⟨hx, hb, hml, hown, ht⟩ (s_X4_halved l dC dI cB cI cJ cZ cL a 30) (va_cwS 1 ht (gQ w_661 w_662 w_111 w_663) rfl rfl rfl (by decide +kernel) ⟨Nat.le_of_ble_eq_true rfl, Nat.le_of_ble_eq_true rfl⟩) (pSSn hN hK hPc) rfl rfl hl.1 rfl (lv_room (Nat.le_of_ble_eq_true rfl)) dX4_leakOn_107 ⟨Nat.le_of_ble_eq_true rfl, Nat.le_of_ble_eq_true rfl⟩) (fun r_55 hw => ?_)
          clear hPc
          clear hw
          refine lv_goto (tgt := 115) hx hb dX4_leakOn_110 (by decide) ?_
          exact W.iret (v := r_55) hx hb hr (fun t ht hW => ⟨r_55, rfl, trivial, ht⟩) (fun q h => absurd h List.not_mem_nil) dX4_leakOn_115
        · (try simp only [i_lt, i_le, i_eq, T0] at c_54)
          refine lv_aload_n hx hb dX4_leakOn_95 rfl (lv_at hl 2 rfl) ?_
          refine lv_iload_n hx hb dX4_leakOn_96 rfl (lv_at hl 5 rfl) ?_
          refine lv_iconst (v := 1) hx hb dX4_leakOn_97 (by decide) ?_
          refine lv_isub hx hb dX4_leakOn_98 ?_
          refine lv_topi (fun y_56 ey_56 => ?_)
          have ty_56 := isubF ey_56
          simp only [T1] at ty_56
          clear ey_56
          have hPc := hP.sub (ws' := [((a 8), .inr (4, [.int ul, .int uw, .int uc, .int ub, .ref (a 38), .ref (a 39)]))]) [0] rfl
          refine vp_callSi (W.runV (As := [.int y_56]) (rest := []) ⟨hx, hb, hml, hown, ht⟩ (s_X4_isWet l dC dI cB cI cJ cZ cL a ul uw uc ub y_56) (cwV 1 ht (gV w_657 w_659 w_13 w_111 w_660) rfl rfl rfl (by decide +kernel) ⟨Nat.le_of_ble_eq_true rfl, Nat.le_of_ble_eq_true rfl⟩) (pVSn hN hK hPc (ci := 4) (q0 := 0) rfl rfl) rfl rfl hl.1 rfl (lv_room (Nat.le_of_ble_eq_true rfl)) dX4_leakOn_99 ⟨Nat.le_of_ble_eq_true rfl, Nat.le_of_ble_eq_true rfl⟩) (fun r_57 hw => ?_)
          clear hPc
          clear hw
          refine lv_if_eq (tgt := 113) hx hb dX4_leakOn_102 (by decide) (fun c_58 => ?_) (fun c_58 => ?_)
          · (try simp only [i_lt, i_le, i_eq, T0] at c_58)
            refine lv_iload hx hb dX4_leakOn_113 (lv_at hl 0 rfl) ?_
            exact W.iret (v := 30) hx hb hr (fun t ht hW => ⟨30, rfl, trivial, ht⟩) (fun q h => absurd h List.not_mem_nil) dX4_leakOn_115
          · (try simp only [i_lt, i_le, i_eq, T0] at c_58)
            refine lv_iload hx hb dX4_leakOn_105 (lv_at hl 0 rfl) ?_
            have hPc := hP.sub (ws' := []) [] rfl
            refine vp_callSi (W.runS (As := [.int 30]) (rest := []) ⟨hx, hb, hml, hown, ht⟩ (s_X4_halved l dC dI cB cI cJ cZ cL a 30) (va_cwS 1 ht (gQ w_661 w_662 w_111 w_663) rfl rfl rfl (by decide +kernel) ⟨Nat.le_of_ble_eq_true rfl, Nat.le_of_ble_eq_true rfl⟩) (pSSn hN hK hPc) rfl rfl hl.1 rfl (lv_room (Nat.le_of_ble_eq_true rfl)) dX4_leakOn_107 ⟨Nat.le_of_ble_eq_true rfl, Nat.le_of_ble_eq_true rfl⟩) (fun r_59 hw => ?_)
            clear hPc
            clear hw
            refine lv_goto (tgt := 115) hx hb dX4_leakOn_110 (by decide) ?_
            exact W.iret (v := r_59) hx hb hr (fun t ht hW => ⟨r_59, rfl, trivial, ht⟩) (fun q h => absurd h List.not_mem_nil) dX4_leakOn_115
      simp only [i_eq, T2] at c_51
      by_cases c_60 : ul = 3
      · refine lv_topi (fun y_61 ey_61 => ?_)
        obtain rfl : y_61 = 3 := ey_61.trans c_60
        refine lv_tableIn (off := 74) (tgt := 116) hx hb dX4_leakOn_42 (by decide) (by decide) (by decide) (by decide) ?_
        simp only [i_eq, T3] at c_60
        refine lv_iconst (v := 1) hx hb dX4_leakOn_116 (by decide) ?_
        refine lv_iload hx hb dX4_leakOn_117 (lv_at hl 0 rfl) ?_
        refine lv_aload_n hx hb dX4_leakOn_119 rfl (lv_at hl 2 rfl) ?_
        refine lv_iconst (v := 0) hx hb dX4_leakOn_120 (by decide) ?_
        refine lv_iload hx hb dX4_leakOn_121 (lv_at hl 1 rfl) ?_
        refine va_mmax hx hb (by rw [hml]; exact hl.1.symm) hown (ht _ w_664) (ht _ w_540) (ht _ w_119) (ht _ w_mathmax) (Nat.le_of_ble_eq_true rfl) (Nat.le_of_ble_eq_true rfl) (Nat.le_of_ble_eq_true rfl) (Nat.le_of_ble_eq_true rfl) dX4_leakOn_123 ?_
        refine lv_topi (fun y_62 ey_62 => ?_)
        have ty_62 := mmaxF ey_62
        simp only [T0] at ty_62
        clear ey_62
        refine lv_iload_n hx hb dX4_leakOn_126 rfl (lv_at hl 5 rfl) ?_
        have hPc := hP.sub (ws' := [((a 8), .inr (4, [.int ul, .int uw, .int uc, .int ub, .ref (a 38), .ref (a 39)]))]) [0] rfl
        refine vp_callSi (W.runV (As := [.int y_62, .int p1]) (rest := [.int 30, .int 1]) ⟨hx, hb, hml, hown, ht⟩ (s_X4_wetDays l dC dI cB cI cJ cZ cL a ul uw uc ub y_62 p1) (cwV 2 ht (gV w_665 w_667 w_14 w_111 w_668) rfl rfl rfl (by decide +kernel) ⟨Nat.le_of_ble_eq_true rfl, Nat.le_of_ble_eq_true rfl⟩) (pVSn hN hK hPc (ci := 4) (q0 := 0) rfl rfl) rfl rfl hl.1 rfl (lv_room (Nat.le_of_ble_eq_true rfl)) dX4_leakOn_127 ⟨Nat.le_of_ble_eq_true rfl, Nat.le_of_ble_eq_true rfl⟩) (fun r_63 hw => ?_)
        clear hPc
        clear hw
        refine lv_isub hx hb dX4_leakOn_130 ?_
        refine lv_topi (fun y_64 ey_64 => ?_)
        have ty_64 := isubF ey_64
        simp only [T30] at ty_64
        clear ey_64
        refine va_mmax hx hb (by rw [hml]; exact hl.1.symm) hown (ht _ w_664) (ht _ w_540) (ht _ w_119) (ht _ w_mathmax) (Nat.le_of_ble_eq_true rfl) (Nat.le_of_ble_eq_true rfl) (Nat.le_of_ble_eq_true rfl) (Nat.le_of_ble_eq_true rfl) dX4_leakOn_131 ?_
        refine lv_topi (fun y_65 ey_65 => ?_)
        have ty_65 := mmaxF ey_65
        simp only [T1] at ty_65
        clear ey_65
        exact W.iret (v := y_65) hx hb hr (fun t ht hW => ⟨y_65, rfl, trivial, ht⟩) (fun q h => absurd h List.not_mem_nil) dX4_leakOn_134
      simp only [i_eq, T3] at c_60
      refine lv_tableOut (tgt := 135) hx hb dX4_leakOn_42 (by omega) (by decide) ?_
      refine lv_iload hx hb dX4_leakOn_135 (lv_at hl 0 rfl) ?_
      exact W.iret (v := 30) hx hb hr (fun t ht hW => ⟨30, rfl, trivial, ht⟩) (fun q h => absurd h List.not_mem_nil) dX4_leakOn_137
set_option maxHeartbeats 8000000 in
set_option maxRecDepth 100000 in
theorem s_X4_leadingOn (l : Launch) (dC : Nat → ClassId) (dI : Nat → Nat → Nat) (cB cI cJ cZ cL : ClassId) (a : Nat → Nat) (ul : Int32) (uw : Int32) (uc : Int32) (ub : Int32) (n_lines : Int32) (n_days : Int32) (n_law : Int32) (n_odds : Int32) (n_volts : Int32) (n_spans : Int32) (n_wetLines : Int32) (n_wet : Int32) (n_acts : Int32) (n_a_snapDays : Nat → Int32) (p0 : Int32) (hsp : 0 ≤ Int32.toInt n_spans ∧ Int32.toInt n_spans ≤ 5) : Met l yX4_leadingOn (wy yX4_leadingOn cX4_leadingOn 4 (some .int)) ({ frames := 1, cells := 0, slots := 0, locals := 40 }) (va_Pc [.ref (a 8), .ref (a 4), .int p0] (fun U => va_P (dC, dI) vwCl [((a 8), .inr (4, [.int ul, .int uw, .int uc, .int ub, .ref (a 38), .ref (a 39)])), ((a 4), .inr (2, [.int n_lines, .int n_days, .int n_law, .int n_odds, .int n_volts, .int n_spans, .int n_wetLines, .int n_wet, .int n_acts, .ref (a 19), .ref (a 20), .ref (a 21), .ref (a 22), .ref (a 23), .ref (a 24), .ref (a 25), .ref (a 26)])), ((a 26), .inl (cI, 5, .inl n_a_snapDays))] U.heap ∧ va_K (dC, dI) vwCl (tyL cB cI cJ cZ cL) U ∧ NW U)) (vp_Si (fun r => 0 ≤ Int32.toInt r ∧ Int32.toInt r ≤ Int32.toInt n_spans)) 0 0 (fun _ => False) := by
  refine Met.ofW (cc := cX4_leadingOn) (maxL := 4) (ret := (some .int)) (by decide) rfl ?_
  intro p e s m args below meth c s₁ B hml hv
  obtain ⟨rfl, hP, hK, hN⟩ := hv
  have hx := B.exec
  have hb := B.bytes
  have hr := B.returns
  have ht : ∀ w ∈ lw_ok, w.before _ s = true := fun w h => atoms_spec (ws := wy yX4_leadingOn cX4_leadingOn 4 (some .int)) B.pre w (List.mem_cons_of_mem _ h)
  have hown : s.vm.findClass RX4 = some m.cls := findClass_of_methodNamed B.named
  have hlocks := B.notSynchronized
  have hl := lv_entry ([.ref (a 8), .ref (a 4), .int p0]) (n := 4) (Nat.le_of_ble_eq_true rfl)
  rw [lg_entry_eq]
  generalize (lg_sl ([.ref (a 8), .ref (a 4), .int p0]) ++ List.replicate (4 - (lg_sl ([.ref (a 8), .ref (a 4), .int p0])).length) Slot.unset).toArray = ls at hl ⊢
  have hl : lv_has ls 4 [(0, .ref (a 8)), (1, .ref (a 4)), (2, .int p0)] := hl
  have hP : va_P (dC, dI) vwCl [((a 8), .inr (4, [.int ul, .int uw, .int uc, .int ub, .ref (a 38), .ref (a 39)])), ((a 4), .inr (2, [.int n_lines, .int n_days, .int n_law, .int n_odds, .int n_volts, .int n_spans, .int n_wetLines, .int n_wet, .int n_acts, .ref (a 19), .ref (a 20), .ref (a 21), .ref (a 22), .ref (a 23), .ref (a 24), .ref (a 25), .ref (a 26)])), ((a 26), .inl (cI, 5, .inl n_a_snapDays))] s.heap := hP
  have rg_p0 := rgI p0
  refine lv_iconst (v := 0) hx hb dX4_leadingOn_0 (by decide) ?_
  refine lv_istore_n (lv' := [(3, .int 0), (0, .ref (a 8)), (1, .ref (a 4)), (2, .int p0)]) hx hb dX4_leadingOn_1 rfl hl (by decide) rfl (fun ls hl => ?_)
  have lp_11 : ∀ (d : Nat) (v_5 : Int32) (ls : Array Slot), ((0 ≤ Int32.toInt v_5)) → (2147483647 - Int32.toInt v_5).toNat < d → lv_has ls 4 [(3, .int v_5), (0, .ref (a 8)), (1, .ref (a 4)), (2, .int p0)] → W p l e (headSpec (wy yX4_leadingOn cX4_leadingOn 4 (some .int)) ({ frames := 1, cells := 0, slots := 0, locals := 40 })).room s m ([.ref (a 8), .ref (a 4), .int p0] : List Value).toArray below meth c s.heap [] 0 0 (MQ below (vp_Si (fun r => 0 ≤ Int32.toInt r ∧ Int32.toInt r ≤ Int32.toInt n_spans)) ([.ref (a 8), .ref (a 4), .int p0] : List Value).toArray s 0 0 (fun _ => False)) (F0 m 2 ls []) := by
    intro d
    induction d with
    | zero => intro v_5  ls hI hM; exact absurd hM (Nat.not_lt_zero _)
    | succ d ih_12 =>
      intro v_5 ls hI hM hl
      refine lv_iload_n hx hb dX4_leadingOn_2 rfl (lv_at hl 0 rfl) ?_
      refine lv_aload_n hx hb dX4_leadingOn_3 rfl (lv_at hl 2 rfl) ?_
      refine va_get (D := (dC, dI)) (ci := 2) (v := .int n_spans) (C := RX2) (T := TX2) (N := 17) hx hb ht iX2 hown hK hP 1 rfl rfl 5 (by decide) (ht _ w_219) (fun _ h9 => h9) rfl dX4_leadingOn_4 ?_
      refine lv_icmp_ge (tgt := 35) hx hb dX4_leadingOn_7 (by decide) (fun c_13 => ?_) (fun c_13 => ?_)
      · (try simp only [i_lt, i_le, i_eq] at c_13)
        refine lv_aload_n hx hb dX4_leadingOn_35 rfl (lv_at hl 2 rfl) ?_
        refine va_get (D := (dC, dI)) (ci := 2) (v := .int n_spans) (C := RX2) (T := TX2) (N := 17) hx hb ht iX2 hown hK hP 1 rfl rfl 5 (by decide) (ht _ w_219) (fun _ h9 => h9) rfl dX4_leadingOn_36 ?_
        exact W.iret (v := n_spans) hx hb hr (fun t ht hW => ⟨n_spans, rfl, (by first | omega | assumption | exact ⟨by first | omega | assumption, by first | omega | assumption⟩), ht⟩) (fun q h => absurd h List.not_mem_nil) dX4_leadingOn_39
      · (try simp only [i_lt, i_le, i_eq] at c_13)
        refine lv_iload_n hx hb dX4_leadingOn_10 rfl (lv_at hl 0 rfl) ?_
        refine lv_aload_n hx hb dX4_leadingOn_11 rfl (lv_at hl 1 rfl) ?_
        refine va_get (D := (dC, dI)) (ci := 4) (v := .int ub) (C := RX4) (T := TX4) (N := 6) hx hb ht iX4 hown hK hP 0 rfl rfl 3 (by decide) (ht _ w_314) (fun _ h9 => h9) rfl dX4_leadingOn_12 ?_
        refine lv_icmp_eq (tgt := 27) hx hb dX4_leadingOn_15 (by decide) (fun c_14 => ?_) (fun c_14 => ?_)
        · (try simp only [i_lt, i_le, i_eq] at c_14)
          refine lv_iload_n hx hb dX4_leadingOn_27 rfl (lv_at hl 0 rfl) ?_
          exact W.iret (v := v_5) hx hb hr (fun t ht hW => ⟨v_5, rfl, (by first | omega | assumption | exact ⟨by first | omega | assumption, by first | omega | assumption⟩), ht⟩) (fun q h => absurd h List.not_mem_nil) dX4_leadingOn_28
        · (try simp only [i_lt, i_le, i_eq] at c_14)
          refine lv_aload_n hx hb dX4_leadingOn_18 rfl (lv_at hl 2 rfl) ?_
          refine lv_iload_n hx hb dX4_leadingOn_19 rfl (lv_at hl 0 rfl) ?_
          refine lv_iload_n hx hb dX4_leadingOn_20 rfl (lv_at hl 3 rfl) ?_
          have hPc := hP.sub (ws' := [((a 4), .inr (2, [.int n_lines, .int n_days, .int n_law, .int n_odds, .int n_volts, .int n_spans, .int n_wetLines, .int n_wet, .int n_acts, .ref (a 19), .ref (a 20), .ref (a 21), .ref (a 22), .ref (a 23), .ref (a 24), .ref (a 25), .ref (a 26)])), ((a 26), .inl (cI, 5, .inl n_a_snapDays))]) [1, 2] rfl
          refine vp_callSi (W.runV (As := [.int v_5, .int p0]) (rest := []) ⟨hx, hb, hml, hown, ht⟩ (s_X2_isBroken l dC dI cB cI cJ cZ cL a n_lines n_days n_law n_odds n_volts n_spans n_wetLines n_wet n_acts n_a_snapDays v_5 p0 (by first | assumption | omega)) (cwV 2 ht (gV w_683 w_684 w_685 w_109 w_686) rfl rfl rfl (by decide +kernel) ⟨Nat.le_of_ble_eq_true rfl, Nat.le_of_ble_eq_true rfl⟩) (pVSn hN hK hPc (ci := 2) (q0 := 0) rfl rfl) rfl rfl hl.1 rfl (lv_room (Nat.le_of_ble_eq_true rfl)) dX4_leadingOn_21 ⟨Nat.le_of_ble_eq_true rfl, Nat.le_of_ble_eq_true rfl⟩) (fun r_15 hw => ?_)
          clear hPc
          clear hw
          refine lv_if_eq (tgt := 29) hx hb dX4_leadingOn_24 (by decide) (fun c_16 => ?_) (fun c_16 => ?_)
          · (try simp only [i_lt, i_le, i_eq, T0] at c_16)
            obtain ⟨y_17, ey_17⟩ : ∃ z : Int32, z = v_5 + 1 := ⟨_, rfl⟩
            have ty_17 := iaddF ey_17
            simp only [T1] at ty_17
            refine lv_iinc (v := y_17) (lv' := [(3, .int y_17), (0, .ref (a 8)), (1, .ref (a 4)), (2, .int p0)]) hx hb dX4_leadingOn_29 hl (k := 0) rfl (by rw [ey_17]; rfl) (by decide) rfl (fun ls hl => ?_)
            clear ey_17
            refine lv_goto (tgt := 2) hx hb dX4_leadingOn_32 (by decide) ?_
            exact ih_12 y_17 _ (by first | omega | assumption) (by omega) (lv_sub hl [0, 1, 2, 3] rfl)
          · (try simp only [i_lt, i_le, i_eq, T0] at c_16)
            refine lv_iload_n hx hb dX4_leadingOn_27 rfl (lv_at hl 0 rfl) ?_
            exact W.iret (v := v_5) hx hb hr (fun t ht hW => ⟨v_5, rfl, (by first | omega | assumption | exact ⟨by first | omega | assumption, by first | omega | assumption⟩), ht⟩) (fun q h => absurd h List.not_mem_nil) dX4_leadingOn_28
  exact lp_11 _ 0 _ (by first | omega | decide | assumption) (Nat.lt_succ_self _) (lv_sub hl [0, 1, 2, 3] rfl)
set_option maxHeartbeats 8000000 in
set_option maxRecDepth 100000 in
theorem s_X4_asTold (l : Launch) (dC : Nat → ClassId) (dI : Nat → Nat → Nat) (cB cI cJ cZ cL : ClassId) (sz : Nat) (a : Nat → Nat) (ul : Int32) (uw : Int32) (uc : Int32) (ub : Int32) (n_lines : Int32) (n_days : Int32) (n_law : Int32) (n_odds : Int32) (n_volts : Int32) (n_spans : Int32) (n_wetLines : Int32) (n_wet : Int32) (n_acts : Int32) (n_a_ohms : Nat → Int32) (n_a_leaks : Nat → Int32) (uo : Nat → Int32) (uk : Nat → Int32)   : Met l yX4_asTold (wy yX4_asTold cX4_asTold 2 none) ({ frames := 2, cells := 0, slots := 0, locals := 80 }) (va_Pc [.ref (a 8), .ref (a 4)] (fun U => U.heap.size = sz ∧ va_P (dC, dI) vwCl [((a 8), .inr (4, [.int ul, .int uw, .int uc, .int ub, .ref (a 38), .ref (a 39)])), ((a 4), .inr (2, [.int n_lines, .int n_days, .int n_law, .int n_odds, .int n_volts, .int n_spans, .int n_wetLines, .int n_wet, .int n_acts, .ref (a 19), .ref (a 20), .ref (a 21), .ref (a 22), .ref (a 23), .ref (a 24), .ref (a 25), .ref (a 26)])), ((a 19), .inl (cI, 5, .inl n_a_ohms)), ((a 20), .inl (cI, 5, .inl n_a_leaks)), ((a 38), .inl (cI, 5, .inl uo)), ((a 39), .inl (cI, 5, .inl uk))] U.heap ∧ va_K (dC, dI) vwCl (tyL cB cI cJ cZ cL) U ∧ va_D (fun _ => True) [((a 8), .inr (4, [.int ul, .int uw, .int uc, .int ub, .ref (a 38), .ref (a 39)])), ((a 4), .inr (2, [.int n_lines, .int n_days, .int n_law, .int n_odds, .int n_volts, .int n_spans, .int n_wetLines, .int n_wet, .int n_acts, .ref (a 19), .ref (a 20), .ref (a 21), .ref (a 22), .ref (a 23), .ref (a 24), .ref (a 25), .ref (a 26)])), ((a 19), .inl (cI, 5, .inl n_a_ohms)), ((a 20), .inl (cI, 5, .inl n_a_leaks)), ((a 38), .inl (cI, 5, .inl uo)), ((a 39), .inl (cI, 5, .inl uk))] ∧ NW U)) (va_Qv (fun u => True) (fun (u : (Int32) × (Int32) × (Int32) × (Int32) × (Nat → Int32) × (Nat → Int32)) t => va_P (dC, dI) vwCl [((a 8), .inr (4, [.int u.1, .int u.2.1, .int u.2.2.1, .int u.2.2.2.1, .ref (a 38), .ref (a 39)])), ((a 4), .inr (2, [.int n_lines, .int n_days, .int n_law, .int n_odds, .int n_volts, .int n_spans, .int n_wetLines, .int n_wet, .int n_acts, .ref (a 19), .ref (a 20), .ref (a 21), .ref (a 22), .ref (a 23), .ref (a 24), .ref (a 25), .ref (a 26)])), ((a 19), .inl (cI, 5, .inl n_a_ohms)), ((a 20), .inl (cI, 5, .inl n_a_leaks)), ((a 38), .inl (cI, 5, .inl u.2.2.2.2.1)), ((a 39), .inl (cI, 5, .inl u.2.2.2.2.2))] t.heap ∧ va_D (va_A [((a 8), .inr (4, [.int ul, .int uw, .int uc, .int ub, .ref (a 38), .ref (a 39)])), ((a 4), .inr (2, [.int n_lines, .int n_days, .int n_law, .int n_odds, .int n_volts, .int n_spans, .int n_wetLines, .int n_wet, .int n_acts, .ref (a 19), .ref (a 20), .ref (a 21), .ref (a 22), .ref (a 23), .ref (a 24), .ref (a 25), .ref (a 26)])), ((a 19), .inl (cI, 5, .inl n_a_ohms)), ((a 20), .inl (cI, 5, .inl n_a_leaks)), ((a 38), .inl (cI, 5, .inl uo)), ((a 39), .inl (cI, 5, .inl uk))] sz) [((a 8), .inr (4, [.int u.1, .int u.2.1, .int u.2.2.1, .int u.2.2.2.1, .ref (a 38), .ref (a 39)])), ((a 4), .inr (2, [.int n_lines, .int n_days, .int n_law, .int n_odds, .int n_volts, .int n_spans, .int n_wetLines, .int n_wet, .int n_acts, .ref (a 19), .ref (a 20), .ref (a 21), .ref (a 22), .ref (a 23), .ref (a 24), .ref (a 25), .ref (a 26)])), ((a 19), .inl (cI, 5, .inl n_a_ohms)), ((a 20), .inl (cI, 5, .inl n_a_leaks)), ((a 38), .inl (cI, 5, .inl u.2.2.2.2.1)), ((a 39), .inl (cI, 5, .inl u.2.2.2.2.2))]) (va_A [((a 8), .inr (4, [.int ul, .int uw, .int uc, .int ub, .ref (a 38), .ref (a 39)])), ((a 4), .inr (2, [.int n_lines, .int n_days, .int n_law, .int n_odds, .int n_volts, .int n_spans, .int n_wetLines, .int n_wet, .int n_acts, .ref (a 19), .ref (a 20), .ref (a 21), .ref (a 22), .ref (a 23), .ref (a 24), .ref (a 25), .ref (a 26)])), ((a 19), .inl (cI, 5, .inl n_a_ohms)), ((a 20), .inl (cI, 5, .inl n_a_leaks)), ((a 38), .inl (cI, 5, .inl uo)), ((a 39), .inl (cI, 5, .inl uk))] sz)) 0 0 (va_A [((a 8), .inr (4, [.int ul, .int uw, .int uc, .int ub, .ref (a 38), .ref (a 39)])), ((a 4), .inr (2, [.int n_lines, .int n_days, .int n_law, .int n_odds, .int n_volts, .int n_spans, .int n_wetLines, .int n_wet, .int n_acts, .ref (a 19), .ref (a 20), .ref (a 21), .ref (a 22), .ref (a 23), .ref (a 24), .ref (a 25), .ref (a 26)])), ((a 19), .inl (cI, 5, .inl n_a_ohms)), ((a 20), .inl (cI, 5, .inl n_a_leaks)), ((a 38), .inl (cI, 5, .inl uo)), ((a 39), .inl (cI, 5, .inl uk))] sz) := by
  refine Met.ofW (cc := cX4_asTold) (maxL := 2) (ret := none) (by decide) rfl ?_
  intro p e s m args below meth c s₁ B hml hv
  obtain ⟨rfl, hsz, hP, hK, hD0, hN⟩ := hv
  have hx := B.exec
  have hb := B.bytes
  have hr := B.returns
  have ht : ∀ w ∈ lw_ok, w.before _ s = true := fun w h => atoms_spec (ws := wy yX4_asTold cX4_asTold 2 none) B.pre w (List.mem_cons_of_mem _ h)
  have hown : s.vm.findClass RX4 = some m.cls := findClass_of_methodNamed B.named
  have hlocks := B.notSynchronized
  subst hsz
  have hD := hD0.self (sz := s.heap.size)
  generalize hAe : va_A [((a 8), .inr (4, [.int ul, .int uw, .int uc, .int ub, .ref (a 38), .ref (a 39)])), ((a 4), .inr (2, [.int n_lines, .int n_days, .int n_law, .int n_odds, .int n_volts, .int n_spans, .int n_wetLines, .int n_wet, .int n_acts, .ref (a 19), .ref (a 20), .ref (a 21), .ref (a 22), .ref (a 23), .ref (a 24), .ref (a 25), .ref (a 26)])), ((a 19), .inl (cI, 5, .inl n_a_ohms)), ((a 20), .inl (cI, 5, .inl n_a_leaks)), ((a 38), .inl (cI, 5, .inl uo)), ((a 39), .inl (cI, 5, .inl uk))] s.heap.size = A at hD ⊢
  have hA : ∀ q : Nat, s.heap.size ≤ q → A q := fun q h => by rw [← hAe]; exact Or.inr h
  have hS : va_S A s.heap s.heap [] := va_S.rf
  clear hAe hD0
  have hl := lv_entry ([.ref (a 8), .ref (a 4)]) (n := 2) (Nat.le_of_ble_eq_true rfl)
  rw [lg_entry_eq]
  generalize (lg_sl ([.ref (a 8), .ref (a 4)]) ++ List.replicate (2 - (lg_sl ([.ref (a 8), .ref (a 4)])).length) Slot.unset).toArray = ls at hl ⊢
  have hl : lv_has ls 2 [(0, .ref (a 8)), (1, .ref (a 4))] := hl
  have hP : va_P (dC, dI) vwCl [((a 8), .inr (4, [.int ul, .int uw, .int uc, .int ub, .ref (a 38), .ref (a 39)])), ((a 4), .inr (2, [.int n_lines, .int n_days, .int n_law, .int n_odds, .int n_volts, .int n_spans, .int n_wetLines, .int n_wet, .int n_acts, .ref (a 19), .ref (a 20), .ref (a 21), .ref (a 22), .ref (a 23), .ref (a 24), .ref (a 25), .ref (a 26)])), ((a 19), .inl (cI, 5, .inl n_a_ohms)), ((a 20), .inl (cI, 5, .inl n_a_leaks)), ((a 38), .inl (cI, 5, .inl uo)), ((a 39), .inl (cI, 5, .inl uk))] s.heap := hP
  have hD : va_D A [((a 8), .inr (4, [.int ul, .int uw, .int uc, .int ub, .ref (a 38), .ref (a 39)])), ((a 4), .inr (2, [.int n_lines, .int n_days, .int n_law, .int n_odds, .int n_volts, .int n_spans, .int n_wetLines, .int n_wet, .int n_acts, .ref (a 19), .ref (a 20), .ref (a 21), .ref (a 22), .ref (a 23), .ref (a 24), .ref (a 25), .ref (a 26)])), ((a 19), .inl (cI, 5, .inl n_a_ohms)), ((a 20), .inl (cI, 5, .inl n_a_leaks)), ((a 38), .inl (cI, 5, .inl uo)), ((a 39), .inl (cI, 5, .inl uk))] := hD
  refine lv_aload_n hx hb dX4_asTold_0 rfl (lv_at hl 0 rfl) ?_
  refine lv_aload_n hx hb dX4_asTold_1 rfl (lv_at hl 1 rfl) ?_
  refine va_get (D := (dC, dI)) (ci := 2) (v := .int n_law) (C := RX2) (T := TX2) (N := 17) hx hb ht iX2 hown hK hP 1 rfl rfl 2 (by decide) (ht _ w_208) (fun _ h9 => h9) rfl dX4_asTold_2 ?_
  refine va_put (D := (dC, dI)) (ci := 4) (v := .int n_law) (ty := .int) (C := RX4) (T := TX4) (N := 6) hx hb ht iX4 tyX4 tyX4_ok nmX4 hown hK hP hD hS 0 rfl rfl 0 (by decide) (ht _ w_308) (fun _ h9 => h9) rfl (by decide +kernel) rfl rfl (Nat.le_of_ble_eq_true rfl) dX4_asTold_5 (fun H locs hP hD hS => ?_)
  have hP : va_P (dC, dI) vwCl [((a 8), .inr (4, [.int n_law, .int uw, .int uc, .int ub, .ref (a 38), .ref (a 39)])), ((a 4), .inr (2, [.int n_lines, .int n_days, .int n_law, .int n_odds, .int n_volts, .int n_spans, .int n_wetLines, .int n_wet, .int n_acts, .ref (a 19), .ref (a 20), .ref (a 21), .ref (a 22), .ref (a 23), .ref (a 24), .ref (a 25), .ref (a 26)])), ((a 19), .inl (cI, 5, .inl n_a_ohms)), ((a 20), .inl (cI, 5, .inl n_a_leaks)), ((a 38), .inl (cI, 5, .inl uo)), ((a 39), .inl (cI, 5, .inl uk))] H := hP
  have hD : va_D A [((a 8), .inr (4, [.int n_law, .int uw, .int uc, .int ub, .ref (a 38), .ref (a 39)])), ((a 4), .inr (2, [.int n_lines, .int n_days, .int n_law, .int n_odds, .int n_volts, .int n_spans, .int n_wetLines, .int n_wet, .int n_acts, .ref (a 19), .ref (a 20), .ref (a 21), .ref (a 22), .ref (a 23), .ref (a 24), .ref (a 25), .ref (a 26)])), ((a 19), .inl (cI, 5, .inl n_a_ohms)), ((a 20), .inl (cI, 5, .inl n_a_leaks)), ((a 38), .inl (cI, 5, .inl uo)), ((a 39), .inl (cI, 5, .inl uk))] := hD
  refine lv_aload_n hx hb dX4_asTold_8 rfl (lv_at hl 0 rfl) ?_
  refine lv_aload_n hx hb dX4_asTold_9 rfl (lv_at hl 1 rfl) ?_
  refine va_get (D := (dC, dI)) (ci := 2) (v := .int n_wet) (C := RX2) (T := TX2) (N := 17) hx hb ht iX2 hown hK hP 1 rfl rfl 7 (by decide) (ht _ w_226) (fun _ h9 => h9) rfl dX4_asTold_10 ?_
  refine va_put (D := (dC, dI)) (ci := 4) (v := .int n_wet) (ty := .int) (C := RX4) (T := TX4) (N := 6) hx hb ht iX4 tyX4 tyX4_ok nmX4 hown hK hP hD hS 0 rfl rfl 1 (by decide) (ht _ w_310) (fun _ h9 => h9) rfl (by decide +kernel) rfl rfl (Nat.le_of_ble_eq_true rfl) dX4_asTold_13 (fun H locs hP hD hS => ?_)
  have hP : va_P (dC, dI) vwCl [((a 8), .inr (4, [.int n_law, .int n_wet, .int uc, .int ub, .ref (a 38), .ref (a 39)])), ((a 4), .inr (2, [.int n_lines, .int n_days, .int n_law, .int n_odds, .int n_volts, .int n_spans, .int n_wetLines, .int n_wet, .int n_acts, .ref (a 19), .ref (a 20), .ref (a 21), .ref (a 22), .ref (a 23), .ref (a 24), .ref (a 25), .ref (a 26)])), ((a 19), .inl (cI, 5, .inl n_a_ohms)), ((a 20), .inl (cI, 5, .inl n_a_leaks)), ((a 38), .inl (cI, 5, .inl uo)), ((a 39), .inl (cI, 5, .inl uk))] H := hP
  have hD : va_D A [((a 8), .inr (4, [.int n_law, .int n_wet, .int uc, .int ub, .ref (a 38), .ref (a 39)])), ((a 4), .inr (2, [.int n_lines, .int n_days, .int n_law, .int n_odds, .int n_volts, .int n_spans, .int n_wetLines, .int n_wet, .int n_acts, .ref (a 19), .ref (a 20), .ref (a 21), .ref (a 22), .ref (a 23), .ref (a 24), .ref (a 25), .ref (a 26)])), ((a 19), .inl (cI, 5, .inl n_a_ohms)), ((a 20), .inl (cI, 5, .inl n_a_leaks)), ((a 38), .inl (cI, 5, .inl uo)), ((a 39), .inl (cI, 5, .inl uk))] := hD
  refine lv_aload_n hx hb dX4_asTold_16 rfl (lv_at hl 0 rfl) ?_
  refine lv_iconst (v := 0) hx hb dX4_asTold_17 (by decide) ?_
  refine va_put (D := (dC, dI)) (ci := 4) (v := .int 0) (ty := .int) (C := RX4) (T := TX4) (N := 6) hx hb ht iX4 tyX4 tyX4_ok nmX4 hown hK hP hD hS 0 rfl rfl 2 (by decide) (ht _ w_312) (fun _ h9 => h9) rfl (by decide +kernel) rfl rfl (Nat.le_of_ble_eq_true rfl) dX4_asTold_18 (fun H locs hP hD hS => ?_)
  have hP : va_P (dC, dI) vwCl [((a 8), .inr (4, [.int n_law, .int n_wet, .int 0, .int ub, .ref (a 38), .ref (a 39)])), ((a 4), .inr (2, [.int n_lines, .int n_days, .int n_law, .int n_odds, .int n_volts, .int n_spans, .int n_wetLines, .int n_wet, .int n_acts, .ref (a 19), .ref (a 20), .ref (a 21), .ref (a 22), .ref (a 23), .ref (a 24), .ref (a 25), .ref (a 26)])), ((a 19), .inl (cI, 5, .inl n_a_ohms)), ((a 20), .inl (cI, 5, .inl n_a_leaks)), ((a 38), .inl (cI, 5, .inl uo)), ((a 39), .inl (cI, 5, .inl uk))] H := hP
  have hD : va_D A [((a 8), .inr (4, [.int n_law, .int n_wet, .int 0, .int ub, .ref (a 38), .ref (a 39)])), ((a 4), .inr (2, [.int n_lines, .int n_days, .int n_law, .int n_odds, .int n_volts, .int n_spans, .int n_wetLines, .int n_wet, .int n_acts, .ref (a 19), .ref (a 20), .ref (a 21), .ref (a 22), .ref (a 23), .ref (a 24), .ref (a 25), .ref (a 26)])), ((a 19), .inl (cI, 5, .inl n_a_ohms)), ((a 20), .inl (cI, 5, .inl n_a_leaks)), ((a 38), .inl (cI, 5, .inl uo)), ((a 39), .inl (cI, 5, .inl uk))] := hD
  refine lv_aload_n hx hb dX4_asTold_21 rfl (lv_at hl 0 rfl) ?_
  refine lv_iconst (v := (-1)) hx hb dX4_asTold_22 (by decide) ?_
  refine va_put (D := (dC, dI)) (ci := 4) (v := .int (-1)) (ty := .int) (C := RX4) (T := TX4) (N := 6) hx hb ht iX4 tyX4 tyX4_ok nmX4 hown hK hP hD hS 0 rfl rfl 3 (by decide) (ht _ w_314) (fun _ h9 => h9) rfl (by decide +kernel) rfl rfl (Nat.le_of_ble_eq_true rfl) dX4_asTold_23 (fun H locs hP hD hS => ?_)
  have hP : va_P (dC, dI) vwCl [((a 8), .inr (4, [.int n_law, .int n_wet, .int 0, .int (-1), .ref (a 38), .ref (a 39)])), ((a 4), .inr (2, [.int n_lines, .int n_days, .int n_law, .int n_odds, .int n_volts, .int n_spans, .int n_wetLines, .int n_wet, .int n_acts, .ref (a 19), .ref (a 20), .ref (a 21), .ref (a 22), .ref (a 23), .ref (a 24), .ref (a 25), .ref (a 26)])), ((a 19), .inl (cI, 5, .inl n_a_ohms)), ((a 20), .inl (cI, 5, .inl n_a_leaks)), ((a 38), .inl (cI, 5, .inl uo)), ((a 39), .inl (cI, 5, .inl uk))] H := hP
  have hD : va_D A [((a 8), .inr (4, [.int n_law, .int n_wet, .int 0, .int (-1), .ref (a 38), .ref (a 39)])), ((a 4), .inr (2, [.int n_lines, .int n_days, .int n_law, .int n_odds, .int n_volts, .int n_spans, .int n_wetLines, .int n_wet, .int n_acts, .ref (a 19), .ref (a 20), .ref (a 21), .ref (a 22), .ref (a 23), .ref (a 24), .ref (a 25), .ref (a 26)])), ((a 19), .inl (cI, 5, .inl n_a_ohms)), ((a 20), .inl (cI, 5, .inl n_a_leaks)), ((a 38), .inl (cI, 5, .inl uo)), ((a 39), .inl (cI, 5, .inl uk))] := hD
  refine lv_aload_n hx hb dX4_asTold_26 rfl (lv_at hl 1 rfl) ?_
  refine va_get (D := (dC, dI)) (ci := 2) (v := .ref (a 19)) (C := RX2) (T := TX2) (N := 17) hx hb ht iX2 hown hK hP 1 rfl rfl 9 (by decide) (ht _ w_232) (fun _ h9 => h9) rfl dX4_asTold_27 ?_
  refine lv_iconst (v := 0) hx hb dX4_asTold_30 (by decide) ?_
  refine lv_aload_n hx hb dX4_asTold_31 rfl (lv_at hl 0 rfl) ?_
  refine va_get (D := (dC, dI)) (ci := 4) (v := .ref (a 38)) (C := RX4) (T := TX4) (N := 6) hx hb ht iX4 hown hK hP 0 rfl rfl 4 (by decide) (ht _ w_316) (fun _ h9 => h9) rfl dX4_asTold_32 ?_
  refine lv_iconst (v := 0) hx hb dX4_asTold_35 (by decide) ?_
  refine lv_iconst (v := 5) hx hb dX4_asTold_36 (by decide) ?_
  refine va_copyi hx hb (by rw [hml]; exact hl.1.symm) hown (ht _ w_641) (ht _ w_600) (ht _ w_599) (ht _ w_121) hK hP hD hS 2 4 1 1 rfl rfl rfl rfl rfl (by decide) (by decide) (by decide) (by decide) (by decide) (fun _ _ => rfl) (Nat.le_of_ble_eq_true rfl) (Nat.le_of_ble_eq_true rfl) dX4_asTold_37 (fun H locs hP hD hS => ?_)
  obtain ⟨f_1, ef_1⟩ : ∃ z : Nat → Int32, z = va_cpy n_a_ohms uo (Int32.toNatClampNeg 0) (Int32.toNatClampNeg 0) (Int32.toNatClampNeg 5) := ⟨_, rfl⟩
  rw [← ef_1] at hP hD
  clear ef_1
  have hP : va_P (dC, dI) vwCl [((a 8), .inr (4, [.int n_law, .int n_wet, .int 0, .int (-1), .ref (a 38), .ref (a 39)])), ((a 4), .inr (2, [.int n_lines, .int n_days, .int n_law, .int n_odds, .int n_volts, .int n_spans, .int n_wetLines, .int n_wet, .int n_acts, .ref (a 19), .ref (a 20), .ref (a 21), .ref (a 22), .ref (a 23), .ref (a 24), .ref (a 25), .ref (a 26)])), ((a 19), .inl (cI, 5, .inl n_a_ohms)), ((a 20), .inl (cI, 5, .inl n_a_leaks)), ((a 38), .inl (cI, 5, .inl f_1)), ((a 39), .inl (cI, 5, .inl uk))] H := hP
  have hD : va_D A [((a 8), .inr (4, [.int n_law, .int n_wet, .int 0, .int (-1), .ref (a 38), .ref (a 39)])), ((a 4), .inr (2, [.int n_lines, .int n_days, .int n_law, .int n_odds, .int n_volts, .int n_spans, .int n_wetLines, .int n_wet, .int n_acts, .ref (a 19), .ref (a 20), .ref (a 21), .ref (a 22), .ref (a 23), .ref (a 24), .ref (a 25), .ref (a 26)])), ((a 19), .inl (cI, 5, .inl n_a_ohms)), ((a 20), .inl (cI, 5, .inl n_a_leaks)), ((a 38), .inl (cI, 5, .inl f_1)), ((a 39), .inl (cI, 5, .inl uk))] := hD
  refine lv_aload_n hx hb dX4_asTold_40 rfl (lv_at hl 1 rfl) ?_
  refine va_get (D := (dC, dI)) (ci := 2) (v := .ref (a 20)) (C := RX2) (T := TX2) (N := 17) hx hb ht iX2 hown hK hP 1 rfl rfl 10 (by decide) (ht _ w_236) (fun _ h9 => h9) rfl dX4_asTold_41 ?_
  refine lv_iconst (v := 0) hx hb dX4_asTold_44 (by decide) ?_
  refine lv_aload_n hx hb dX4_asTold_45 rfl (lv_at hl 0 rfl) ?_
  refine va_get (D := (dC, dI)) (ci := 4) (v := .ref (a 39)) (C := RX4) (T := TX4) (N := 6) hx hb ht iX4 hown hK hP 0 rfl rfl 5 (by decide) (ht _ w_319) (fun _ h9 => h9) rfl dX4_asTold_46 ?_
  refine lv_iconst (v := 0) hx hb dX4_asTold_49 (by decide) ?_
  refine lv_iconst (v := 5) hx hb dX4_asTold_50 (by decide) ?_
  refine va_copyi hx hb (by rw [hml]; exact hl.1.symm) hown (ht _ w_641) (ht _ w_600) (ht _ w_599) (ht _ w_121) hK hP hD hS 3 5 1 1 rfl rfl rfl rfl rfl (by decide) (by decide) (by decide) (by decide) (by decide) (fun _ _ => rfl) (Nat.le_of_ble_eq_true rfl) (Nat.le_of_ble_eq_true rfl) dX4_asTold_51 (fun H locs hP hD hS => ?_)
  obtain ⟨f_2, ef_2⟩ : ∃ z : Nat → Int32, z = va_cpy n_a_leaks uk (Int32.toNatClampNeg 0) (Int32.toNatClampNeg 0) (Int32.toNatClampNeg 5) := ⟨_, rfl⟩
  rw [← ef_2] at hP hD
  clear ef_2
  have hP : va_P (dC, dI) vwCl [((a 8), .inr (4, [.int n_law, .int n_wet, .int 0, .int (-1), .ref (a 38), .ref (a 39)])), ((a 4), .inr (2, [.int n_lines, .int n_days, .int n_law, .int n_odds, .int n_volts, .int n_spans, .int n_wetLines, .int n_wet, .int n_acts, .ref (a 19), .ref (a 20), .ref (a 21), .ref (a 22), .ref (a 23), .ref (a 24), .ref (a 25), .ref (a 26)])), ((a 19), .inl (cI, 5, .inl n_a_ohms)), ((a 20), .inl (cI, 5, .inl n_a_leaks)), ((a 38), .inl (cI, 5, .inl f_1)), ((a 39), .inl (cI, 5, .inl f_2))] H := hP
  have hD : va_D A [((a 8), .inr (4, [.int n_law, .int n_wet, .int 0, .int (-1), .ref (a 38), .ref (a 39)])), ((a 4), .inr (2, [.int n_lines, .int n_days, .int n_law, .int n_odds, .int n_volts, .int n_spans, .int n_wetLines, .int n_wet, .int n_acts, .ref (a 19), .ref (a 20), .ref (a 21), .ref (a 22), .ref (a 23), .ref (a 24), .ref (a 25), .ref (a 26)])), ((a 19), .inl (cI, 5, .inl n_a_ohms)), ((a 20), .inl (cI, 5, .inl n_a_leaks)), ((a 38), .inl (cI, 5, .inl f_1)), ((a 39), .inl (cI, 5, .inl f_2))] := hD
  have hP9 := hP.sub (ws' := [((a 8), .inr (4, [.int n_law, .int n_wet, .int 0, .int (-1), .ref (a 38), .ref (a 39)])), ((a 4), .inr (2, [.int n_lines, .int n_days, .int n_law, .int n_odds, .int n_volts, .int n_spans, .int n_wetLines, .int n_wet, .int n_acts, .ref (a 19), .ref (a 20), .ref (a 21), .ref (a 22), .ref (a 23), .ref (a 24), .ref (a 25), .ref (a 26)])), ((a 19), .inl (cI, 5, .inl n_a_ohms)), ((a 20), .inl (cI, 5, .inl n_a_leaks)), ((a 38), .inl (cI, 5, .inl f_1)), ((a 39), .inl (cI, 5, .inl f_2))]) [0, 1, 2, 3, 4, 5] rfl
  have hD9 := hD.sub (ws' := [((a 8), .inr (4, [.int n_law, .int n_wet, .int 0, .int (-1), .ref (a 38), .ref (a 39)])), ((a 4), .inr (2, [.int n_lines, .int n_days, .int n_law, .int n_odds, .int n_volts, .int n_spans, .int n_wetLines, .int n_wet, .int n_acts, .ref (a 19), .ref (a 20), .ref (a 21), .ref (a 22), .ref (a 23), .ref (a 24), .ref (a 25), .ref (a 26)])), ((a 19), .inl (cI, 5, .inl n_a_ohms)), ((a 20), .inl (cI, 5, .inl n_a_leaks)), ((a 38), .inl (cI, 5, .inl f_1)), ((a 39), .inl (cI, 5, .inl f_2))]) [0, 1, 2, 3, 4, 5] (by decide) rfl
  exact W.vret hx hb hr (fun t ht hW => ⟨⟨(n_law, n_wet, 0, (-1), f_1, f_2), rfl, trivial, ⟨by rw [ht]; exact hP9, hD9⟩⟩, hS.F ht⟩) hS.2.2 dX4_asTold_54
set_option maxHeartbeats 8000000 in
set_option maxRecDepth 100000 in
theorem s_X1_firstAmps (l : Launch) (dC : Nat → ClassId) (dI : Nat → Nat → Nat) (cB cI cJ cZ cL : ClassId) (a : Nat → Nat) (le : Int32) (lo : Int64) (la : Nat → Int64)   : Met l yX1_firstAmps (wy yX1_firstAmps cX1_firstAmps 1 (some .long)) ({ frames := 0, cells := 0, slots := 0, locals := 0 }) (va_Pc [.ref (a 9)] (fun U => va_P (dC, dI) vwCl [((a 9), .inr (1, [.int le, .long lo, .ref (a 40), .ref (a 41), .ref (a 42)])), ((a 42), .inl (cJ, 5, .inr (.inl la)))] U.heap ∧ va_K (dC, dI) vwCl (tyL cB cI cJ cZ cL) U ∧ NW U)) (vp_Sl (fun r => True)) 0 0 (fun _ => False) := by
  refine Met.ofW (cc := cX1_firstAmps) (maxL := 1) (ret := (some .long)) (by decide) rfl ?_
  intro p e s m args below meth c s₁ B hml hv
  obtain ⟨rfl, hP, hK, hN⟩ := hv
  have hx := B.exec
  have hb := B.bytes
  have hr := B.returns
  have ht : ∀ w ∈ lw_ok, w.before _ s = true := fun w h => atoms_spec (ws := wy yX1_firstAmps cX1_firstAmps 1 (some .long)) B.pre w (List.mem_cons_of_mem _ h)
  have hown : s.vm.findClass RX1 = some m.cls := findClass_of_methodNamed B.named
  have hlocks := B.notSynchronized
  have hl := lv_entry ([.ref (a 9)]) (n := 1) (Nat.le_of_ble_eq_true rfl)
  rw [lg_entry_eq]
  generalize (lg_sl ([.ref (a 9)]) ++ List.replicate (1 - (lg_sl ([.ref (a 9)])).length) Slot.unset).toArray = ls at hl ⊢
  have hl : lv_has ls 1 [(0, .ref (a 9))] := hl
  have hP : va_P (dC, dI) vwCl [((a 9), .inr (1, [.int le, .long lo, .ref (a 40), .ref (a 41), .ref (a 42)])), ((a 42), .inl (cJ, 5, .inr (.inl la)))] s.heap := hP
  refine lv_aload_n hx hb dX1_firstAmps_0 rfl (lv_at hl 0 rfl) ?_
  refine va_get (D := (dC, dI)) (ci := 1) (v := .int le) (C := RX1) (T := TX1) (N := 5) hx hb ht iX1 hown hK hP 0 rfl rfl 0 (by decide) (ht _ w_340) (fun _ h9 => h9) rfl dX1_firstAmps_1 ?_
  refine lv_if_le (tgt := 16) hx hb dX1_firstAmps_4 (by decide) (fun c_1 => ?_) (fun c_1 => ?_)
  · (try simp only [i_lt, i_le, i_eq, T0] at c_1)
    refine lv_lconst (v := 0) hx hb dX1_firstAmps_16 (by decide) ?_
    exact W.lret (v := 0) hx hb hr (fun t ht hW => ⟨0, rfl, trivial, ht⟩) (fun q h => absurd h List.not_mem_nil) dX1_firstAmps_17
  · (try simp only [i_lt, i_le, i_eq, T0] at c_1)
    refine lv_aload_n hx hb dX1_firstAmps_7 rfl (lv_at hl 0 rfl) ?_
    refine va_get (D := (dC, dI)) (ci := 1) (v := .ref (a 42)) (C := RX1) (T := TX1) (N := 5) hx hb ht iX1 hown hK hP 0 rfl rfl 4 (by decide) (ht _ w_348) (fun _ h9 => h9) rfl dX1_firstAmps_8 ?_
    refine lv_iconst (v := 0) hx hb dX1_firstAmps_11 (by decide) ?_
    refine va_lald hx hb hK hP 1 2 rfl rfl (by unfold vp_in; decide) dX1_firstAmps_12 ?_
    refine lv_topl (fun y_2 ey_2 => ?_)
    refine lv_goto (tgt := 17) hx hb dX1_firstAmps_13 (by decide) ?_
    exact W.lret (v := y_2) hx hb hr (fun t ht hW => ⟨y_2, rfl, trivial, ht⟩) (fun q h => absurd h List.not_mem_nil) dX1_firstAmps_17
set_option maxHeartbeats 8000000 in
set_option maxRecDepth 100000 in
theorem s_X1_readsInto (l : Launch) (dC : Nat → ClassId) (dI : Nat → Nat → Nat) (cB cI cJ cZ cL : ClassId) (sz : Nat) (a : Nat → Nat) (le : Int32) (lo : Int64) (la : Nat → Int64) (fa : Int64) (fb : Int64)   : Met l yX1_readsInto (wy yX1_readsInto cX1_readsInto 2 none) ({ frames := 2, cells := 0, slots := 0, locals := 80 }) (va_Pc [.ref (a 9), .ref (a 10)] (fun U => U.heap.size = sz ∧ va_P (dC, dI) vwCl [((a 9), .inr (1, [.int le, .long lo, .ref (a 40), .ref (a 41), .ref (a 42)])), ((a 42), .inl (cJ, 5, .inr (.inl la))), ((a 10), .inr (0, [.long fa, .long fb]))] U.heap ∧ va_K (dC, dI) vwCl (tyL cB cI cJ cZ cL) U ∧ va_D (fun _ => True) [((a 9), .inr (1, [.int le, .long lo, .ref (a 40), .ref (a 41), .ref (a 42)])), ((a 42), .inl (cJ, 5, .inr (.inl la))), ((a 10), .inr (0, [.long fa, .long fb]))] ∧ NW U)) (va_Qv (fun u => True) (fun (u : (Int64) × (Int64)) t => va_P (dC, dI) vwCl [((a 9), .inr (1, [.int le, .long lo, .ref (a 40), .ref (a 41), .ref (a 42)])), ((a 42), .inl (cJ, 5, .inr (.inl la))), ((a 10), .inr (0, [.long u.1, .long u.2]))] t.heap ∧ va_D (va_A [((a 9), .inr (1, [.int le, .long lo, .ref (a 40), .ref (a 41), .ref (a 42)])), ((a 42), .inl (cJ, 5, .inr (.inl la))), ((a 10), .inr (0, [.long fa, .long fb]))] sz) [((a 9), .inr (1, [.int le, .long lo, .ref (a 40), .ref (a 41), .ref (a 42)])), ((a 42), .inl (cJ, 5, .inr (.inl la))), ((a 10), .inr (0, [.long u.1, .long u.2]))]) (va_A [((a 9), .inr (1, [.int le, .long lo, .ref (a 40), .ref (a 41), .ref (a 42)])), ((a 42), .inl (cJ, 5, .inr (.inl la))), ((a 10), .inr (0, [.long fa, .long fb]))] sz)) 0 0 (va_A [((a 9), .inr (1, [.int le, .long lo, .ref (a 40), .ref (a 41), .ref (a 42)])), ((a 42), .inl (cJ, 5, .inr (.inl la))), ((a 10), .inr (0, [.long fa, .long fb]))] sz) := by
  refine Met.ofW (cc := cX1_readsInto) (maxL := 2) (ret := none) (by decide) rfl ?_
  intro p e s m args below meth c s₁ B hml hv
  obtain ⟨rfl, hsz, hP, hK, hD0, hN⟩ := hv
  have hx := B.exec
  have hb := B.bytes
  have hr := B.returns
  have ht : ∀ w ∈ lw_ok, w.before _ s = true := fun w h => atoms_spec (ws := wy yX1_readsInto cX1_readsInto 2 none) B.pre w (List.mem_cons_of_mem _ h)
  have hown : s.vm.findClass RX1 = some m.cls := findClass_of_methodNamed B.named
  have hlocks := B.notSynchronized
  subst hsz
  have hD := hD0.self (sz := s.heap.size)
  generalize hAe : va_A [((a 9), .inr (1, [.int le, .long lo, .ref (a 40), .ref (a 41), .ref (a 42)])), ((a 42), .inl (cJ, 5, .inr (.inl la))), ((a 10), .inr (0, [.long fa, .long fb]))] s.heap.size = A at hD ⊢
  have hA : ∀ q : Nat, s.heap.size ≤ q → A q := fun q h => by rw [← hAe]; exact Or.inr h
  have hS : va_S A s.heap s.heap [] := va_S.rf
  clear hAe hD0
  have hl := lv_entry ([.ref (a 9), .ref (a 10)]) (n := 2) (Nat.le_of_ble_eq_true rfl)
  rw [lg_entry_eq]
  generalize (lg_sl ([.ref (a 9), .ref (a 10)]) ++ List.replicate (2 - (lg_sl ([.ref (a 9), .ref (a 10)])).length) Slot.unset).toArray = ls at hl ⊢
  have hl : lv_has ls 2 [(0, .ref (a 9)), (1, .ref (a 10))] := hl
  have hP : va_P (dC, dI) vwCl [((a 9), .inr (1, [.int le, .long lo, .ref (a 40), .ref (a 41), .ref (a 42)])), ((a 42), .inl (cJ, 5, .inr (.inl la))), ((a 10), .inr (0, [.long fa, .long fb]))] s.heap := hP
  have hD : va_D A [((a 9), .inr (1, [.int le, .long lo, .ref (a 40), .ref (a 41), .ref (a 42)])), ((a 42), .inl (cJ, 5, .inr (.inl la))), ((a 10), .inr (0, [.long fa, .long fb]))] := hD
  refine lv_aload_n hx hb dX1_readsInto_0 rfl (lv_at hl 1 rfl) ?_
  refine lv_aload_n hx hb dX1_readsInto_1 rfl (lv_at hl 0 rfl) ?_
  refine va_get (D := (dC, dI)) (ci := 1) (v := .long lo) (C := RX1) (T := TX1) (N := 5) hx hb ht iX1 hown hK hP 0 rfl rfl 1 (by decide) (ht _ w_342) (fun _ h9 => h9) rfl dX1_readsInto_2 ?_
  refine lv_aload_n hx hb dX1_readsInto_5 rfl (lv_at hl 0 rfl) ?_
  have hPc := hP.sub (ws' := [((a 9), .inr (1, [.int le, .long lo, .ref (a 40), .ref (a 41), .ref (a 42)])), ((a 42), .inl (cJ, 5, .inr (.inl la)))]) [0, 1] rfl
  refine vp_callSl (W.runV (As := []) (rest := [.long lo, .ref (a 10)]) ⟨hx, hb, hml, hown, ht⟩ (s_X1_firstAmps l dC dI cB cI cJ cZ cL a le lo la) (cwV 0 ht (gV w_710 w_711 w_712 w_112 w_713) rfl rfl rfl (by decide +kernel) ⟨Nat.le_of_ble_eq_true rfl, Nat.le_of_ble_eq_true rfl⟩) (pVSn hN hK hPc (ci := 1) (q0 := 0) rfl rfl) rfl rfl hl.1 rfl (lv_room (Nat.le_of_ble_eq_true rfl)) dX1_readsInto_6 ⟨Nat.le_of_ble_eq_true rfl, Nat.le_of_ble_eq_true rfl⟩) (fun r_1 hw => ?_)
  clear hPc
  clear hw
  have hPc := hP.sub (ws' := [((a 10), .inr (0, [.long fa, .long fb]))]) [2] rfl
  have hDc := hD.sub (ws' := [((a 10), .inr (0, [.long fa, .long fb]))]) [2] (by decide) rfl
  have hFc := va_free (wc := [((a 10), .inr (0, [.long fa, .long fb]))]) hD hS hA [2] rfl
  refine va_callv (va_runV (As := [.long lo, .long r_1]) (rest := []) ⟨hx, hb, hml, hown, ht⟩ (s_X0_set l dC dI cB cI cJ cZ cL s.heap.size a fa fb lo r_1) (cwV 2 ht (gV w_714 w_715 w_716 w_113 w_717) rfl rfl rfl (by decide +kernel) ⟨Nat.le_of_ble_eq_true rfl, Nat.le_of_ble_eq_true rfl⟩) (pVQn hN hK hPc hDc (ci := 0) (q0 := 0) rfl rfl) rfl rfl hl.1 rfl (lv_room (Nat.le_of_ble_eq_true rfl)) dX1_readsInto_9 ⟨Nat.le_of_ble_eq_true rfl, Nat.le_of_ble_eq_true rfl⟩) hS (fun q _ h => hFc q h) hFc (fun u_3 t1 H1 locs ht1 hvm hw hB hz1 hk1 hS => ?_)
  obtain ⟨z_4, z_5⟩ := u_3
  obtain ⟨hP1, hD1⟩ := hB
  rw [ht1] at hP1
  obtain ⟨hP, hD⟩ := va_join (wr := [((a 9), .inr (1, [.int le, .long lo, .ref (a 40), .ref (a 41), .ref (a 42)])), ((a 42), .inl (cJ, 5, .inr (.inl la)))]) (w1 := [((a 10), .inr (0, [.long z_4, .long z_5]))]) hP hD [2] [0, 1] rfl rfl (by decide) (by decide) hk1 hFc hP1 hD1
  clear hFc hDc hPc hP1 hD1 hz1 hk1 hvm
  generalize H1 = H at hP hS ⊢
  have hP : va_P (dC, dI) vwCl [((a 9), .inr (1, [.int le, .long lo, .ref (a 40), .ref (a 41), .ref (a 42)])), ((a 42), .inl (cJ, 5, .inr (.inl la))), ((a 10), .inr (0, [.long z_4, .long z_5]))] H := hP
  have hD : va_D A [((a 9), .inr (1, [.int le, .long lo, .ref (a 40), .ref (a 41), .ref (a 42)])), ((a 42), .inl (cJ, 5, .inr (.inl la))), ((a 10), .inr (0, [.long z_4, .long z_5]))] := hD
  clear hw
  have hP9 := hP.sub (ws' := [((a 9), .inr (1, [.int le, .long lo, .ref (a 40), .ref (a 41), .ref (a 42)])), ((a 42), .inl (cJ, 5, .inr (.inl la))), ((a 10), .inr (0, [.long z_4, .long z_5]))]) [0, 1, 2] rfl
  have hD9 := hD.sub (ws' := [((a 9), .inr (1, [.int le, .long lo, .ref (a 40), .ref (a 41), .ref (a 42)])), ((a 42), .inl (cJ, 5, .inr (.inl la))), ((a 10), .inr (0, [.long z_4, .long z_5]))]) [0, 1, 2] (by decide) rfl
  exact W.vret hx hb hr (fun t ht hW => ⟨⟨(z_4, z_5), rfl, trivial, ⟨by rw [ht]; exact hP9, hD9⟩⟩, hS.F ht⟩) hS.2.2 dX1_readsInto_12
set_option maxHeartbeats 8000000 in
set_option maxRecDepth 100000 in
theorem s_X1_settle (l : Launch) (dC : Nat → ClassId) (dI : Nat → Nat → Nat) (cB cI cJ cZ cL : ClassId) (sz : Nat) (a : Nat → Nat) (le : Int32) (lo : Int64) (n_lines : Int32) (n_days : Int32) (n_law : Int32) (n_odds : Int32) (n_volts : Int32) (n_spans : Int32) (n_wetLines : Int32) (n_wet : Int32) (n_acts : Int32) (n_a_cupDays : Nat → Int32) (n_a_snapDays : Nat → Int32) (ul : Int32) (uw : Int32) (uc : Int32) (ub : Int32) (uo : Nat → Int32) (uk : Nat → Int32) (ll : Nat → Int32) (lv : Nat → Int64) (la : Nat → Int64) (p0 : Int32) (hsp : 0 ≤ Int32.toInt n_spans ∧ Int32.toInt n_spans ≤ 5) : Met l yX1_settle (wy yX1_settle cX1_settle 11 none) ({ frames := 3, cells := 0, slots := 0, locals := 120 }) (va_Pc [.ref (a 9), .ref (a 4), .ref (a 8), .int p0] (fun U => U.heap.size = sz ∧ va_P (dC, dI) vwCl [((a 9), .inr (1, [.int le, .long lo, .ref (a 40), .ref (a 41), .ref (a 42)])), ((a 4), .inr (2, [.int n_lines, .int n_days, .int n_law, .int n_odds, .int n_volts, .int n_spans, .int n_wetLines, .int n_wet, .int n_acts, .ref (a 19), .ref (a 20), .ref (a 21), .ref (a 22), .ref (a 23), .ref (a 24), .ref (a 25), .ref (a 26)])), ((a 25), .inl (cI, 5, .inl n_a_cupDays)), ((a 26), .inl (cI, 5, .inl n_a_snapDays)), ((a 8), .inr (4, [.int ul, .int uw, .int uc, .int ub, .ref (a 38), .ref (a 39)])), ((a 38), .inl (cI, 5, .inl uo)), ((a 39), .inl (cI, 5, .inl uk)), ((a 40), .inl (cI, 5, .inl ll)), ((a 41), .inl (cJ, 5, .inr (.inl lv))), ((a 42), .inl (cJ, 5, .inr (.inl la)))] U.heap ∧ va_K (dC, dI) vwCl (tyL cB cI cJ cZ cL) U ∧ va_D (fun _ => True) [((a 9), .inr (1, [.int le, .long lo, .ref (a 40), .ref (a 41), .ref (a 42)])), ((a 4), .inr (2, [.int n_lines, .int n_days, .int n_law, .int n_odds, .int n_volts, .int n_spans, .int n_wetLines, .int n_wet, .int n_acts, .ref (a 19), .ref (a 20), .ref (a 21), .ref (a 22), .ref (a 23), .ref (a 24), .ref (a 25), .ref (a 26)])), ((a 25), .inl (cI, 5, .inl n_a_cupDays)), ((a 26), .inl (cI, 5, .inl n_a_snapDays)), ((a 8), .inr (4, [.int ul, .int uw, .int uc, .int ub, .ref (a 38), .ref (a 39)])), ((a 38), .inl (cI, 5, .inl uo)), ((a 39), .inl (cI, 5, .inl uk)), ((a 40), .inl (cI, 5, .inl ll)), ((a 41), .inl (cJ, 5, .inr (.inl lv))), ((a 42), .inl (cJ, 5, .inr (.inl la)))] ∧ NW U)) (va_Qv (fun u => 0 ≤ Int32.toInt u.1 ∧ Int32.toInt u.1 ≤ Int32.toInt n_spans) (fun (u : (Int32) × (Int64) × (Nat → Int32) × (Nat → Int64) × (Nat → Int64)) t => va_P (dC, dI) vwCl [((a 9), .inr (1, [.int u.1, .long u.2.1, .ref (a 40), .ref (a 41), .ref (a 42)])), ((a 4), .inr (2, [.int n_lines, .int n_days, .int n_law, .int n_odds, .int n_volts, .int n_spans, .int n_wetLines, .int n_wet, .int n_acts, .ref (a 19), .ref (a 20), .ref (a 21), .ref (a 22), .ref (a 23), .ref (a 24), .ref (a 25), .ref (a 26)])), ((a 25), .inl (cI, 5, .inl n_a_cupDays)), ((a 26), .inl (cI, 5, .inl n_a_snapDays)), ((a 8), .inr (4, [.int ul, .int uw, .int uc, .int ub, .ref (a 38), .ref (a 39)])), ((a 38), .inl (cI, 5, .inl uo)), ((a 39), .inl (cI, 5, .inl uk)), ((a 40), .inl (cI, 5, .inl u.2.2.1)), ((a 41), .inl (cJ, 5, .inr (.inl u.2.2.2.1))), ((a 42), .inl (cJ, 5, .inr (.inl u.2.2.2.2)))] t.heap ∧ va_D (va_A [((a 9), .inr (1, [.int le, .long lo, .ref (a 40), .ref (a 41), .ref (a 42)])), ((a 4), .inr (2, [.int n_lines, .int n_days, .int n_law, .int n_odds, .int n_volts, .int n_spans, .int n_wetLines, .int n_wet, .int n_acts, .ref (a 19), .ref (a 20), .ref (a 21), .ref (a 22), .ref (a 23), .ref (a 24), .ref (a 25), .ref (a 26)])), ((a 25), .inl (cI, 5, .inl n_a_cupDays)), ((a 26), .inl (cI, 5, .inl n_a_snapDays)), ((a 8), .inr (4, [.int ul, .int uw, .int uc, .int ub, .ref (a 38), .ref (a 39)])), ((a 38), .inl (cI, 5, .inl uo)), ((a 39), .inl (cI, 5, .inl uk)), ((a 40), .inl (cI, 5, .inl ll)), ((a 41), .inl (cJ, 5, .inr (.inl lv))), ((a 42), .inl (cJ, 5, .inr (.inl la)))] sz) [((a 9), .inr (1, [.int u.1, .long u.2.1, .ref (a 40), .ref (a 41), .ref (a 42)])), ((a 4), .inr (2, [.int n_lines, .int n_days, .int n_law, .int n_odds, .int n_volts, .int n_spans, .int n_wetLines, .int n_wet, .int n_acts, .ref (a 19), .ref (a 20), .ref (a 21), .ref (a 22), .ref (a 23), .ref (a 24), .ref (a 25), .ref (a 26)])), ((a 25), .inl (cI, 5, .inl n_a_cupDays)), ((a 26), .inl (cI, 5, .inl n_a_snapDays)), ((a 8), .inr (4, [.int ul, .int uw, .int uc, .int ub, .ref (a 38), .ref (a 39)])), ((a 38), .inl (cI, 5, .inl uo)), ((a 39), .inl (cI, 5, .inl uk)), ((a 40), .inl (cI, 5, .inl u.2.2.1)), ((a 41), .inl (cJ, 5, .inr (.inl u.2.2.2.1))), ((a 42), .inl (cJ, 5, .inr (.inl u.2.2.2.2)))]) (va_A [((a 9), .inr (1, [.int le, .long lo, .ref (a 40), .ref (a 41), .ref (a 42)])), ((a 4), .inr (2, [.int n_lines, .int n_days, .int n_law, .int n_odds, .int n_volts, .int n_spans, .int n_wetLines, .int n_wet, .int n_acts, .ref (a 19), .ref (a 20), .ref (a 21), .ref (a 22), .ref (a 23), .ref (a 24), .ref (a 25), .ref (a 26)])), ((a 25), .inl (cI, 5, .inl n_a_cupDays)), ((a 26), .inl (cI, 5, .inl n_a_snapDays)), ((a 8), .inr (4, [.int ul, .int uw, .int uc, .int ub, .ref (a 38), .ref (a 39)])), ((a 38), .inl (cI, 5, .inl uo)), ((a 39), .inl (cI, 5, .inl uk)), ((a 40), .inl (cI, 5, .inl ll)), ((a 41), .inl (cJ, 5, .inr (.inl lv))), ((a 42), .inl (cJ, 5, .inr (.inl la)))] sz)) 0 0 (va_A [((a 9), .inr (1, [.int le, .long lo, .ref (a 40), .ref (a 41), .ref (a 42)])), ((a 4), .inr (2, [.int n_lines, .int n_days, .int n_law, .int n_odds, .int n_volts, .int n_spans, .int n_wetLines, .int n_wet, .int n_acts, .ref (a 19), .ref (a 20), .ref (a 21), .ref (a 22), .ref (a 23), .ref (a 24), .ref (a 25), .ref (a 26)])), ((a 25), .inl (cI, 5, .inl n_a_cupDays)), ((a 26), .inl (cI, 5, .inl n_a_snapDays)), ((a 8), .inr (4, [.int ul, .int uw, .int uc, .int ub, .ref (a 38), .ref (a 39)])), ((a 38), .inl (cI, 5, .inl uo)), ((a 39), .inl (cI, 5, .inl uk)), ((a 40), .inl (cI, 5, .inl ll)), ((a 41), .inl (cJ, 5, .inr (.inl lv))), ((a 42), .inl (cJ, 5, .inr (.inl la)))] sz) := by
  refine Met.ofW (cc := cX1_settle) (maxL := 11) (ret := none) (by decide) rfl ?_
  intro p e s m args below meth c s₁ B hml hv
  obtain ⟨rfl, hsz, hP, hK, hD0, hN⟩ := hv
  have hx := B.exec
  have hb := B.bytes
  have hr := B.returns
  have ht : ∀ w ∈ lw_ok, w.before _ s = true := fun w h => atoms_spec (ws := wy yX1_settle cX1_settle 11 none) B.pre w (List.mem_cons_of_mem _ h)
  have hown : s.vm.findClass RX1 = some m.cls := findClass_of_methodNamed B.named
  have hlocks := B.notSynchronized
  subst hsz
  have hD := hD0.self (sz := s.heap.size)
  generalize hAe : va_A [((a 9), .inr (1, [.int le, .long lo, .ref (a 40), .ref (a 41), .ref (a 42)])), ((a 4), .inr (2, [.int n_lines, .int n_days, .int n_law, .int n_odds, .int n_volts, .int n_spans, .int n_wetLines, .int n_wet, .int n_acts, .ref (a 19), .ref (a 20), .ref (a 21), .ref (a 22), .ref (a 23), .ref (a 24), .ref (a 25), .ref (a 26)])), ((a 25), .inl (cI, 5, .inl n_a_cupDays)), ((a 26), .inl (cI, 5, .inl n_a_snapDays)), ((a 8), .inr (4, [.int ul, .int uw, .int uc, .int ub, .ref (a 38), .ref (a 39)])), ((a 38), .inl (cI, 5, .inl uo)), ((a 39), .inl (cI, 5, .inl uk)), ((a 40), .inl (cI, 5, .inl ll)), ((a 41), .inl (cJ, 5, .inr (.inl lv))), ((a 42), .inl (cJ, 5, .inr (.inl la)))] s.heap.size = A at hD ⊢
  have hA : ∀ q : Nat, s.heap.size ≤ q → A q := fun q h => by rw [← hAe]; exact Or.inr h
  have hS : va_S A s.heap s.heap [] := va_S.rf
  clear hAe hD0
  have hl := lv_entry ([.ref (a 9), .ref (a 4), .ref (a 8), .int p0]) (n := 11) (Nat.le_of_ble_eq_true rfl)
  rw [lg_entry_eq]
  generalize (lg_sl ([.ref (a 9), .ref (a 4), .ref (a 8), .int p0]) ++ List.replicate (11 - (lg_sl ([.ref (a 9), .ref (a 4), .ref (a 8), .int p0])).length) Slot.unset).toArray = ls at hl ⊢
  have hl : lv_has ls 11 [(0, .ref (a 9)), (1, .ref (a 4)), (2, .ref (a 8)), (3, .int p0)] := hl
  have hP : va_P (dC, dI) vwCl [((a 9), .inr (1, [.int le, .long lo, .ref (a 40), .ref (a 41), .ref (a 42)])), ((a 4), .inr (2, [.int n_lines, .int n_days, .int n_law, .int n_odds, .int n_volts, .int n_spans, .int n_wetLines, .int n_wet, .int n_acts, .ref (a 19), .ref (a 20), .ref (a 21), .ref (a 22), .ref (a 23), .ref (a 24), .ref (a 25), .ref (a 26)])), ((a 25), .inl (cI, 5, .inl n_a_cupDays)), ((a 26), .inl (cI, 5, .inl n_a_snapDays)), ((a 8), .inr (4, [.int ul, .int uw, .int uc, .int ub, .ref (a 38), .ref (a 39)])), ((a 38), .inl (cI, 5, .inl uo)), ((a 39), .inl (cI, 5, .inl uk)), ((a 40), .inl (cI, 5, .inl ll)), ((a 41), .inl (cJ, 5, .inr (.inl lv))), ((a 42), .inl (cJ, 5, .inr (.inl la)))] s.heap := hP
  have hD : va_D A [((a 9), .inr (1, [.int le, .long lo, .ref (a 40), .ref (a 41), .ref (a 42)])), ((a 4), .inr (2, [.int n_lines, .int n_days, .int n_law, .int n_odds, .int n_volts, .int n_spans, .int n_wetLines, .int n_wet, .int n_acts, .ref (a 19), .ref (a 20), .ref (a 21), .ref (a 22), .ref (a 23), .ref (a 24), .ref (a 25), .ref (a 26)])), ((a 25), .inl (cI, 5, .inl n_a_cupDays)), ((a 26), .inl (cI, 5, .inl n_a_snapDays)), ((a 8), .inr (4, [.int ul, .int uw, .int uc, .int ub, .ref (a 38), .ref (a 39)])), ((a 38), .inl (cI, 5, .inl uo)), ((a 39), .inl (cI, 5, .inl uk)), ((a 40), .inl (cI, 5, .inl ll)), ((a 41), .inl (cJ, 5, .inr (.inl lv))), ((a 42), .inl (cJ, 5, .inr (.inl la)))] := hD
  have rg_p0 := rgI p0
  refine lv_aload_n hx hb dX1_settle_0 rfl (lv_at hl 0 rfl) ?_
  refine lv_aload_n hx hb dX1_settle_1 rfl (lv_at hl 2 rfl) ?_
  refine lv_aload_n hx hb dX1_settle_2 rfl (lv_at hl 1 rfl) ?_
  refine lv_iload_n hx hb dX1_settle_3 rfl (lv_at hl 3 rfl) ?_
  have hPc := hP.sub (ws' := [((a 8), .inr (4, [.int ul, .int uw, .int uc, .int ub, .ref (a 38), .ref (a 39)])), ((a 4), .inr (2, [.int n_lines, .int n_days, .int n_law, .int n_odds, .int n_volts, .int n_spans, .int n_wetLines, .int n_wet, .int n_acts, .ref (a 19), .ref (a 20), .ref (a 21), .ref (a 22), .ref (a 23), .ref (a 24), .ref (a 25), .ref (a 26)])), ((a 26), .inl (cI, 5, .inl n_a_snapDays))]) [4, 1, 3] rfl
  refine vp_callSi (W.runV (As := [.ref (a 4), .int p0]) (rest := [.ref (a 9)]) ⟨hx, hb, hml, hown, ht⟩ (s_X4_leadingOn l dC dI cB cI cJ cZ cL a ul uw uc ub n_lines n_days n_law n_odds n_volts n_spans n_wetLines n_wet n_acts n_a_snapDays p0 (by first | assumption | omega)) (cwV 2 ht (gV w_703 w_680 w_681 w_111 w_682) rfl rfl rfl (by decide +kernel) ⟨Nat.le_of_ble_eq_true rfl, Nat.le_of_ble_eq_true rfl⟩) (pVSn hN hK hPc (ci := 4) (q0 := 0) rfl rfl) rfl rfl hl.1 rfl (lv_room (Nat.le_of_ble_eq_true rfl)) dX1_settle_4 ⟨Nat.le_of_ble_eq_true rfl, Nat.le_of_ble_eq_true rfl⟩) (fun r_1 hw => ?_)
  clear hPc
  (try dsimp only at hw)
  have hw_2 := hw
  clear hw
  refine va_put (D := (dC, dI)) (ci := 1) (v := .int r_1) (ty := .int) (C := RX1) (T := TX1) (N := 5) hx hb ht iX1 tyX1 tyX1_ok nmX1 hown hK hP hD hS 0 rfl rfl 0 (by decide) (ht _ w_340) (fun _ h9 => h9) rfl (by decide +kernel) rfl rfl (Nat.le_of_ble_eq_true rfl) dX1_settle_7 (fun H locs hP hD hS => ?_)
  have hP : va_P (dC, dI) vwCl [((a 9), .inr (1, [.int r_1, .long lo, .ref (a 40), .ref (a 41), .ref (a 42)])), ((a 4), .inr (2, [.int n_lines, .int n_days, .int n_law, .int n_odds, .int n_volts, .int n_spans, .int n_wetLines, .int n_wet, .int n_acts, .ref (a 19), .ref (a 20), .ref (a 21), .ref (a 22), .ref (a 23), .ref (a 24), .ref (a 25), .ref (a 26)])), ((a 25), .inl (cI, 5, .inl n_a_cupDays)), ((a 26), .inl (cI, 5, .inl n_a_snapDays)), ((a 8), .inr (4, [.int ul, .int uw, .int uc, .int ub, .ref (a 38), .ref (a 39)])), ((a 38), .inl (cI, 5, .inl uo)), ((a 39), .inl (cI, 5, .inl uk)), ((a 40), .inl (cI, 5, .inl ll)), ((a 41), .inl (cJ, 5, .inr (.inl lv))), ((a 42), .inl (cJ, 5, .inr (.inl la)))] H := hP
  have hD : va_D A [((a 9), .inr (1, [.int r_1, .long lo, .ref (a 40), .ref (a 41), .ref (a 42)])), ((a 4), .inr (2, [.int n_lines, .int n_days, .int n_law, .int n_odds, .int n_volts, .int n_spans, .int n_wetLines, .int n_wet, .int n_acts, .ref (a 19), .ref (a 20), .ref (a 21), .ref (a 22), .ref (a 23), .ref (a 24), .ref (a 25), .ref (a 26)])), ((a 25), .inl (cI, 5, .inl n_a_cupDays)), ((a 26), .inl (cI, 5, .inl n_a_snapDays)), ((a 8), .inr (4, [.int ul, .int uw, .int uc, .int ub, .ref (a 38), .ref (a 39)])), ((a 38), .inl (cI, 5, .inl uo)), ((a 39), .inl (cI, 5, .inl uk)), ((a 40), .inl (cI, 5, .inl ll)), ((a 41), .inl (cJ, 5, .inr (.inl lv))), ((a 42), .inl (cJ, 5, .inr (.inl la)))] := hD
  refine lv_lconst (v := 1) hx hb dX1_settle_10 (by decide) ?_
  refine lv_lstore (lv' := [(4, .long 1), (0, .ref (a 9)), (1, .ref (a 4)), (2, .ref (a 8)), (3, .int p0)]) hx hb dX1_settle_11 hl (by decide) rfl (fun ls hl => ?_)
  refine lv_iconst (v := 0) hx hb dX1_settle_13 (by decide) ?_
  refine lv_istore (lv' := [(6, .int 0), (4, .long 1), (0, .ref (a 9)), (1, .ref (a 4)), (2, .ref (a 8)), (3, .int p0)]) hx hb dX1_settle_14 hl (by decide) rfl (fun ls hl => ?_)
  have lp_172 : ∀ (d : Nat) (v_84 : Int64) (v_85 : Int32) (wv_86 : Nat → Int32) (wv_87 : Nat → Int64) (wv_88 : Nat → Int64) (H : Heap) (locs : List Loc) (ls : Array Slot), ((0 ≤ Int32.toInt v_85)) → (2147483647 - Int32.toInt v_85).toNat < d → va_P (dC, dI) vwCl [((a 9), .inr (1, [.int r_1, .long lo, .ref (a 40), .ref (a 41), .ref (a 42)])), ((a 4), .inr (2, [.int n_lines, .int n_days, .int n_law, .int n_odds, .int n_volts, .int n_spans, .int n_wetLines, .int n_wet, .int n_acts, .ref (a 19), .ref (a 20), .ref (a 21), .ref (a 22), .ref (a 23), .ref (a 24), .ref (a 25), .ref (a 26)])), ((a 25), .inl (cI, 5, .inl n_a_cupDays)), ((a 26), .inl (cI, 5, .inl n_a_snapDays)), ((a 8), .inr (4, [.int ul, .int uw, .int uc, .int ub, .ref (a 38), .ref (a 39)])), ((a 38), .inl (cI, 5, .inl uo)), ((a 39), .inl (cI, 5, .inl uk)), ((a 40), .inl (cI, 5, .inl wv_86)), ((a 41), .inl (cJ, 5, .inr (.inl wv_87))), ((a 42), .inl (cJ, 5, .inr (.inl wv_88)))] H → va_D A [((a 9), .inr (1, [.int r_1, .long lo, .ref (a 40), .ref (a 41), .ref (a 42)])), ((a 4), .inr (2, [.int n_lines, .int n_days, .int n_law, .int n_odds, .int n_volts, .int n_spans, .int n_wetLines, .int n_wet, .int n_acts, .ref (a 19), .ref (a 20), .ref (a 21), .ref (a 22), .ref (a 23), .ref (a 24), .ref (a 25), .ref (a 26)])), ((a 25), .inl (cI, 5, .inl n_a_cupDays)), ((a 26), .inl (cI, 5, .inl n_a_snapDays)), ((a 8), .inr (4, [.int ul, .int uw, .int uc, .int ub, .ref (a 38), .ref (a 39)])), ((a 38), .inl (cI, 5, .inl uo)), ((a 39), .inl (cI, 5, .inl uk)), ((a 40), .inl (cI, 5, .inl wv_86)), ((a 41), .inl (cJ, 5, .inr (.inl wv_87))), ((a 42), .inl (cJ, 5, .inr (.inl wv_88)))] → va_S A s.heap H locs → lv_has ls 11 [(6, .int v_85), (4, .long v_84), (0, .ref (a 9)), (1, .ref (a 4)), (2, .ref (a 8)), (3, .int p0)] → W p l e (headSpec (wy yX1_settle cX1_settle 11 none) ({ frames := 3, cells := 0, slots := 0, locals := 120 })).room s m ([.ref (a 9), .ref (a 4), .ref (a 8), .int p0] : List Value).toArray below meth c H locs 0 0 (MQ below (va_Qv (fun u => 0 ≤ Int32.toInt u.1 ∧ Int32.toInt u.1 ≤ Int32.toInt n_spans) (fun (u : (Int32) × (Int64) × (Nat → Int32) × (Nat → Int64) × (Nat → Int64)) t => va_P (dC, dI) vwCl [((a 9), .inr (1, [.int u.1, .long u.2.1, .ref (a 40), .ref (a 41), .ref (a 42)])), ((a 4), .inr (2, [.int n_lines, .int n_days, .int n_law, .int n_odds, .int n_volts, .int n_spans, .int n_wetLines, .int n_wet, .int n_acts, .ref (a 19), .ref (a 20), .ref (a 21), .ref (a 22), .ref (a 23), .ref (a 24), .ref (a 25), .ref (a 26)])), ((a 25), .inl (cI, 5, .inl n_a_cupDays)), ((a 26), .inl (cI, 5, .inl n_a_snapDays)), ((a 8), .inr (4, [.int ul, .int uw, .int uc, .int ub, .ref (a 38), .ref (a 39)])), ((a 38), .inl (cI, 5, .inl uo)), ((a 39), .inl (cI, 5, .inl uk)), ((a 40), .inl (cI, 5, .inl u.2.2.1)), ((a 41), .inl (cJ, 5, .inr (.inl u.2.2.2.1))), ((a 42), .inl (cJ, 5, .inr (.inl u.2.2.2.2)))] t.heap ∧ va_D A [((a 9), .inr (1, [.int u.1, .long u.2.1, .ref (a 40), .ref (a 41), .ref (a 42)])), ((a 4), .inr (2, [.int n_lines, .int n_days, .int n_law, .int n_odds, .int n_volts, .int n_spans, .int n_wetLines, .int n_wet, .int n_acts, .ref (a 19), .ref (a 20), .ref (a 21), .ref (a 22), .ref (a 23), .ref (a 24), .ref (a 25), .ref (a 26)])), ((a 25), .inl (cI, 5, .inl n_a_cupDays)), ((a 26), .inl (cI, 5, .inl n_a_snapDays)), ((a 8), .inr (4, [.int ul, .int uw, .int uc, .int ub, .ref (a 38), .ref (a 39)])), ((a 38), .inl (cI, 5, .inl uo)), ((a 39), .inl (cI, 5, .inl uk)), ((a 40), .inl (cI, 5, .inl u.2.2.1)), ((a 41), .inl (cJ, 5, .inr (.inl u.2.2.2.1))), ((a 42), .inl (cJ, 5, .inr (.inl u.2.2.2.2)))]) A) ([.ref (a 9), .ref (a 4), .ref (a 8), .int p0] : List Value).toArray s 0 0 A) (F0 m 16 ls []) := by
    intro d
    induction d with
    | zero => intro v_84 v_85 wv_86 wv_87 wv_88 H locs ls hI hM; exact absurd hM (Nat.not_lt_zero _)
    | succ d ih_173 =>
      intro v_84 v_85 wv_86 wv_87 wv_88 H locs ls hI hM hP hD hS hl
      refine lv_iload hx hb dX1_settle_16 (lv_at hl 0 rfl) ?_
      refine lv_aload_n hx hb dX1_settle_18 rfl (lv_at hl 3 rfl) ?_
      refine va_get (D := (dC, dI)) (ci := 2) (v := .int n_spans) (C := RX2) (T := TX2) (N := 17) hx hb ht iX2 hown hK hP 1 rfl rfl 5 (by decide) (ht _ w_218) (fun _ h9 => h9) rfl dX1_settle_19 ?_
      refine lv_icmp_ge (tgt := 93) hx hb dX1_settle_22 (by decide) (fun c_174 => ?_) (fun c_174 => ?_)
      · (try simp only [i_lt, i_le, i_eq] at c_174)
        refine lv_lload hx hb dX1_settle_93 (lv_at hl 1 rfl) ?_
        refine lv_lstore (lv' := [(6, .long v_84), (4, .long v_84), (0, .ref (a 9)), (1, .ref (a 4)), (2, .ref (a 8)), (3, .int p0)]) hx hb dX1_settle_95 hl (by decide) rfl (fun ls hl => ?_)
        refine lv_lconst (v := 0) hx hb dX1_settle_97 (by decide) ?_
        refine lv_lstore (lv' := [(8, .long 0), (6, .long v_84), (4, .long v_84), (0, .ref (a 9)), (1, .ref (a 4)), (2, .ref (a 8)), (3, .int p0)]) hx hb dX1_settle_98 hl (by decide) rfl (fun ls hl => ?_)
        refine lv_aload_n hx hb dX1_settle_100 rfl (lv_at hl 3 rfl) ?_
        refine va_get (D := (dC, dI)) (ci := 1) (v := .int r_1) (C := RX1) (T := TX1) (N := 5) hx hb ht iX1 hown hK hP 0 rfl rfl 0 (by decide) (ht _ w_340) (fun _ h9 => h9) rfl dX1_settle_101 ?_
        refine lv_iconst (v := 1) hx hb dX1_settle_104 (by decide) ?_
        refine lv_isub hx hb dX1_settle_105 ?_
        refine lv_topi (fun y_175 ey_175 => ?_)
        have ty_175 := isubF ey_175
        simp only [T1] at ty_175
        clear ey_175
        refine lv_istore (lv' := [(10, .int y_175), (8, .long 0), (6, .long v_84), (4, .long v_84), (0, .ref (a 9)), (1, .ref (a 4)), (2, .ref (a 8)), (3, .int p0)]) hx hb dX1_settle_106 hl (by decide) rfl (fun ls hl => ?_)
        have lp_223 : ∀ (d : Nat) (v_197 : Int64) (v_198 : Int64) (v_199 : Int32) (wv_200 : Nat → Int64) (wv_201 : Nat → Int64) (H : Heap) (locs : List Loc) (ls : Array Slot), ((-1 ≤ Int32.toInt v_199 ∧ Int32.toInt v_199 ≤ 4)) → (Int32.toInt v_199 + 1).toNat < d → va_P (dC, dI) vwCl [((a 9), .inr (1, [.int r_1, .long lo, .ref (a 40), .ref (a 41), .ref (a 42)])), ((a 4), .inr (2, [.int n_lines, .int n_days, .int n_law, .int n_odds, .int n_volts, .int n_spans, .int n_wetLines, .int n_wet, .int n_acts, .ref (a 19), .ref (a 20), .ref (a 21), .ref (a 22), .ref (a 23), .ref (a 24), .ref (a 25), .ref (a 26)])), ((a 25), .inl (cI, 5, .inl n_a_cupDays)), ((a 26), .inl (cI, 5, .inl n_a_snapDays)), ((a 8), .inr (4, [.int ul, .int uw, .int uc, .int ub, .ref (a 38), .ref (a 39)])), ((a 38), .inl (cI, 5, .inl uo)), ((a 39), .inl (cI, 5, .inl uk)), ((a 40), .inl (cI, 5, .inl wv_86)), ((a 41), .inl (cJ, 5, .inr (.inl wv_200))), ((a 42), .inl (cJ, 5, .inr (.inl wv_201)))] H → va_D A [((a 9), .inr (1, [.int r_1, .long lo, .ref (a 40), .ref (a 41), .ref (a 42)])), ((a 4), .inr (2, [.int n_lines, .int n_days, .int n_law, .int n_odds, .int n_volts, .int n_spans, .int n_wetLines, .int n_wet, .int n_acts, .ref (a 19), .ref (a 20), .ref (a 21), .ref (a 22), .ref (a 23), .ref (a 24), .ref (a 25), .ref (a 26)])), ((a 25), .inl (cI, 5, .inl n_a_cupDays)), ((a 26), .inl (cI, 5, .inl n_a_snapDays)), ((a 8), .inr (4, [.int ul, .int uw, .int uc, .int ub, .ref (a 38), .ref (a 39)])), ((a 38), .inl (cI, 5, .inl uo)), ((a 39), .inl (cI, 5, .inl uk)), ((a 40), .inl (cI, 5, .inl wv_86)), ((a 41), .inl (cJ, 5, .inr (.inl wv_200))), ((a 42), .inl (cJ, 5, .inr (.inl wv_201)))] → va_S A s.heap H locs → lv_has ls 11 [(10, .int v_199), (8, .long v_198), (6, .long v_197), (4, .long v_84), (0, .ref (a 9)), (1, .ref (a 4)), (2, .ref (a 8)), (3, .int p0)] → W p l e (headSpec (wy yX1_settle cX1_settle 11 none) ({ frames := 3, cells := 0, slots := 0, locals := 120 })).room s m ([.ref (a 9), .ref (a 4), .ref (a 8), .int p0] : List Value).toArray below meth c H locs 0 0 (MQ below (va_Qv (fun u => 0 ≤ Int32.toInt u.1 ∧ Int32.toInt u.1 ≤ Int32.toInt n_spans) (fun (u : (Int32) × (Int64) × (Nat → Int32) × (Nat → Int64) × (Nat → Int64)) t => va_P (dC, dI) vwCl [((a 9), .inr (1, [.int u.1, .long u.2.1, .ref (a 40), .ref (a 41), .ref (a 42)])), ((a 4), .inr (2, [.int n_lines, .int n_days, .int n_law, .int n_odds, .int n_volts, .int n_spans, .int n_wetLines, .int n_wet, .int n_acts, .ref (a 19), .ref (a 20), .ref (a 21), .ref (a 22), .ref (a 23), .ref (a 24), .ref (a 25), .ref (a 26)])), ((a 25), .inl (cI, 5, .inl n_a_cupDays)), ((a 26), .inl (cI, 5, .inl n_a_snapDays)), ((a 8), .inr (4, [.int ul, .int uw, .int uc, .int ub, .ref (a 38), .ref (a 39)])), ((a 38), .inl (cI, 5, .inl uo)), ((a 39), .inl (cI, 5, .inl uk)), ((a 40), .inl (cI, 5, .inl u.2.2.1)), ((a 41), .inl (cJ, 5, .inr (.inl u.2.2.2.1))), ((a 42), .inl (cJ, 5, .inr (.inl u.2.2.2.2)))] t.heap ∧ va_D A [((a 9), .inr (1, [.int u.1, .long u.2.1, .ref (a 40), .ref (a 41), .ref (a 42)])), ((a 4), .inr (2, [.int n_lines, .int n_days, .int n_law, .int n_odds, .int n_volts, .int n_spans, .int n_wetLines, .int n_wet, .int n_acts, .ref (a 19), .ref (a 20), .ref (a 21), .ref (a 22), .ref (a 23), .ref (a 24), .ref (a 25), .ref (a 26)])), ((a 25), .inl (cI, 5, .inl n_a_cupDays)), ((a 26), .inl (cI, 5, .inl n_a_snapDays)), ((a 8), .inr (4, [.int ul, .int uw, .int uc, .int ub, .ref (a 38), .ref (a 39)])), ((a 38), .inl (cI, 5, .inl uo)), ((a 39), .inl (cI, 5, .inl uk)), ((a 40), .inl (cI, 5, .inl u.2.2.1)), ((a 41), .inl (cJ, 5, .inr (.inl u.2.2.2.1))), ((a 42), .inl (cJ, 5, .inr (.inl u.2.2.2.2)))]) A) ([.ref (a 9), .ref (a 4), .ref (a 8), .int p0] : List Value).toArray s 0 0 A) (F0 m 108 ls []) := by
          intro d
          induction d with
          | zero => intro v_197 v_198 v_199 wv_200 wv_201 H locs ls hI hM; exact absurd hM (Nat.not_lt_zero _)
          | succ d ih_224 =>
            intro v_197 v_198 v_199 wv_200 wv_201 H locs ls hI hM hP hD hS hl
            refine lv_iload hx hb dX1_settle_108 (lv_at hl 0 rfl) ?_
            refine lv_if_lt (tgt := 183) hx hb dX1_settle_110 (by decide) (fun c_225 => ?_) (fun c_225 => ?_)
            · (try simp only [i_lt, i_le, i_eq, T0] at c_225)
              refine lv_aload_n hx hb dX1_settle_183 rfl (lv_at hl 4 rfl) ?_
              refine lv_lload hx hb dX1_settle_184 (lv_at hl 2 rfl) ?_
              refine va_put (D := (dC, dI)) (ci := 1) (v := .long v_197) (ty := .long) (C := RX1) (T := TX1) (N := 5) hx hb ht iX1 tyX1 tyX1_ok nmX1 hown hK hP hD hS 0 rfl rfl 1 (by decide) (ht _ w_342) (fun _ h9 => h9) rfl (by decide +kernel) rfl rfl (Nat.le_of_ble_eq_true rfl) dX1_settle_186 (fun H locs hP hD hS => ?_)
              have hP : va_P (dC, dI) vwCl [((a 9), .inr (1, [.int r_1, .long v_197, .ref (a 40), .ref (a 41), .ref (a 42)])), ((a 4), .inr (2, [.int n_lines, .int n_days, .int n_law, .int n_odds, .int n_volts, .int n_spans, .int n_wetLines, .int n_wet, .int n_acts, .ref (a 19), .ref (a 20), .ref (a 21), .ref (a 22), .ref (a 23), .ref (a 24), .ref (a 25), .ref (a 26)])), ((a 25), .inl (cI, 5, .inl n_a_cupDays)), ((a 26), .inl (cI, 5, .inl n_a_snapDays)), ((a 8), .inr (4, [.int ul, .int uw, .int uc, .int ub, .ref (a 38), .ref (a 39)])), ((a 38), .inl (cI, 5, .inl uo)), ((a 39), .inl (cI, 5, .inl uk)), ((a 40), .inl (cI, 5, .inl wv_86)), ((a 41), .inl (cJ, 5, .inr (.inl wv_200))), ((a 42), .inl (cJ, 5, .inr (.inl wv_201)))] H := hP
              have hD : va_D A [((a 9), .inr (1, [.int r_1, .long v_197, .ref (a 40), .ref (a 41), .ref (a 42)])), ((a 4), .inr (2, [.int n_lines, .int n_days, .int n_law, .int n_odds, .int n_volts, .int n_spans, .int n_wetLines, .int n_wet, .int n_acts, .ref (a 19), .ref (a 20), .ref (a 21), .ref (a 22), .ref (a 23), .ref (a 24), .ref (a 25), .ref (a 26)])), ((a 25), .inl (cI, 5, .inl n_a_cupDays)), ((a 26), .inl (cI, 5, .inl n_a_snapDays)), ((a 8), .inr (4, [.int ul, .int uw, .int uc, .int ub, .ref (a 38), .ref (a 39)])), ((a 38), .inl (cI, 5, .inl uo)), ((a 39), .inl (cI, 5, .inl uk)), ((a 40), .inl (cI, 5, .inl wv_86)), ((a 41), .inl (cJ, 5, .inr (.inl wv_200))), ((a 42), .inl (cJ, 5, .inr (.inl wv_201)))] := hD
              have hP9 := hP.sub (ws' := [((a 9), .inr (1, [.int r_1, .long v_197, .ref (a 40), .ref (a 41), .ref (a 42)])), ((a 4), .inr (2, [.int n_lines, .int n_days, .int n_law, .int n_odds, .int n_volts, .int n_spans, .int n_wetLines, .int n_wet, .int n_acts, .ref (a 19), .ref (a 20), .ref (a 21), .ref (a 22), .ref (a 23), .ref (a 24), .ref (a 25), .ref (a 26)])), ((a 25), .inl (cI, 5, .inl n_a_cupDays)), ((a 26), .inl (cI, 5, .inl n_a_snapDays)), ((a 8), .inr (4, [.int ul, .int uw, .int uc, .int ub, .ref (a 38), .ref (a 39)])), ((a 38), .inl (cI, 5, .inl uo)), ((a 39), .inl (cI, 5, .inl uk)), ((a 40), .inl (cI, 5, .inl wv_86)), ((a 41), .inl (cJ, 5, .inr (.inl wv_200))), ((a 42), .inl (cJ, 5, .inr (.inl wv_201)))]) [0, 1, 2, 3, 4, 5, 6, 7, 8, 9] rfl
              have hD9 := hD.sub (ws' := [((a 9), .inr (1, [.int r_1, .long v_197, .ref (a 40), .ref (a 41), .ref (a 42)])), ((a 4), .inr (2, [.int n_lines, .int n_days, .int n_law, .int n_odds, .int n_volts, .int n_spans, .int n_wetLines, .int n_wet, .int n_acts, .ref (a 19), .ref (a 20), .ref (a 21), .ref (a 22), .ref (a 23), .ref (a 24), .ref (a 25), .ref (a 26)])), ((a 25), .inl (cI, 5, .inl n_a_cupDays)), ((a 26), .inl (cI, 5, .inl n_a_snapDays)), ((a 8), .inr (4, [.int ul, .int uw, .int uc, .int ub, .ref (a 38), .ref (a 39)])), ((a 38), .inl (cI, 5, .inl uo)), ((a 39), .inl (cI, 5, .inl uk)), ((a 40), .inl (cI, 5, .inl wv_86)), ((a 41), .inl (cJ, 5, .inr (.inl wv_200))), ((a 42), .inl (cJ, 5, .inr (.inl wv_201)))]) [0, 1, 2, 3, 4, 5, 6, 7, 8, 9] (by decide) rfl
              exact W.vret hx hb hr (fun t ht hW => ⟨⟨(r_1, v_197, wv_86, wv_200, wv_201), rfl, (by first | omega | assumption | exact ⟨by first | omega | assumption, by first | omega | assumption⟩), ⟨by rw [ht]; exact hP9, hD9⟩⟩, hS.F ht⟩) hS.2.2 dX1_settle_189
            · (try simp only [i_lt, i_le, i_eq, T0] at c_225)
              refine lv_aload_n hx hb dX1_settle_113 rfl (lv_at hl 4 rfl) ?_
              refine va_get (D := (dC, dI)) (ci := 1) (v := .ref (a 41)) (C := RX1) (T := TX1) (N := 5) hx hb ht iX1 hown hK hP 0 rfl rfl 3 (by decide) (ht _ w_346) (fun _ h9 => h9) rfl dX1_settle_114 ?_
              refine lv_iload hx hb dX1_settle_117 (lv_at hl 0 rfl) ?_
              refine lv_lload hx hb dX1_settle_119 (lv_at hl 2 rfl) ?_
              refine va_last hx hb hK hP hD hS 8 2 rfl rfl (vp_in_iff.mpr (by omega)) dX1_settle_121 (fun H locs hP hD hS => ?_)
              obtain ⟨f_226, ef_226⟩ : ∃ z : Nat → Int64, z = vp_updL wv_200 (Int32.toNatClampNeg v_199) v_197 := ⟨_, rfl⟩
              rw [← ef_226] at hP hD
              clear ef_226
              have hP : va_P (dC, dI) vwCl [((a 9), .inr (1, [.int r_1, .long lo, .ref (a 40), .ref (a 41), .ref (a 42)])), ((a 4), .inr (2, [.int n_lines, .int n_days, .int n_law, .int n_odds, .int n_volts, .int n_spans, .int n_wetLines, .int n_wet, .int n_acts, .ref (a 19), .ref (a 20), .ref (a 21), .ref (a 22), .ref (a 23), .ref (a 24), .ref (a 25), .ref (a 26)])), ((a 25), .inl (cI, 5, .inl n_a_cupDays)), ((a 26), .inl (cI, 5, .inl n_a_snapDays)), ((a 8), .inr (4, [.int ul, .int uw, .int uc, .int ub, .ref (a 38), .ref (a 39)])), ((a 38), .inl (cI, 5, .inl uo)), ((a 39), .inl (cI, 5, .inl uk)), ((a 40), .inl (cI, 5, .inl wv_86)), ((a 41), .inl (cJ, 5, .inr (.inl f_226))), ((a 42), .inl (cJ, 5, .inr (.inl wv_201)))] H := hP
              have hD : va_D A [((a 9), .inr (1, [.int r_1, .long lo, .ref (a 40), .ref (a 41), .ref (a 42)])), ((a 4), .inr (2, [.int n_lines, .int n_days, .int n_law, .int n_odds, .int n_volts, .int n_spans, .int n_wetLines, .int n_wet, .int n_acts, .ref (a 19), .ref (a 20), .ref (a 21), .ref (a 22), .ref (a 23), .ref (a 24), .ref (a 25), .ref (a 26)])), ((a 25), .inl (cI, 5, .inl n_a_cupDays)), ((a 26), .inl (cI, 5, .inl n_a_snapDays)), ((a 8), .inr (4, [.int ul, .int uw, .int uc, .int ub, .ref (a 38), .ref (a 39)])), ((a 38), .inl (cI, 5, .inl uo)), ((a 39), .inl (cI, 5, .inl uk)), ((a 40), .inl (cI, 5, .inl wv_86)), ((a 41), .inl (cJ, 5, .inr (.inl f_226))), ((a 42), .inl (cJ, 5, .inr (.inl wv_201)))] := hD
              refine lv_lload hx hb dX1_settle_122 (lv_at hl 1 rfl) ?_
              refine lv_aload_n hx hb dX1_settle_124 rfl (lv_at hl 4 rfl) ?_
              refine va_get (D := (dC, dI)) (ci := 1) (v := .ref (a 40)) (C := RX1) (T := TX1) (N := 5) hx hb ht iX1 hown hK hP 0 rfl rfl 2 (by decide) (ht _ w_344) (fun _ h9 => h9) rfl dX1_settle_125 ?_
              refine lv_iload hx hb dX1_settle_128 (lv_at hl 0 rfl) ?_
              refine va_iald hx hb hK hP 7 1 rfl rfl (vp_in_iff.mpr (by omega)) dX1_settle_130 ?_
              refine lv_topi (fun y_227 ey_227 => ?_)
              refine lv_if_le (tgt := 148) hx hb dX1_settle_131 (by decide) (fun c_228 => ?_) (fun c_228 => ?_)
              · (try simp only [i_lt, i_le, i_eq, T0] at c_228)
                refine lv_lconst (v := 0) hx hb dX1_settle_148 (by decide) ?_
                refine lv_ladd hx hb dX1_settle_149 ?_
                refine lv_topl (fun y_229 ey_229 => ?_)
                have ty_229 := laddF ey_229
                simp only [L0] at ty_229
                clear ey_229
                refine lv_lstore (lv' := [(8, .long y_229), (10, .int v_199), (6, .long v_197), (4, .long v_84), (0, .ref (a 9)), (1, .ref (a 4)), (2, .ref (a 8)), (3, .int p0)]) hx hb dX1_settle_150 hl (by decide) rfl (fun ls hl => ?_)
                refine lv_aload_n hx hb dX1_settle_152 rfl (lv_at hl 4 rfl) ?_
                refine va_get (D := (dC, dI)) (ci := 1) (v := .ref (a 42)) (C := RX1) (T := TX1) (N := 5) hx hb ht iX1 hown hK hP 0 rfl rfl 4 (by decide) (ht _ w_348) (fun _ h9 => h9) rfl dX1_settle_153 ?_
                refine lv_iload hx hb dX1_settle_156 (lv_at hl 1 rfl) ?_
                refine lv_lload hx hb dX1_settle_158 (lv_at hl 0 rfl) ?_
                refine va_last hx hb hK hP hD hS 9 2 rfl rfl (vp_in_iff.mpr (by omega)) dX1_settle_160 (fun H locs hP hD hS => ?_)
                obtain ⟨f_230, ef_230⟩ : ∃ z : Nat → Int64, z = vp_updL wv_201 (Int32.toNatClampNeg v_199) y_229 := ⟨_, rfl⟩
                rw [← ef_230] at hP hD
                clear ef_230
                have hP : va_P (dC, dI) vwCl [((a 9), .inr (1, [.int r_1, .long lo, .ref (a 40), .ref (a 41), .ref (a 42)])), ((a 4), .inr (2, [.int n_lines, .int n_days, .int n_law, .int n_odds, .int n_volts, .int n_spans, .int n_wetLines, .int n_wet, .int n_acts, .ref (a 19), .ref (a 20), .ref (a 21), .ref (a 22), .ref (a 23), .ref (a 24), .ref (a 25), .ref (a 26)])), ((a 25), .inl (cI, 5, .inl n_a_cupDays)), ((a 26), .inl (cI, 5, .inl n_a_snapDays)), ((a 8), .inr (4, [.int ul, .int uw, .int uc, .int ub, .ref (a 38), .ref (a 39)])), ((a 38), .inl (cI, 5, .inl uo)), ((a 39), .inl (cI, 5, .inl uk)), ((a 40), .inl (cI, 5, .inl wv_86)), ((a 41), .inl (cJ, 5, .inr (.inl f_226))), ((a 42), .inl (cJ, 5, .inr (.inl f_230)))] H := hP
                have hD : va_D A [((a 9), .inr (1, [.int r_1, .long lo, .ref (a 40), .ref (a 41), .ref (a 42)])), ((a 4), .inr (2, [.int n_lines, .int n_days, .int n_law, .int n_odds, .int n_volts, .int n_spans, .int n_wetLines, .int n_wet, .int n_acts, .ref (a 19), .ref (a 20), .ref (a 21), .ref (a 22), .ref (a 23), .ref (a 24), .ref (a 25), .ref (a 26)])), ((a 25), .inl (cI, 5, .inl n_a_cupDays)), ((a 26), .inl (cI, 5, .inl n_a_snapDays)), ((a 8), .inr (4, [.int ul, .int uw, .int uc, .int ub, .ref (a 38), .ref (a 39)])), ((a 38), .inl (cI, 5, .inl uo)), ((a 39), .inl (cI, 5, .inl uk)), ((a 40), .inl (cI, 5, .inl wv_86)), ((a 41), .inl (cJ, 5, .inr (.inl f_226))), ((a 42), .inl (cJ, 5, .inr (.inl f_230)))] := hD
                refine lv_lload hx hb dX1_settle_161 (lv_at hl 2 rfl) ?_
                refine lv_aload_n hx hb dX1_settle_163 rfl (lv_at hl 6 rfl) ?_
                refine va_get (D := (dC, dI)) (ci := 4) (v := .ref (a 38)) (C := RX4) (T := TX4) (N := 6) hx hb ht iX4 hown hK hP 4 rfl rfl 4 (by decide) (ht _ w_317) (fun _ h9 => h9) rfl dX1_settle_164 ?_
                refine lv_iload hx hb dX1_settle_167 (lv_at hl 1 rfl) ?_
                refine va_iald hx hb hK hP 5 1 rfl rfl (vp_in_iff.mpr (by omega)) dX1_settle_169 ?_
                refine lv_topi (fun y_231 ey_231 => ?_)
                refine lv_i2l hx hb dX1_settle_170 rfl ?_
                refine lv_topl (fun y_232 ey_232 => ?_)
                have ty_232 := i2lF ey_232
                clear ey_232
                refine lv_lload hx hb dX1_settle_171 (lv_at hl 0 rfl) ?_
                refine lv_lmul hx hb dX1_settle_173 ?_
                refine lv_topl (fun y_233 ey_233 => ?_)
                clear ey_233
                refine lv_ladd hx hb dX1_settle_174 ?_
                refine lv_topl (fun y_234 ey_234 => ?_)
                have ty_234 := laddF ey_234
                clear ey_234
                refine lv_lstore (lv' := [(6, .long y_234), (8, .long y_229), (10, .int v_199), (4, .long v_84), (0, .ref (a 9)), (1, .ref (a 4)), (2, .ref (a 8)), (3, .int p0)]) hx hb dX1_settle_175 hl (by decide) rfl (fun ls hl => ?_)
                obtain ⟨y_235, ey_235⟩ : ∃ z : Int32, z = v_199 + (-1) := ⟨_, rfl⟩
                have ty_235 := iaddF ey_235
                simp only [Tm1] at ty_235
                refine lv_iinc (v := y_235) (lv' := [(10, .int y_235), (6, .long y_234), (8, .long y_229), (4, .long v_84), (0, .ref (a 9)), (1, .ref (a 4)), (2, .ref (a 8)), (3, .int p0)]) hx hb dX1_settle_177 hl (k := 2) rfl (by rw [ey_235]; rfl) (by decide) rfl (fun ls hl => ?_)
                clear ey_235
                refine lv_goto (tgt := 108) hx hb dX1_settle_180 (by decide) ?_
                exact ih_224 y_234 y_229 y_235 f_226 f_230 _ _ _ (by first | omega | assumption) (by omega) (hP.sub (ws' := [((a 9), .inr (1, [.int r_1, .long lo, .ref (a 40), .ref (a 41), .ref (a 42)])), ((a 4), .inr (2, [.int n_lines, .int n_days, .int n_law, .int n_odds, .int n_volts, .int n_spans, .int n_wetLines, .int n_wet, .int n_acts, .ref (a 19), .ref (a 20), .ref (a 21), .ref (a 22), .ref (a 23), .ref (a 24), .ref (a 25), .ref (a 26)])), ((a 25), .inl (cI, 5, .inl n_a_cupDays)), ((a 26), .inl (cI, 5, .inl n_a_snapDays)), ((a 8), .inr (4, [.int ul, .int uw, .int uc, .int ub, .ref (a 38), .ref (a 39)])), ((a 38), .inl (cI, 5, .inl uo)), ((a 39), .inl (cI, 5, .inl uk)), ((a 40), .inl (cI, 5, .inl wv_86)), ((a 41), .inl (cJ, 5, .inr (.inl f_226))), ((a 42), .inl (cJ, 5, .inr (.inl f_230)))]) [0, 1, 2, 3, 4, 5, 6, 7, 8, 9] rfl) (hD.sub (ws' := [((a 9), .inr (1, [.int r_1, .long lo, .ref (a 40), .ref (a 41), .ref (a 42)])), ((a 4), .inr (2, [.int n_lines, .int n_days, .int n_law, .int n_odds, .int n_volts, .int n_spans, .int n_wetLines, .int n_wet, .int n_acts, .ref (a 19), .ref (a 20), .ref (a 21), .ref (a 22), .ref (a 23), .ref (a 24), .ref (a 25), .ref (a 26)])), ((a 25), .inl (cI, 5, .inl n_a_cupDays)), ((a 26), .inl (cI, 5, .inl n_a_snapDays)), ((a 8), .inr (4, [.int ul, .int uw, .int uc, .int ub, .ref (a 38), .ref (a 39)])), ((a 38), .inl (cI, 5, .inl uo)), ((a 39), .inl (cI, 5, .inl uk)), ((a 40), .inl (cI, 5, .inl wv_86)), ((a 41), .inl (cJ, 5, .inr (.inl f_226))), ((a 42), .inl (cJ, 5, .inr (.inl f_230)))]) [0, 1, 2, 3, 4, 5, 6, 7, 8, 9] (by decide) rfl) hS (lv_sub hl [0, 2, 1, 3, 4, 5, 6, 7] rfl)
              · (try simp only [i_lt, i_le, i_eq, T0] at c_228)
                refine lv_lload hx hb dX1_settle_134 (lv_at hl 2 rfl) ?_
                refine lv_aload_n hx hb dX1_settle_136 rfl (lv_at hl 4 rfl) ?_
                refine va_get (D := (dC, dI)) (ci := 1) (v := .ref (a 40)) (C := RX1) (T := TX1) (N := 5) hx hb ht iX1 hown hK hP 0 rfl rfl 2 (by decide) (ht _ w_344) (fun _ h9 => h9) rfl dX1_settle_137 ?_
                refine lv_iload hx hb dX1_settle_140 (lv_at hl 0 rfl) ?_
                refine va_iald hx hb hK hP 7 1 rfl rfl (vp_in_iff.mpr (by omega)) dX1_settle_142 ?_
                refine lv_topi (fun y_236 ey_236 => ?_)
                obtain rfl : y_227 = y_236 := ey_227.trans ey_236.symm
                clear ey_236
                refine lv_i2l hx hb dX1_settle_143 rfl ?_
                refine lv_topl (fun y_237 ey_237 => ?_)
                have ty_237 := i2lF ey_237
                clear ey_237
                refine lv_ldiv hx hb dX1_settle_144 (by rw [l_eq]; simp only [L0]; omega) ?_
                refine lv_topl (fun y_238 ey_238 => ?_)
                clear ey_238
                refine lv_goto (tgt := 149) hx hb dX1_settle_145 (by decide) ?_
                refine lv_ladd hx hb dX1_settle_149 ?_
                refine lv_topl (fun y_239 ey_239 => ?_)
                have ty_239 := laddF ey_239
                clear ey_239
                refine lv_lstore (lv' := [(8, .long y_239), (10, .int v_199), (6, .long v_197), (4, .long v_84), (0, .ref (a 9)), (1, .ref (a 4)), (2, .ref (a 8)), (3, .int p0)]) hx hb dX1_settle_150 hl (by decide) rfl (fun ls hl => ?_)
                refine lv_aload_n hx hb dX1_settle_152 rfl (lv_at hl 4 rfl) ?_
                refine va_get (D := (dC, dI)) (ci := 1) (v := .ref (a 42)) (C := RX1) (T := TX1) (N := 5) hx hb ht iX1 hown hK hP 0 rfl rfl 4 (by decide) (ht _ w_348) (fun _ h9 => h9) rfl dX1_settle_153 ?_
                refine lv_iload hx hb dX1_settle_156 (lv_at hl 1 rfl) ?_
                refine lv_lload hx hb dX1_settle_158 (lv_at hl 0 rfl) ?_
                refine va_last hx hb hK hP hD hS 9 2 rfl rfl (vp_in_iff.mpr (by omega)) dX1_settle_160 (fun H locs hP hD hS => ?_)
                obtain ⟨f_240, ef_240⟩ : ∃ z : Nat → Int64, z = vp_updL wv_201 (Int32.toNatClampNeg v_199) y_239 := ⟨_, rfl⟩
                rw [← ef_240] at hP hD
                clear ef_240
                have hP : va_P (dC, dI) vwCl [((a 9), .inr (1, [.int r_1, .long lo, .ref (a 40), .ref (a 41), .ref (a 42)])), ((a 4), .inr (2, [.int n_lines, .int n_days, .int n_law, .int n_odds, .int n_volts, .int n_spans, .int n_wetLines, .int n_wet, .int n_acts, .ref (a 19), .ref (a 20), .ref (a 21), .ref (a 22), .ref (a 23), .ref (a 24), .ref (a 25), .ref (a 26)])), ((a 25), .inl (cI, 5, .inl n_a_cupDays)), ((a 26), .inl (cI, 5, .inl n_a_snapDays)), ((a 8), .inr (4, [.int ul, .int uw, .int uc, .int ub, .ref (a 38), .ref (a 39)])), ((a 38), .inl (cI, 5, .inl uo)), ((a 39), .inl (cI, 5, .inl uk)), ((a 40), .inl (cI, 5, .inl wv_86)), ((a 41), .inl (cJ, 5, .inr (.inl f_226))), ((a 42), .inl (cJ, 5, .inr (.inl f_240)))] H := hP
                have hD : va_D A [((a 9), .inr (1, [.int r_1, .long lo, .ref (a 40), .ref (a 41), .ref (a 42)])), ((a 4), .inr (2, [.int n_lines, .int n_days, .int n_law, .int n_odds, .int n_volts, .int n_spans, .int n_wetLines, .int n_wet, .int n_acts, .ref (a 19), .ref (a 20), .ref (a 21), .ref (a 22), .ref (a 23), .ref (a 24), .ref (a 25), .ref (a 26)])), ((a 25), .inl (cI, 5, .inl n_a_cupDays)), ((a 26), .inl (cI, 5, .inl n_a_snapDays)), ((a 8), .inr (4, [.int ul, .int uw, .int uc, .int ub, .ref (a 38), .ref (a 39)])), ((a 38), .inl (cI, 5, .inl uo)), ((a 39), .inl (cI, 5, .inl uk)), ((a 40), .inl (cI, 5, .inl wv_86)), ((a 41), .inl (cJ, 5, .inr (.inl f_226))), ((a 42), .inl (cJ, 5, .inr (.inl f_240)))] := hD
                refine lv_lload hx hb dX1_settle_161 (lv_at hl 2 rfl) ?_
                refine lv_aload_n hx hb dX1_settle_163 rfl (lv_at hl 6 rfl) ?_
                refine va_get (D := (dC, dI)) (ci := 4) (v := .ref (a 38)) (C := RX4) (T := TX4) (N := 6) hx hb ht iX4 hown hK hP 4 rfl rfl 4 (by decide) (ht _ w_317) (fun _ h9 => h9) rfl dX1_settle_164 ?_
                refine lv_iload hx hb dX1_settle_167 (lv_at hl 1 rfl) ?_
                refine va_iald hx hb hK hP 5 1 rfl rfl (vp_in_iff.mpr (by omega)) dX1_settle_169 ?_
                refine lv_topi (fun y_241 ey_241 => ?_)
                refine lv_i2l hx hb dX1_settle_170 rfl ?_
                refine lv_topl (fun y_242 ey_242 => ?_)
                have ty_242 := i2lF ey_242
                clear ey_242
                refine lv_lload hx hb dX1_settle_171 (lv_at hl 0 rfl) ?_
                refine lv_lmul hx hb dX1_settle_173 ?_
                refine lv_topl (fun y_243 ey_243 => ?_)
                clear ey_243
                refine lv_ladd hx hb dX1_settle_174 ?_
                refine lv_topl (fun y_244 ey_244 => ?_)
                have ty_244 := laddF ey_244
                clear ey_244
                refine lv_lstore (lv' := [(6, .long y_244), (8, .long y_239), (10, .int v_199), (4, .long v_84), (0, .ref (a 9)), (1, .ref (a 4)), (2, .ref (a 8)), (3, .int p0)]) hx hb dX1_settle_175 hl (by decide) rfl (fun ls hl => ?_)
                obtain ⟨y_245, ey_245⟩ : ∃ z : Int32, z = v_199 + (-1) := ⟨_, rfl⟩
                have ty_245 := iaddF ey_245
                simp only [Tm1] at ty_245
                refine lv_iinc (v := y_245) (lv' := [(10, .int y_245), (6, .long y_244), (8, .long y_239), (4, .long v_84), (0, .ref (a 9)), (1, .ref (a 4)), (2, .ref (a 8)), (3, .int p0)]) hx hb dX1_settle_177 hl (k := 2) rfl (by rw [ey_245]; rfl) (by decide) rfl (fun ls hl => ?_)
                clear ey_245
                refine lv_goto (tgt := 108) hx hb dX1_settle_180 (by decide) ?_
                exact ih_224 y_244 y_239 y_245 f_226 f_240 _ _ _ (by first | omega | assumption) (by omega) (hP.sub (ws' := [((a 9), .inr (1, [.int r_1, .long lo, .ref (a 40), .ref (a 41), .ref (a 42)])), ((a 4), .inr (2, [.int n_lines, .int n_days, .int n_law, .int n_odds, .int n_volts, .int n_spans, .int n_wetLines, .int n_wet, .int n_acts, .ref (a 19), .ref (a 20), .ref (a 21), .ref (a 22), .ref (a 23), .ref (a 24), .ref (a 25), .ref (a 26)])), ((a 25), .inl (cI, 5, .inl n_a_cupDays)), ((a 26), .inl (cI, 5, .inl n_a_snapDays)), ((a 8), .inr (4, [.int ul, .int uw, .int uc, .int ub, .ref (a 38), .ref (a 39)])), ((a 38), .inl (cI, 5, .inl uo)), ((a 39), .inl (cI, 5, .inl uk)), ((a 40), .inl (cI, 5, .inl wv_86)), ((a 41), .inl (cJ, 5, .inr (.inl f_226))), ((a 42), .inl (cJ, 5, .inr (.inl f_240)))]) [0, 1, 2, 3, 4, 5, 6, 7, 8, 9] rfl) (hD.sub (ws' := [((a 9), .inr (1, [.int r_1, .long lo, .ref (a 40), .ref (a 41), .ref (a 42)])), ((a 4), .inr (2, [.int n_lines, .int n_days, .int n_law, .int n_odds, .int n_volts, .int n_spans, .int n_wetLines, .int n_wet, .int n_acts, .ref (a 19), .ref (a 20), .ref (a 21), .ref (a 22), .ref (a 23), .ref (a 24), .ref (a 25), .ref (a 26)])), ((a 25), .inl (cI, 5, .inl n_a_cupDays)), ((a 26), .inl (cI, 5, .inl n_a_snapDays)), ((a 8), .inr (4, [.int ul, .int uw, .int uc, .int ub, .ref (a 38), .ref (a 39)])), ((a 38), .inl (cI, 5, .inl uo)), ((a 39), .inl (cI, 5, .inl uk)), ((a 40), .inl (cI, 5, .inl wv_86)), ((a 41), .inl (cJ, 5, .inr (.inl f_226))), ((a 42), .inl (cJ, 5, .inr (.inl f_240)))]) [0, 1, 2, 3, 4, 5, 6, 7, 8, 9] (by decide) rfl) hS (lv_sub hl [0, 2, 1, 3, 4, 5, 6, 7] rfl)
        exact lp_223 _ v_84 0 y_175 wv_87 wv_88 _ _ _ (by first | omega | decide | assumption) (Nat.lt_succ_self _) hP hD hS (lv_sub hl [0, 1, 2, 3, 4, 5, 6, 7] rfl)
      · (try simp only [i_lt, i_le, i_eq] at c_174)
        refine lv_aload_n hx hb dX1_settle_25 rfl (lv_at hl 2 rfl) ?_
        refine va_get (D := (dC, dI)) (ci := 1) (v := .ref (a 40)) (C := RX1) (T := TX1) (N := 5) hx hb ht iX1 hown hK hP 0 rfl rfl 2 (by decide) (ht _ w_344) (fun _ h9 => h9) rfl dX1_settle_26 ?_
        refine lv_iload hx hb dX1_settle_29 (lv_at hl 0 rfl) ?_
        refine lv_iconst (v := 1) hx hb dX1_settle_31 (by decide) ?_
        refine lv_aload_n hx hb dX1_settle_32 rfl (lv_at hl 4 rfl) ?_
        refine lv_aload_n hx hb dX1_settle_33 rfl (lv_at hl 3 rfl) ?_
        refine lv_iload hx hb dX1_settle_34 (lv_at hl 0 rfl) ?_
        refine lv_iload_n hx hb dX1_settle_36 rfl (lv_at hl 5 rfl) ?_
        have hPc := hP.sub (ws' := [((a 8), .inr (4, [.int ul, .int uw, .int uc, .int ub, .ref (a 38), .ref (a 39)])), ((a 4), .inr (2, [.int n_lines, .int n_days, .int n_law, .int n_odds, .int n_volts, .int n_spans, .int n_wetLines, .int n_wet, .int n_acts, .ref (a 19), .ref (a 20), .ref (a 21), .ref (a 22), .ref (a 23), .ref (a 24), .ref (a 25), .ref (a 26)])), ((a 25), .inl (cI, 5, .inl n_a_cupDays)), ((a 39), .inl (cI, 5, .inl uk))]) [4, 1, 2, 6] rfl
        refine vp_callSi (W.runV (As := [.ref (a 4), .int v_85, .int p0]) (rest := [.int 1, .int v_85, .ref (a 40)]) ⟨hx, hb, hml, hown, ht⟩ (s_X4_leakOn l dC dI cB cI cJ cZ cL a ul uw uc ub n_lines n_days n_law n_odds n_volts n_spans n_wetLines n_wet n_acts n_a_cupDays uk v_85 p0 (by first | assumption | omega)) (cwV 3 ht (gV w_704 w_643 w_644 w_111 w_645) rfl rfl rfl (by decide +kernel) ⟨Nat.le_of_ble_eq_true rfl, Nat.le_of_ble_eq_true rfl⟩) (pVSn hN hK hPc (ci := 4) (q0 := 0) rfl rfl) rfl rfl hl.1 rfl (lv_room (Nat.le_of_ble_eq_true rfl)) dX1_settle_37 ⟨Nat.le_of_ble_eq_true rfl, Nat.le_of_ble_eq_true rfl⟩) (fun r_246 hw => ?_)
        clear hPc
        clear hw
        refine va_mmax hx hb (by rw [hml]; exact hl.1.symm) hown (ht _ w_705) (ht _ w_540) (ht _ w_119) (ht _ w_mathmax) (Nat.le_of_ble_eq_true rfl) (Nat.le_of_ble_eq_true rfl) (Nat.le_of_ble_eq_true rfl) (Nat.le_of_ble_eq_true rfl) dX1_settle_40 ?_
        refine lv_topi (fun y_247 ey_247 => ?_)
        have ty_247 := mmaxF ey_247
        simp only [T1] at ty_247
        clear ey_247
        refine va_iast hx hb hK hP hD hS 7 1 rfl rfl (vp_in_iff.mpr (by omega)) dX1_settle_43 (fun H locs hP hD hS => ?_)
        obtain ⟨f_248, ef_248⟩ : ∃ z : Nat → Int32, z = upd wv_86 (Int32.toNatClampNeg v_85) y_247 := ⟨_, rfl⟩
        rw [← ef_248] at hP hD
        clear ef_248
        have hP : va_P (dC, dI) vwCl [((a 9), .inr (1, [.int r_1, .long lo, .ref (a 40), .ref (a 41), .ref (a 42)])), ((a 4), .inr (2, [.int n_lines, .int n_days, .int n_law, .int n_odds, .int n_volts, .int n_spans, .int n_wetLines, .int n_wet, .int n_acts, .ref (a 19), .ref (a 20), .ref (a 21), .ref (a 22), .ref (a 23), .ref (a 24), .ref (a 25), .ref (a 26)])), ((a 25), .inl (cI, 5, .inl n_a_cupDays)), ((a 26), .inl (cI, 5, .inl n_a_snapDays)), ((a 8), .inr (4, [.int ul, .int uw, .int uc, .int ub, .ref (a 38), .ref (a 39)])), ((a 38), .inl (cI, 5, .inl uo)), ((a 39), .inl (cI, 5, .inl uk)), ((a 40), .inl (cI, 5, .inl f_248)), ((a 41), .inl (cJ, 5, .inr (.inl wv_87))), ((a 42), .inl (cJ, 5, .inr (.inl wv_88)))] H := hP
        have hD : va_D A [((a 9), .inr (1, [.int r_1, .long lo, .ref (a 40), .ref (a 41), .ref (a 42)])), ((a 4), .inr (2, [.int n_lines, .int n_days, .int n_law, .int n_odds, .int n_volts, .int n_spans, .int n_wetLines, .int n_wet, .int n_acts, .ref (a 19), .ref (a 20), .ref (a 21), .ref (a 22), .ref (a 23), .ref (a 24), .ref (a 25), .ref (a 26)])), ((a 25), .inl (cI, 5, .inl n_a_cupDays)), ((a 26), .inl (cI, 5, .inl n_a_snapDays)), ((a 8), .inr (4, [.int ul, .int uw, .int uc, .int ub, .ref (a 38), .ref (a 39)])), ((a 38), .inl (cI, 5, .inl uo)), ((a 39), .inl (cI, 5, .inl uk)), ((a 40), .inl (cI, 5, .inl f_248)), ((a 41), .inl (cJ, 5, .inr (.inl wv_87))), ((a 42), .inl (cJ, 5, .inr (.inl wv_88)))] := hD
        refine lv_aload_n hx hb dX1_settle_44 rfl (lv_at hl 2 rfl) ?_
        refine va_get (D := (dC, dI)) (ci := 1) (v := .ref (a 41)) (C := RX1) (T := TX1) (N := 5) hx hb ht iX1 hown hK hP 0 rfl rfl 3 (by decide) (ht _ w_346) (fun _ h9 => h9) rfl dX1_settle_45 ?_
        refine lv_iload hx hb dX1_settle_48 (lv_at hl 0 rfl) ?_
        refine lv_lconst (v := 0) hx hb dX1_settle_50 (by decide) ?_
        refine va_last hx hb hK hP hD hS 8 2 rfl rfl (vp_in_iff.mpr (by omega)) dX1_settle_51 (fun H locs hP hD hS => ?_)
        obtain ⟨f_249, ef_249⟩ : ∃ z : Nat → Int64, z = vp_updL wv_87 (Int32.toNatClampNeg v_85) 0 := ⟨_, rfl⟩
        rw [← ef_249] at hP hD
        clear ef_249
        have hP : va_P (dC, dI) vwCl [((a 9), .inr (1, [.int r_1, .long lo, .ref (a 40), .ref (a 41), .ref (a 42)])), ((a 4), .inr (2, [.int n_lines, .int n_days, .int n_law, .int n_odds, .int n_volts, .int n_spans, .int n_wetLines, .int n_wet, .int n_acts, .ref (a 19), .ref (a 20), .ref (a 21), .ref (a 22), .ref (a 23), .ref (a 24), .ref (a 25), .ref (a 26)])), ((a 25), .inl (cI, 5, .inl n_a_cupDays)), ((a 26), .inl (cI, 5, .inl n_a_snapDays)), ((a 8), .inr (4, [.int ul, .int uw, .int uc, .int ub, .ref (a 38), .ref (a 39)])), ((a 38), .inl (cI, 5, .inl uo)), ((a 39), .inl (cI, 5, .inl uk)), ((a 40), .inl (cI, 5, .inl f_248)), ((a 41), .inl (cJ, 5, .inr (.inl f_249))), ((a 42), .inl (cJ, 5, .inr (.inl wv_88)))] H := hP
        have hD : va_D A [((a 9), .inr (1, [.int r_1, .long lo, .ref (a 40), .ref (a 41), .ref (a 42)])), ((a 4), .inr (2, [.int n_lines, .int n_days, .int n_law, .int n_odds, .int n_volts, .int n_spans, .int n_wetLines, .int n_wet, .int n_acts, .ref (a 19), .ref (a 20), .ref (a 21), .ref (a 22), .ref (a 23), .ref (a 24), .ref (a 25), .ref (a 26)])), ((a 25), .inl (cI, 5, .inl n_a_cupDays)), ((a 26), .inl (cI, 5, .inl n_a_snapDays)), ((a 8), .inr (4, [.int ul, .int uw, .int uc, .int ub, .ref (a 38), .ref (a 39)])), ((a 38), .inl (cI, 5, .inl uo)), ((a 39), .inl (cI, 5, .inl uk)), ((a 40), .inl (cI, 5, .inl f_248)), ((a 41), .inl (cJ, 5, .inr (.inl f_249))), ((a 42), .inl (cJ, 5, .inr (.inl wv_88)))] := hD
        refine lv_aload_n hx hb dX1_settle_52 rfl (lv_at hl 2 rfl) ?_
        refine va_get (D := (dC, dI)) (ci := 1) (v := .ref (a 42)) (C := RX1) (T := TX1) (N := 5) hx hb ht iX1 hown hK hP 0 rfl rfl 4 (by decide) (ht _ w_348) (fun _ h9 => h9) rfl dX1_settle_53 ?_
        refine lv_iload hx hb dX1_settle_56 (lv_at hl 0 rfl) ?_
        refine lv_lconst (v := 0) hx hb dX1_settle_58 (by decide) ?_
        refine va_last hx hb hK hP hD hS 9 2 rfl rfl (vp_in_iff.mpr (by omega)) dX1_settle_59 (fun H locs hP hD hS => ?_)
        obtain ⟨f_250, ef_250⟩ : ∃ z : Nat → Int64, z = vp_updL wv_88 (Int32.toNatClampNeg v_85) 0 := ⟨_, rfl⟩
        rw [← ef_250] at hP hD
        clear ef_250
        have hP : va_P (dC, dI) vwCl [((a 9), .inr (1, [.int r_1, .long lo, .ref (a 40), .ref (a 41), .ref (a 42)])), ((a 4), .inr (2, [.int n_lines, .int n_days, .int n_law, .int n_odds, .int n_volts, .int n_spans, .int n_wetLines, .int n_wet, .int n_acts, .ref (a 19), .ref (a 20), .ref (a 21), .ref (a 22), .ref (a 23), .ref (a 24), .ref (a 25), .ref (a 26)])), ((a 25), .inl (cI, 5, .inl n_a_cupDays)), ((a 26), .inl (cI, 5, .inl n_a_snapDays)), ((a 8), .inr (4, [.int ul, .int uw, .int uc, .int ub, .ref (a 38), .ref (a 39)])), ((a 38), .inl (cI, 5, .inl uo)), ((a 39), .inl (cI, 5, .inl uk)), ((a 40), .inl (cI, 5, .inl f_248)), ((a 41), .inl (cJ, 5, .inr (.inl f_249))), ((a 42), .inl (cJ, 5, .inr (.inl f_250)))] H := hP
        have hD : va_D A [((a 9), .inr (1, [.int r_1, .long lo, .ref (a 40), .ref (a 41), .ref (a 42)])), ((a 4), .inr (2, [.int n_lines, .int n_days, .int n_law, .int n_odds, .int n_volts, .int n_spans, .int n_wetLines, .int n_wet, .int n_acts, .ref (a 19), .ref (a 20), .ref (a 21), .ref (a 22), .ref (a 23), .ref (a 24), .ref (a 25), .ref (a 26)])), ((a 25), .inl (cI, 5, .inl n_a_cupDays)), ((a 26), .inl (cI, 5, .inl n_a_snapDays)), ((a 8), .inr (4, [.int ul, .int uw, .int uc, .int ub, .ref (a 38), .ref (a 39)])), ((a 38), .inl (cI, 5, .inl uo)), ((a 39), .inl (cI, 5, .inl uk)), ((a 40), .inl (cI, 5, .inl f_248)), ((a 41), .inl (cJ, 5, .inr (.inl f_249))), ((a 42), .inl (cJ, 5, .inr (.inl f_250)))] := hD
        refine lv_iload hx hb dX1_settle_60 (lv_at hl 0 rfl) ?_
        refine lv_aload_n hx hb dX1_settle_62 rfl (lv_at hl 2 rfl) ?_
        refine va_get (D := (dC, dI)) (ci := 1) (v := .int r_1) (C := RX1) (T := TX1) (N := 5) hx hb ht iX1 hown hK hP 0 rfl rfl 0 (by decide) (ht _ w_340) (fun _ h9 => h9) rfl dX1_settle_63 ?_
        refine lv_icmp_ge (tgt := 83) hx hb dX1_settle_66 (by decide) (fun c_251 => ?_) (fun c_251 => ?_)
        · (try simp only [i_lt, i_le, i_eq] at c_251)
          refine lv_lload hx hb dX1_settle_83 (lv_at hl 1 rfl) ?_
          refine lv_lstore (lv' := [(4, .long v_84), (6, .int v_85), (0, .ref (a 9)), (1, .ref (a 4)), (2, .ref (a 8)), (3, .int p0)]) hx hb dX1_settle_85 hl (by decide) rfl (fun ls hl => ?_)
          obtain ⟨y_252, ey_252⟩ : ∃ z : Int32, z = v_85 + 1 := ⟨_, rfl⟩
          have ty_252 := iaddF ey_252
          simp only [T1] at ty_252
          refine lv_iinc (v := y_252) (lv' := [(6, .int y_252), (4, .long v_84), (0, .ref (a 9)), (1, .ref (a 4)), (2, .ref (a 8)), (3, .int p0)]) hx hb dX1_settle_87 hl (k := 1) rfl (by rw [ey_252]; rfl) (by decide) rfl (fun ls hl => ?_)
          clear ey_252
          refine lv_goto (tgt := 16) hx hb dX1_settle_90 (by decide) ?_
          exact ih_173 v_84 y_252 f_248 f_249 f_250 _ _ _ (by first | omega | assumption) (by omega) (hP.sub (ws' := [((a 9), .inr (1, [.int r_1, .long lo, .ref (a 40), .ref (a 41), .ref (a 42)])), ((a 4), .inr (2, [.int n_lines, .int n_days, .int n_law, .int n_odds, .int n_volts, .int n_spans, .int n_wetLines, .int n_wet, .int n_acts, .ref (a 19), .ref (a 20), .ref (a 21), .ref (a 22), .ref (a 23), .ref (a 24), .ref (a 25), .ref (a 26)])), ((a 25), .inl (cI, 5, .inl n_a_cupDays)), ((a 26), .inl (cI, 5, .inl n_a_snapDays)), ((a 8), .inr (4, [.int ul, .int uw, .int uc, .int ub, .ref (a 38), .ref (a 39)])), ((a 38), .inl (cI, 5, .inl uo)), ((a 39), .inl (cI, 5, .inl uk)), ((a 40), .inl (cI, 5, .inl f_248)), ((a 41), .inl (cJ, 5, .inr (.inl f_249))), ((a 42), .inl (cJ, 5, .inr (.inl f_250)))]) [0, 1, 2, 3, 4, 5, 6, 7, 8, 9] rfl) (hD.sub (ws' := [((a 9), .inr (1, [.int r_1, .long lo, .ref (a 40), .ref (a 41), .ref (a 42)])), ((a 4), .inr (2, [.int n_lines, .int n_days, .int n_law, .int n_odds, .int n_volts, .int n_spans, .int n_wetLines, .int n_wet, .int n_acts, .ref (a 19), .ref (a 20), .ref (a 21), .ref (a 22), .ref (a 23), .ref (a 24), .ref (a 25), .ref (a 26)])), ((a 25), .inl (cI, 5, .inl n_a_cupDays)), ((a 26), .inl (cI, 5, .inl n_a_snapDays)), ((a 8), .inr (4, [.int ul, .int uw, .int uc, .int ub, .ref (a 38), .ref (a 39)])), ((a 38), .inl (cI, 5, .inl uo)), ((a 39), .inl (cI, 5, .inl uk)), ((a 40), .inl (cI, 5, .inl f_248)), ((a 41), .inl (cJ, 5, .inr (.inl f_249))), ((a 42), .inl (cJ, 5, .inr (.inl f_250)))]) [0, 1, 2, 3, 4, 5, 6, 7, 8, 9] (by decide) rfl) hS (lv_sub hl [0, 1, 2, 3, 4, 5] rfl)
        · (try simp only [i_lt, i_le, i_eq] at c_251)
          refine lv_lload hx hb dX1_settle_69 (lv_at hl 1 rfl) ?_
          refine lv_aload_n hx hb dX1_settle_71 rfl (lv_at hl 2 rfl) ?_
          refine va_get (D := (dC, dI)) (ci := 1) (v := .ref (a 40)) (C := RX1) (T := TX1) (N := 5) hx hb ht iX1 hown hK hP 0 rfl rfl 2 (by decide) (ht _ w_344) (fun _ h9 => h9) rfl dX1_settle_72 ?_
          refine lv_iload hx hb dX1_settle_75 (lv_at hl 0 rfl) ?_
          refine va_iald hx hb hK hP 7 1 rfl rfl (vp_in_iff.mpr (by omega)) dX1_settle_77 ?_
          refine lv_topi (fun y_253 ey_253 => ?_)
          refine lv_i2l hx hb dX1_settle_78 rfl ?_
          refine lv_topl (fun y_254 ey_254 => ?_)
          have ty_254 := i2lF ey_254
          clear ey_254
          refine lv_lmul hx hb dX1_settle_79 ?_
          refine lv_topl (fun y_255 ey_255 => ?_)
          clear ey_255
          refine lv_goto (tgt := 85) hx hb dX1_settle_80 (by decide) ?_
          refine lv_lstore (lv' := [(4, .long y_255), (6, .int v_85), (0, .ref (a 9)), (1, .ref (a 4)), (2, .ref (a 8)), (3, .int p0)]) hx hb dX1_settle_85 hl (by decide) rfl (fun ls hl => ?_)
          obtain ⟨y_256, ey_256⟩ : ∃ z : Int32, z = v_85 + 1 := ⟨_, rfl⟩
          have ty_256 := iaddF ey_256
          simp only [T1] at ty_256
          refine lv_iinc (v := y_256) (lv' := [(6, .int y_256), (4, .long y_255), (0, .ref (a 9)), (1, .ref (a 4)), (2, .ref (a 8)), (3, .int p0)]) hx hb dX1_settle_87 hl (k := 1) rfl (by rw [ey_256]; rfl) (by decide) rfl (fun ls hl => ?_)
          clear ey_256
          refine lv_goto (tgt := 16) hx hb dX1_settle_90 (by decide) ?_
          exact ih_173 y_255 y_256 f_248 f_249 f_250 _ _ _ (by first | omega | assumption) (by omega) (hP.sub (ws' := [((a 9), .inr (1, [.int r_1, .long lo, .ref (a 40), .ref (a 41), .ref (a 42)])), ((a 4), .inr (2, [.int n_lines, .int n_days, .int n_law, .int n_odds, .int n_volts, .int n_spans, .int n_wetLines, .int n_wet, .int n_acts, .ref (a 19), .ref (a 20), .ref (a 21), .ref (a 22), .ref (a 23), .ref (a 24), .ref (a 25), .ref (a 26)])), ((a 25), .inl (cI, 5, .inl n_a_cupDays)), ((a 26), .inl (cI, 5, .inl n_a_snapDays)), ((a 8), .inr (4, [.int ul, .int uw, .int uc, .int ub, .ref (a 38), .ref (a 39)])), ((a 38), .inl (cI, 5, .inl uo)), ((a 39), .inl (cI, 5, .inl uk)), ((a 40), .inl (cI, 5, .inl f_248)), ((a 41), .inl (cJ, 5, .inr (.inl f_249))), ((a 42), .inl (cJ, 5, .inr (.inl f_250)))]) [0, 1, 2, 3, 4, 5, 6, 7, 8, 9] rfl) (hD.sub (ws' := [((a 9), .inr (1, [.int r_1, .long lo, .ref (a 40), .ref (a 41), .ref (a 42)])), ((a 4), .inr (2, [.int n_lines, .int n_days, .int n_law, .int n_odds, .int n_volts, .int n_spans, .int n_wetLines, .int n_wet, .int n_acts, .ref (a 19), .ref (a 20), .ref (a 21), .ref (a 22), .ref (a 23), .ref (a 24), .ref (a 25), .ref (a 26)])), ((a 25), .inl (cI, 5, .inl n_a_cupDays)), ((a 26), .inl (cI, 5, .inl n_a_snapDays)), ((a 8), .inr (4, [.int ul, .int uw, .int uc, .int ub, .ref (a 38), .ref (a 39)])), ((a 38), .inl (cI, 5, .inl uo)), ((a 39), .inl (cI, 5, .inl uk)), ((a 40), .inl (cI, 5, .inl f_248)), ((a 41), .inl (cJ, 5, .inr (.inl f_249))), ((a 42), .inl (cJ, 5, .inr (.inl f_250)))]) [0, 1, 2, 3, 4, 5, 6, 7, 8, 9] (by decide) rfl) hS (lv_sub hl [0, 1, 2, 3, 4, 5] rfl)
  exact lp_172 _ 1 0 ll lv la _ _ _ (by first | omega | decide | assumption) (Nat.lt_succ_self _) hP hD hS (lv_sub hl [0, 1, 2, 3, 4, 5] rfl)
