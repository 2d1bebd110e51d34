set_option maxHeartbeats 4000000 in
set_option maxRecDepth 100000 in
theorem k_X9_spans (l : Launch) (dC : Nat → ClassId) (dI : Nat → Nat → Nat) (cB cI cJ cZ cL : ClassId) (g : Nat → Nat)  : Met l yX9_spans (wy yX9_spans cX9_spans 1 (some .int)) ({ frames := 0, cells := 0, slots := 0, locals := 0 }) (va_Pc [.ref (g 0)] (fun U => va_P (dC, dI) vwCl [((g 0), .inr (9, [.int 0, .ref (g 1), .ref (g 2), .ref (g 3), .ref (g 4), .ref (g 5), .int 0, .int 0, .int 0, .int 0, .int 0, .long 0, .int 0, .int 0, .int 0, .int (-1), .ref (g 6), .ref (g 7), .ref (g 8), .ref (g 9), .ref (g 10), .ref (g 11), .int 0, .int 0, .int 0, .int 0, .int 0, .ref (g 12), .ref (g 13), .int 0, .ref (g 14), .ref (g 15), .long 0, .int 0, .int 0, .int 0, .ref (g 16), .ref (g 17)])), ((g 7), .inl (cI, 35, .inl (fun _ => 0))), ((g 6), .inl (cI, 5, .inl (fun _ => 0)))] U.heap ∧ va_K (dC, dI) vwCl (tyL cB cI cJ cZ cL) U)) (vp_Si (fun r => r = 0)) 0 0 (fun _ => False) := by
  refine Met.ofW (cc := cX9_spans) (maxL := 1) (ret := (some .int)) (by decide) rfl ?_
  intro p e s m args below meth c s₁ B hml hv
  obtain ⟨rfl, hP, hK⟩ := hv
  have hx := B.exec
  have hb := B.bytes
  have hr := B.returns
  have ht : ∀ w ∈ lw_ok, w.before _ s = true := fun w h => atoms_spec (ws := wy yX9_spans cX9_spans 1 (some .int)) B.pre w (List.mem_cons_of_mem _ h)
  have hown : s.vm.findClass RX9 = some m.cls := findClass_of_methodNamed B.named
  have hlocks := B.notSynchronized
  have hl := lv_entry ([.ref (g 0)]) (n := 1) (Nat.le_of_ble_eq_true rfl)
  rw [lg_entry_eq]
  generalize (lg_sl ([.ref (g 0)]) ++ List.replicate (1 - (lg_sl ([.ref (g 0)])).length) Slot.unset).toArray = ls at hl ⊢
  have hl : lv_has ls 1 [(0, .ref (g 0))] := hl
  have hP : va_P (dC, dI) vwCl [((g 0), .inr (9, [.int 0, .ref (g 1), .ref (g 2), .ref (g 3), .ref (g 4), .ref (g 5), .int 0, .int 0, .int 0, .int 0, .int 0, .long 0, .int 0, .int 0, .int 0, .int (-1), .ref (g 6), .ref (g 7), .ref (g 8), .ref (g 9), .ref (g 10), .ref (g 11), .int 0, .int 0, .int 0, .int 0, .int 0, .ref (g 12), .ref (g 13), .int 0, .ref (g 14), .ref (g 15), .long 0, .int 0, .int 0, .int 0, .ref (g 16), .ref (g 17)])), ((g 7), .inl (cI, 35, .inl (fun _ => 0))), ((g 6), .inl (cI, 5, .inl (fun _ => 0)))] s.heap := hP
  refine lv_aload_n hx hb dX9_spans_0 rfl (lv_at hl 0 rfl) ?_
  refine va_get (D := (dC, dI)) (ci := 9) (v := .ref (g 7)) (C := RX9) (T := TX9) (N := 38) hx hb ht iX9 hown hK hP 0 rfl rfl 17 (by decide) (ht _ w_1279) (fun _ h9 => h9) rfl dX9_spans_1 ?_
  refine lv_iconst (v := 4) hx hb dX9_spans_4 (by decide) ?_
  refine va_iald hx hb hK hP 1 1 rfl rfl (by unfold vp_in; decide) dX9_spans_5 ?_
  refine W.eq (g2 := F0 m 6 ls [.int 0]) rfl ?_
  exact W.iret (v := 0) hx hb hr (fun t ht hW => ⟨0, rfl, rfl, ht⟩) (fun q h => absurd h List.not_mem_nil) dX9_spans_6
set_option maxHeartbeats 4000000 in
set_option maxRecDepth 100000 in
theorem k_X9_isWire (l : Launch) (dC : Nat → ClassId) (dI : Nat → Nat → Nat) (cB cI cJ cZ cL : ClassId) (g : Nat → Nat)  : Met l yX9_isWire (wy yX9_isWire cX9_isWire 1 (some .boolean)) ({ frames := 0, cells := 0, slots := 0, locals := 0 }) (va_Pc [.ref (g 0)] (fun U => va_P (dC, dI) vwCl [((g 0), .inr (9, [.int 0, .ref (g 1), .ref (g 2), .ref (g 3), .ref (g 4), .ref (g 5), .int 0, .int 0, .int 0, .int 0, .int 0, .long 0, .int 0, .int 0, .int 0, .int (-1), .ref (g 6), .ref (g 7), .ref (g 8), .ref (g 9), .ref (g 10), .ref (g 11), .int 0, .int 0, .int 0, .int 0, .int 0, .ref (g 12), .ref (g 13), .int 0, .ref (g 14), .ref (g 15), .long 0, .int 0, .int 0, .int 0, .ref (g 16), .ref (g 17)])), ((g 7), .inl (cI, 35, .inl (fun _ => 0))), ((g 6), .inl (cI, 5, .inl (fun _ => 0)))] U.heap ∧ va_K (dC, dI) vwCl (tyL cB cI cJ cZ cL) U)) (vp_Si (fun r => r = 0)) 0 0 (fun _ => False) := by
  refine Met.ofW (cc := cX9_isWire) (maxL := 1) (ret := (some .boolean)) (by decide) rfl ?_
  intro p e s m args below meth c s₁ B hml hv
  obtain ⟨rfl, hP, hK⟩ := hv
  have hx := B.exec
  have hb := B.bytes
  have hr := B.returns
  have ht : ∀ w ∈ lw_ok, w.before _ s = true := fun w h => atoms_spec (ws := wy yX9_isWire cX9_isWire 1 (some .boolean)) B.pre w (List.mem_cons_of_mem _ h)
  have hown : s.vm.findClass RX9 = some m.cls := findClass_of_methodNamed B.named
  have hlocks := B.notSynchronized
  have hl := lv_entry ([.ref (g 0)]) (n := 1) (Nat.le_of_ble_eq_true rfl)
  rw [lg_entry_eq]
  generalize (lg_sl ([.ref (g 0)]) ++ List.replicate (1 - (lg_sl ([.ref (g 0)])).length) Slot.unset).toArray = ls at hl ⊢
  have hl : lv_has ls 1 [(0, .ref (g 0))] := hl
  have hP : va_P (dC, dI) vwCl [((g 0), .inr (9, [.int 0, .ref (g 1), .ref (g 2), .ref (g 3), .ref (g 4), .ref (g 5), .int 0, .int 0, .int 0, .int 0, .int 0, .long 0, .int 0, .int 0, .int 0, .int (-1), .ref (g 6), .ref (g 7), .ref (g 8), .ref (g 9), .ref (g 10), .ref (g 11), .int 0, .int 0, .int 0, .int 0, .int 0, .ref (g 12), .ref (g 13), .int 0, .ref (g 14), .ref (g 15), .long 0, .int 0, .int 0, .int 0, .ref (g 16), .ref (g 17)])), ((g 7), .inl (cI, 35, .inl (fun _ => 0))), ((g 6), .inl (cI, 5, .inl (fun _ => 0)))] s.heap := hP
  refine lv_aload_n hx hb dX9_isWire_0 rfl (lv_at hl 0 rfl) ?_
  refine va_get (D := (dC, dI)) (ci := 9) (v := .ref (g 6)) (C := RX9) (T := TX9) (N := 38) hx hb ht iX9 hown hK hP 0 rfl rfl 16 (by decide) (ht _ w_1278) (fun _ h9 => h9) rfl dX9_isWire_1 ?_
  refine lv_iconst (v := 0) hx hb dX9_isWire_4 (by decide) ?_
  refine va_iald hx hb hK hP 2 1 rfl rfl (by unfold vp_in; decide) dX9_isWire_5 ?_
  refine W.eq (g2 := F0 m 6 ls [.int 0]) rfl ?_
  refine lv_if_le (tgt := 13) hx hb dX9_isWire_6 (by decide) (fun _ => ?_) (fun c9 => by first | exact absurd (by decide) c9 | exact absurd c9 (by decide))
  refine lv_iconst (v := 0) hx hb dX9_isWire_13 (by decide) ?_
  exact W.zret (v := 0) hx hb hr rfl (fun t ht hW => ⟨0, rfl, rfl, ht⟩) (fun q h => absurd h List.not_mem_nil) dX9_isWire_14
set_option maxHeartbeats 4000000 in
set_option maxRecDepth 100000 in
theorem k_X9_isSpan (l : Launch) (dC : Nat → ClassId) (dI : Nat → Nat → Nat) (cB cI cJ cZ cL : ClassId) (g : Nat → Nat) (p0 : Int32) : Met l yX9_isSpan (wy yX9_isSpan cX9_isSpan 2 (some .boolean)) ({ frames := 1, cells := 0, slots := 0, locals := 40 }) (va_Pc [.ref (g 0), .int p0] (fun U => va_P (dC, dI) vwCl [((g 0), .inr (9, [.int 0, .ref (g 1), .ref (g 2), .ref (g 3), .ref (g 4), .ref (g 5), .int 0, .int 0, .int 0, .int 0, .int 0, .long 0, .int 0, .int 0, .int 0, .int (-1), .ref (g 6), .ref (g 7), .ref (g 8), .ref (g 9), .ref (g 10), .ref (g 11), .int 0, .int 0, .int 0, .int 0, .int 0, .ref (g 12), .ref (g 13), .int 0, .ref (g 14), .ref (g 15), .long 0, .int 0, .int 0, .int 0, .ref (g 16), .ref (g 17)])), ((g 7), .inl (cI, 35, .inl (fun _ => 0))), ((g 6), .inl (cI, 5, .inl (fun _ => 0)))] U.heap ∧ va_K (dC, dI) vwCl (tyL cB cI cJ cZ cL) U)) (vp_Si (fun r => r = 0)) 0 0 (fun _ => False) := by
  refine Met.ofW (cc := cX9_isSpan) (maxL := 2) (ret := (some .boolean)) (by decide) rfl ?_
  intro p e s m args below meth c s₁ B hml hv
  obtain ⟨rfl, hP, hK⟩ := hv
  have hx := B.exec
  have hb := B.bytes
  have hr := B.returns
  have ht : ∀ w ∈ lw_ok, w.before _ s = true := fun w h => atoms_spec (ws := wy yX9_isSpan cX9_isSpan 2 (some .boolean)) B.pre w (List.mem_cons_of_mem _ h)
  have hown : s.vm.findClass RX9 = some m.cls := findClass_of_methodNamed B.named
  have hlocks := B.notSynchronized
  have hl := lv_entry ([.ref (g 0), .int p0]) (n := 2) (Nat.le_of_ble_eq_true rfl)
  rw [lg_entry_eq]
  generalize (lg_sl ([.ref (g 0), .int p0]) ++ List.replicate (2 - (lg_sl ([.ref (g 0), .int p0])).length) Slot.unset).toArray = ls at hl ⊢
  have hl : lv_has ls 2 [(0, .ref (g 0)), (1, .int p0)] := hl
  have hP : va_P (dC, dI) vwCl [((g 0), .inr (9, [.int 0, .ref (g 1), .ref (g 2), .ref (g 3), .ref (g 4), .ref (g 5), .int 0, .int 0, .int 0, .int 0, .int 0, .long 0, .int 0, .int 0, .int 0, .int (-1), .ref (g 6), .ref (g 7), .ref (g 8), .ref (g 9), .ref (g 10), .ref (g 11), .int 0, .int 0, .int 0, .int 0, .int 0, .ref (g 12), .ref (g 13), .int 0, .ref (g 14), .ref (g 15), .long 0, .int 0, .int 0, .int 0, .ref (g 16), .ref (g 17)])), ((g 7), .inl (cI, 35, .inl (fun _ => 0))), ((g 6), .inl (cI, 5, .inl (fun _ => 0)))] s.heap := hP
  refine lv_iload_n hx hb dX9_isSpan_0 rfl (lv_at hl 1 rfl) ?_
  refine lv_i2l (v := (Int32.toInt64 p0)) hx hb dX9_isSpan_1 (by first | rfl | decide) ?_
  refine lv_lconst (v := 0) hx hb dX9_isSpan_2 (by decide) ?_
  refine lv_aload_n hx hb dX9_isSpan_3 rfl (lv_at hl 0 rfl) ?_
  have hPc := hP.sub (ws' := [((g 0), .inr (9, [.int 0, .ref (g 1), .ref (g 2), .ref (g 3), .ref (g 4), .ref (g 5), .int 0, .int 0, .int 0, .int 0, .int 0, .long 0, .int 0, .int 0, .int 0, .int (-1), .ref (g 6), .ref (g 7), .ref (g 8), .ref (g 9), .ref (g 10), .ref (g 11), .int 0, .int 0, .int 0, .int 0, .int 0, .ref (g 12), .ref (g 13), .int 0, .ref (g 14), .ref (g 15), .long 0, .int 0, .int 0, .int 0, .ref (g 16), .ref (g 17)])), ((g 7), .inl (cI, 35, .inl (fun _ => 0))), ((g 6), .inl (cI, 5, .inl (fun _ => 0)))]) [0, 1, 2] rfl
  refine vp_callSi (W.runV (As := []) (rest := [.long 0, .long (Int32.toInt64 p0)]) ⟨hx, hb, hml, hown, ht⟩ (k_X9_spans l dC dI cB cI cJ cZ cL g) (cwV 0 ht (gV w_1521 w_1523 w_67 w_114 w_1524) rfl rfl rfl (by decide +kernel) ⟨Nat.le_of_ble_eq_true rfl, Nat.le_of_ble_eq_true rfl⟩) (pVS hK hPc (ci := 9) (q0 := 0) rfl rfl) rfl rfl hl.1 rfl (lv_room (Nat.le_of_ble_eq_true rfl)) dX9_isSpan_4 ⟨Nat.le_of_ble_eq_true rfl, Nat.le_of_ble_eq_true rfl⟩) (fun r_1 hw => ?_)
  subst hw
  refine lv_i2l (v := 0) hx hb dX9_isSpan_7 (by first | rfl | decide) ?_
  refine lv_lconst (v := 1) hx hb dX9_isSpan_8 (by decide) ?_
  refine lv_lsub hx hb dX9_isSpan_9 ?_
  refine lv_topl (fun y_2 ey_2 => ?_)
  obtain rfl : y_2 = (-1) := ey_2.trans (by decide)
  have hPc := hP.sub (ws' := []) [] rfl
  refine vp_callSi (W.runS (As := [.long (Int32.toInt64 p0), .long 0, .long (-1)]) (rest := []) ⟨hx, hb, hml, hown, ht⟩ (k_X9_in l dC dI cB cI cJ cZ cL (Int32.toInt64 p0) 0 (-1)) (va_cwS 3 ht (gQ w_1386 w_1387 w_114 w_1388) rfl rfl rfl (by decide +kernel) ⟨Nat.le_of_ble_eq_true rfl, Nat.le_of_ble_eq_true rfl⟩) (pSS hK hPc) rfl rfl hl.1 rfl (lv_room (Nat.le_of_ble_eq_true rfl)) dX9_isSpan_10 ⟨Nat.le_of_ble_eq_true rfl, Nat.le_of_ble_eq_true rfl⟩) (fun r_3 hw => ?_)
  rcases hw with ⟨hw, c_4⟩ | ⟨hw, c_4⟩
  · (exfalso; (try simp only [i_lt, i_le, i_eq, l_lt, l_le, l_wd, T0, T1, T2, T3, T4, T5, T6, T7, T8, T9, T60, Tm1, L0, L1, L2, L3, L6, Lm1, L20, L60, L2e9] at c_4); omega)
  · subst hw
    exact W.zret (v := 0) hx hb hr rfl (fun t ht hW => ⟨0, rfl, rfl, ht⟩) (fun q h => absurd h List.not_mem_nil) dX9_isSpan_13
set_option maxHeartbeats 4000000 in
set_option maxRecDepth 100000 in
theorem k_X9_isStation (l : Launch) (dC : Nat → ClassId) (dI : Nat → Nat → Nat) (cB cI cJ cZ cL : ClassId) (g : Nat → Nat) (p0 : Int32) : Met l yX9_isStation (wy yX9_isStation cX9_isStation 2 (some .boolean)) ({ frames := 2, cells := 0, slots := 0, locals := 80 }) (va_Pc [.ref (g 0), .int p0] (fun U => va_P (dC, dI) vwCl [((g 0), .inr (9, [.int 0, .ref (g 1), .ref (g 2), .ref (g 3), .ref (g 4), .ref (g 5), .int 0, .int 0, .int 0, .int 0, .int 0, .long 0, .int 0, .int 0, .int 0, .int (-1), .ref (g 6), .ref (g 7), .ref (g 8), .ref (g 9), .ref (g 10), .ref (g 11), .int 0, .int 0, .int 0, .int 0, .int 0, .ref (g 12), .ref (g 13), .int 0, .ref (g 14), .ref (g 15), .long 0, .int 0, .int 0, .int 0, .ref (g 16), .ref (g 17)])), ((g 7), .inl (cI, 35, .inl (fun _ => 0))), ((g 6), .inl (cI, 5, .inl (fun _ => 0)))] U.heap ∧ va_K (dC, dI) vwCl (tyL cB cI cJ cZ cL) U)) (vp_Si (fun r => r = 0)) 0 0 (fun _ => False) := by
  refine Met.ofW (cc := cX9_isStation) (maxL := 2) (ret := (some .boolean)) (by decide) rfl ?_
  intro p e s m args below meth c s₁ B hml hv
  obtain ⟨rfl, hP, hK⟩ := hv
  have hx := B.exec
  have hb := B.bytes
  have hr := B.returns
  have ht : ∀ w ∈ lw_ok, w.before _ s = true := fun w h => atoms_spec (ws := wy yX9_isStation cX9_isStation 2 (some .boolean)) B.pre w (List.mem_cons_of_mem _ h)
  have hown : s.vm.findClass RX9 = some m.cls := findClass_of_methodNamed B.named
  have hlocks := B.notSynchronized
  have hl := lv_entry ([.ref (g 0), .int p0]) (n := 2) (Nat.le_of_ble_eq_true rfl)
  rw [lg_entry_eq]
  generalize (lg_sl ([.ref (g 0), .int p0]) ++ List.replicate (2 - (lg_sl ([.ref (g 0), .int p0])).length) Slot.unset).toArray = ls at hl ⊢
  have hl : lv_has ls 2 [(0, .ref (g 0)), (1, .int p0)] := hl
  have hP : va_P (dC, dI) vwCl [((g 0), .inr (9, [.int 0, .ref (g 1), .ref (g 2), .ref (g 3), .ref (g 4), .ref (g 5), .int 0, .int 0, .int 0, .int 0, .int 0, .long 0, .int 0, .int 0, .int 0, .int (-1), .ref (g 6), .ref (g 7), .ref (g 8), .ref (g 9), .ref (g 10), .ref (g 11), .int 0, .int 0, .int 0, .int 0, .int 0, .ref (g 12), .ref (g 13), .int 0, .ref (g 14), .ref (g 15), .long 0, .int 0, .int 0, .int 0, .ref (g 16), .ref (g 17)])), ((g 7), .inl (cI, 35, .inl (fun _ => 0))), ((g 6), .inl (cI, 5, .inl (fun _ => 0)))] s.heap := hP
  refine lv_aload_n hx hb dX9_isStation_0 rfl (lv_at hl 0 rfl) ?_
  refine lv_iload_n hx hb dX9_isStation_1 rfl (lv_at hl 1 rfl) ?_
  have hPc := hP.sub (ws' := [((g 0), .inr (9, [.int 0, .ref (g 1), .ref (g 2), .ref (g 3), .ref (g 4), .ref (g 5), .int 0, .int 0, .int 0, .int 0, .int 0, .long 0, .int 0, .int 0, .int 0, .int (-1), .ref (g 6), .ref (g 7), .ref (g 8), .ref (g 9), .ref (g 10), .ref (g 11), .int 0, .int 0, .int 0, .int 0, .int 0, .ref (g 12), .ref (g 13), .int 0, .ref (g 14), .ref (g 15), .long 0, .int 0, .int 0, .int 0, .ref (g 16), .ref (g 17)])), ((g 7), .inl (cI, 35, .inl (fun _ => 0))), ((g 6), .inl (cI, 5, .inl (fun _ => 0)))]) [0, 1, 2] rfl
  refine vp_callSi (W.runV (As := [.int p0]) (rest := []) ⟨hx, hb, hml, hown, ht⟩ (k_X9_isSpan l dC dI cB cI cJ cZ cL g p0) (cwV 1 ht (gV w_1517 w_1519 w_66 w_114 w_1520) rfl rfl rfl (by decide +kernel) ⟨Nat.le_of_ble_eq_true rfl, Nat.le_of_ble_eq_true rfl⟩) (pVS hK hPc (ci := 9) (q0 := 0) rfl rfl) rfl rfl hl.1 rfl (lv_room (Nat.le_of_ble_eq_true rfl)) dX9_isStation_2 ⟨Nat.le_of_ble_eq_true rfl, Nat.le_of_ble_eq_true rfl⟩) (fun r_1 hw => ?_)
  subst hw
  refine lv_if_eq (tgt := 26) hx hb dX9_isStation_5 (by decide) (fun _ => ?_) (fun c9 => by first | exact absurd (by decide) c9 | exact absurd c9 (by decide))
  refine lv_iconst (v := 0) hx hb dX9_isStation_26 (by decide) ?_
  exact W.zret (v := 0) hx hb hr rfl (fun t ht hW => ⟨0, rfl, rfl, ht⟩) (fun q h => absurd h List.not_mem_nil) dX9_isStation_27
set_option maxHeartbeats 4000000 in
set_option maxRecDepth 100000 in
theorem k_X9_isDay (l : Launch) (dC : Nat → ClassId) (dI : Nat → Nat → Nat) (cB cI cJ cZ cL : ClassId) (g : Nat → Nat) (p0 : Int64) : Met l yX9_isDay (wy yX9_isDay cX9_isDay 3 (some .boolean)) ({ frames := 1, cells := 0, slots := 0, locals := 40 }) (va_Pc [.ref (g 0), .long p0] (fun U => va_P (dC, dI) vwCl [((g 0), .inr (9, [.int 0, .ref (g 1), .ref (g 2), .ref (g 3), .ref (g 4), .ref (g 5), .int 0, .int 0, .int 0, .int 0, .int 0, .long 0, .int 0, .int 0, .int 0, .int (-1), .ref (g 6), .ref (g 7), .ref (g 8), .ref (g 9), .ref (g 10), .ref (g 11), .int 0, .int 0, .int 0, .int 0, .int 0, .ref (g 12), .ref (g 13), .int 0, .ref (g 14), .ref (g 15), .long 0, .int 0, .int 0, .int 0, .ref (g 16), .ref (g 17)])), ((g 7), .inl (cI, 35, .inl (fun _ => 0))), ((g 6), .inl (cI, 5, .inl (fun _ => 0)))] U.heap ∧ va_K (dC, dI) vwCl (tyL cB cI cJ cZ cL) U)) (vp_Si (fun r => r = 0)) 0 0 (fun _ => False) := by
  refine Met.ofW (cc := cX9_isDay) (maxL := 3) (ret := (some .boolean)) (by decide) rfl ?_
  intro p e s m args below meth c s₁ B hml hv
  obtain ⟨rfl, hP, hK⟩ := hv
  have hx := B.exec
  have hb := B.bytes
  have hr := B.returns
  have ht : ∀ w ∈ lw_ok, w.before _ s = true := fun w h => atoms_spec (ws := wy yX9_isDay cX9_isDay 3 (some .boolean)) B.pre w (List.mem_cons_of_mem _ h)
  have hown : s.vm.findClass RX9 = some m.cls := findClass_of_methodNamed B.named
  have hlocks := B.notSynchronized
  have hl := lv_entry ([.ref (g 0), .long p0]) (n := 3) (Nat.le_of_ble_eq_true rfl)
  rw [lg_entry_eq]
  generalize (lg_sl ([.ref (g 0), .long p0]) ++ List.replicate (3 - (lg_sl ([.ref (g 0), .long p0])).length) Slot.unset).toArray = ls at hl ⊢
  have hl : lv_has ls 3 [(0, .ref (g 0)), (1, .long p0)] := hl
  have hP : va_P (dC, dI) vwCl [((g 0), .inr (9, [.int 0, .ref (g 1), .ref (g 2), .ref (g 3), .ref (g 4), .ref (g 5), .int 0, .int 0, .int 0, .int 0, .int 0, .long 0, .int 0, .int 0, .int 0, .int (-1), .ref (g 6), .ref (g 7), .ref (g 8), .ref (g 9), .ref (g 10), .ref (g 11), .int 0, .int 0, .int 0, .int 0, .int 0, .ref (g 12), .ref (g 13), .int 0, .ref (g 14), .ref (g 15), .long 0, .int 0, .int 0, .int 0, .ref (g 16), .ref (g 17)])), ((g 7), .inl (cI, 35, .inl (fun _ => 0))), ((g 6), .inl (cI, 5, .inl (fun _ => 0)))] s.heap := hP
  refine lv_aload_n hx hb dX9_isDay_0 rfl (lv_at hl 0 rfl) ?_
  have hPc := hP.sub (ws' := [((g 0), .inr (9, [.int 0, .ref (g 1), .ref (g 2), .ref (g 3), .ref (g 4), .ref (g 5), .int 0, .int 0, .int 0, .int 0, .int 0, .long 0, .int 0, .int 0, .int 0, .int (-1), .ref (g 6), .ref (g 7), .ref (g 8), .ref (g 9), .ref (g 10), .ref (g 11), .int 0, .int 0, .int 0, .int 0, .int 0, .ref (g 12), .ref (g 13), .int 0, .ref (g 14), .ref (g 15), .long 0, .int 0, .int 0, .int 0, .ref (g 16), .ref (g 17)])), ((g 7), .inl (cI, 35, .inl (fun _ => 0))), ((g 6), .inl (cI, 5, .inl (fun _ => 0)))]) [0, 1, 2] rfl
  refine vp_callSi (W.runV (As := []) (rest := []) ⟨hx, hb, hml, hown, ht⟩ (k_X9_isWire l dC dI cB cI cJ cZ cL g) (cwV 0 ht (gV w_1530 w_1532 w_68 w_114 w_1533) rfl rfl rfl (by decide +kernel) ⟨Nat.le_of_ble_eq_true rfl, Nat.le_of_ble_eq_true rfl⟩) (pVS hK hPc (ci := 9) (q0 := 0) rfl rfl) rfl rfl hl.1 rfl (lv_room (Nat.le_of_ble_eq_true rfl)) dX9_isDay_1 ⟨Nat.le_of_ble_eq_true rfl, Nat.le_of_ble_eq_true rfl⟩) (fun r_1 hw => ?_)
  subst hw
  refine lv_if_eq (tgt := 24) hx hb dX9_isDay_4 (by decide) (fun _ => ?_) (fun c9 => by first | exact absurd (by decide) c9 | exact absurd c9 (by decide))
  refine lv_iconst (v := 0) hx hb dX9_isDay_24 (by decide) ?_
  exact W.zret (v := 0) hx hb hr rfl (fun t ht hW => ⟨0, rfl, rfl, ht⟩) (fun q h => absurd h List.not_mem_nil) dX9_isDay_25
set_option maxHeartbeats 4000000 in
set_option maxRecDepth 100000 in
theorem k_X9_isOf (l : Launch) (dC : Nat → ClassId) (dI : Nat → Nat → Nat) (cB cI cJ cZ cL : ClassId) (g : Nat → Nat) (p0 : Int32) (p1 : Int32) (p2 : Int32) : Met l yX9_isOf (wy yX9_isOf cX9_isOf 4 (some .boolean)) ({ frames := 2, cells := 0, slots := 0, locals := 80 }) (va_Pc [.ref (g 0), .int p0, .int p1, .int p2] (fun U => va_P (dC, dI) vwCl [((g 0), .inr (9, [.int 0, .ref (g 1), .ref (g 2), .ref (g 3), .ref (g 4), .ref (g 5), .int 0, .int 0, .int 0, .int 0, .int 0, .long 0, .int 0, .int 0, .int 0, .int (-1), .ref (g 6), .ref (g 7), .ref (g 8), .ref (g 9), .ref (g 10), .ref (g 11), .int 0, .int 0, .int 0, .int 0, .int 0, .ref (g 12), .ref (g 13), .int 0, .ref (g 14), .ref (g 15), .long 0, .int 0, .int 0, .int 0, .ref (g 16), .ref (g 17)])), ((g 7), .inl (cI, 35, .inl (fun _ => 0))), ((g 6), .inl (cI, 5, .inl (fun _ => 0)))] U.heap ∧ va_K (dC, dI) vwCl (tyL cB cI cJ cZ cL) U)) (vp_Si (fun r => r = 0)) 0 0 (fun _ => False) := by
  refine Met.ofW (cc := cX9_isOf) (maxL := 4) (ret := (some .boolean)) (by decide) rfl ?_
  intro p e s m args below meth c s₁ B hml hv
  obtain ⟨rfl, hP, hK⟩ := hv
  have hx := B.exec
  have hb := B.bytes
  have hr := B.returns
  have ht : ∀ w ∈ lw_ok, w.before _ s = true := fun w h => atoms_spec (ws := wy yX9_isOf cX9_isOf 4 (some .boolean)) B.pre w (List.mem_cons_of_mem _ h)
  have hown : s.vm.findClass RX9 = some m.cls := findClass_of_methodNamed B.named
  have hlocks := B.notSynchronized
  have hl := lv_entry ([.ref (g 0), .int p0, .int p1, .int p2]) (n := 4) (Nat.le_of_ble_eq_true rfl)
  rw [lg_entry_eq]
  generalize (lg_sl ([.ref (g 0), .int p0, .int p1, .int p2]) ++ List.replicate (4 - (lg_sl ([.ref (g 0), .int p0, .int p1, .int p2])).length) Slot.unset).toArray = ls at hl ⊢
  have hl : lv_has ls 4 [(0, .ref (g 0)), (1, .int p0), (2, .int p1), (3, .int p2)] := hl
  have hP : va_P (dC, dI) vwCl [((g 0), .inr (9, [.int 0, .ref (g 1), .ref (g 2), .ref (g 3), .ref (g 4), .ref (g 5), .int 0, .int 0, .int 0, .int 0, .int 0, .long 0, .int 0, .int 0, .int 0, .int (-1), .ref (g 6), .ref (g 7), .ref (g 8), .ref (g 9), .ref (g 10), .ref (g 11), .int 0, .int 0, .int 0, .int 0, .int 0, .ref (g 12), .ref (g 13), .int 0, .ref (g 14), .ref (g 15), .long 0, .int 0, .int 0, .int 0, .ref (g 16), .ref (g 17)])), ((g 7), .inl (cI, 35, .inl (fun _ => 0))), ((g 6), .inl (cI, 5, .inl (fun _ => 0)))] s.heap := hP
  refine lv_aload_n hx hb dX9_isOf_0 rfl (lv_at hl 0 rfl) ?_
  refine lv_iload_n hx hb dX9_isOf_1 rfl (lv_at hl 1 rfl) ?_
  have hPc := hP.sub (ws' := [((g 0), .inr (9, [.int 0, .ref (g 1), .ref (g 2), .ref (g 3), .ref (g 4), .ref (g 5), .int 0, .int 0, .int 0, .int 0, .int 0, .long 0, .int 0, .int 0, .int 0, .int (-1), .ref (g 6), .ref (g 7), .ref (g 8), .ref (g 9), .ref (g 10), .ref (g 11), .int 0, .int 0, .int 0, .int 0, .int 0, .ref (g 12), .ref (g 13), .int 0, .ref (g 14), .ref (g 15), .long 0, .int 0, .int 0, .int 0, .ref (g 16), .ref (g 17)])), ((g 7), .inl (cI, 35, .inl (fun _ => 0))), ((g 6), .inl (cI, 5, .inl (fun _ => 0)))]) [0, 1, 2] rfl
  refine vp_callSi (W.runV (As := [.int p0]) (rest := []) ⟨hx, hb, hml, hown, ht⟩ (k_X9_isSpan l dC dI cB cI cJ cZ cL g p0) (cwV 1 ht (gV w_1517 w_1519 w_66 w_114 w_1520) rfl rfl rfl (by decide +kernel) ⟨Nat.le_of_ble_eq_true rfl, Nat.le_of_ble_eq_true rfl⟩) (pVS hK hPc (ci := 9) (q0 := 0) rfl rfl) rfl rfl hl.1 rfl (lv_room (Nat.le_of_ble_eq_true rfl)) dX9_isOf_2 ⟨Nat.le_of_ble_eq_true rfl, Nat.le_of_ble_eq_true rfl⟩) (fun r_1 hw => ?_)
  subst hw
  refine lv_if_eq (tgt := 28) hx hb dX9_isOf_5 (by decide) (fun _ => ?_) (fun c9 => by first | exact absurd (by decide) c9 | exact absurd c9 (by decide))
  refine lv_iconst (v := 0) hx hb dX9_isOf_28 (by decide) ?_
  exact W.zret (v := 0) hx hb hr rfl (fun t ht hW => ⟨0, rfl, rfl, ht⟩) (fun q h => absurd h List.not_mem_nil) dX9_isOf_29
set_option maxHeartbeats 4000000 in
set_option maxRecDepth 100000 in
theorem k_X9_areTwo (l : Launch) (dC : Nat → ClassId) (dI : Nat → Nat → Nat) (cB cI cJ cZ cL : ClassId) (g : Nat → Nat) (p0 : Int32) (p1 : Int32) : Met l yX9_areTwo (wy yX9_areTwo cX9_areTwo 3 (some .boolean)) ({ frames := 2, cells := 0, slots := 0, locals := 80 }) (va_Pc [.ref (g 0), .int p0, .int p1] (fun U => va_P (dC, dI) vwCl [((g 0), .inr (9, [.int 0, .ref (g 1), .ref (g 2), .ref (g 3), .ref (g 4), .ref (g 5), .int 0, .int 0, .int 0, .int 0, .int 0, .long 0, .int 0, .int 0, .int 0, .int (-1), .ref (g 6), .ref (g 7), .ref (g 8), .ref (g 9), .ref (g 10), .ref (g 11), .int 0, .int 0, .int 0, .int 0, .int 0, .ref (g 12), .ref (g 13), .int 0, .ref (g 14), .ref (g 15), .long 0, .int 0, .int 0, .int 0, .ref (g 16), .ref (g 17)])), ((g 7), .inl (cI, 35, .inl (fun _ => 0))), ((g 6), .inl (cI, 5, .inl (fun _ => 0)))] U.heap ∧ va_K (dC, dI) vwCl (tyL cB cI cJ cZ cL) U)) (vp_Si (fun r => r = 0)) 0 0 (fun _ => False) := by
  refine Met.ofW (cc := cX9_areTwo) (maxL := 3) (ret := (some .boolean)) (by decide) rfl ?_
  intro p e s m args below meth c s₁ B hml hv
  obtain ⟨rfl, hP, hK⟩ := hv
  have hx := B.exec
  have hb := B.bytes
  have hr := B.returns
  have ht : ∀ w ∈ lw_ok, w.before _ s = true := fun w h => atoms_spec (ws := wy yX9_areTwo cX9_areTwo 3 (some .boolean)) B.pre w (List.mem_cons_of_mem _ h)
  have hown : s.vm.findClass RX9 = some m.cls := findClass_of_methodNamed B.named
  have hlocks := B.notSynchronized
  have hl := lv_entry ([.ref (g 0), .int p0, .int p1]) (n := 3) (Nat.le_of_ble_eq_true rfl)
  rw [lg_entry_eq]
  generalize (lg_sl ([.ref (g 0), .int p0, .int p1]) ++ List.replicate (3 - (lg_sl ([.ref (g 0), .int p0, .int p1])).length) Slot.unset).toArray = ls at hl ⊢
  have hl : lv_has ls 3 [(0, .ref (g 0)), (1, .int p0), (2, .int p1)] := hl
  have hP : va_P (dC, dI) vwCl [((g 0), .inr (9, [.int 0, .ref (g 1), .ref (g 2), .ref (g 3), .ref (g 4), .ref (g 5), .int 0, .int 0, .int 0, .int 0, .int 0, .long 0, .int 0, .int 0, .int 0, .int (-1), .ref (g 6), .ref (g 7), .ref (g 8), .ref (g 9), .ref (g 10), .ref (g 11), .int 0, .int 0, .int 0, .int 0, .int 0, .ref (g 12), .ref (g 13), .int 0, .ref (g 14), .ref (g 15), .long 0, .int 0, .int 0, .int 0, .ref (g 16), .ref (g 17)])), ((g 7), .inl (cI, 35, .inl (fun _ => 0))), ((g 6), .inl (cI, 5, .inl (fun _ => 0)))] s.heap := hP
  refine lv_aload_n hx hb dX9_areTwo_0 rfl (lv_at hl 0 rfl) ?_
  refine lv_iload_n hx hb dX9_areTwo_1 rfl (lv_at hl 1 rfl) ?_
  have hPc := hP.sub (ws' := [((g 0), .inr (9, [.int 0, .ref (g 1), .ref (g 2), .ref (g 3), .ref (g 4), .ref (g 5), .int 0, .int 0, .int 0, .int 0, .int 0, .long 0, .int 0, .int 0, .int 0, .int (-1), .ref (g 6), .ref (g 7), .ref (g 8), .ref (g 9), .ref (g 10), .ref (g 11), .int 0, .int 0, .int 0, .int 0, .int 0, .ref (g 12), .ref (g 13), .int 0, .ref (g 14), .ref (g 15), .long 0, .int 0, .int 0, .int 0, .ref (g 16), .ref (g 17)])), ((g 7), .inl (cI, 35, .inl (fun _ => 0))), ((g 6), .inl (cI, 5, .inl (fun _ => 0)))]) [0, 1, 2] rfl
  refine vp_callSi (W.runV (As := [.int p0]) (rest := []) ⟨hx, hb, hml, hown, ht⟩ (k_X9_isSpan l dC dI cB cI cJ cZ cL g p0) (cwV 1 ht (gV w_1517 w_1519 w_66 w_114 w_1520) rfl rfl rfl (by decide +kernel) ⟨Nat.le_of_ble_eq_true rfl, Nat.le_of_ble_eq_true rfl⟩) (pVS hK hPc (ci := 9) (q0 := 0) rfl rfl) rfl rfl hl.1 rfl (lv_room (Nat.le_of_ble_eq_true rfl)) dX9_areTwo_2 ⟨Nat.le_of_ble_eq_true rfl, Nat.le_of_ble_eq_true rfl⟩) (fun r_1 hw => ?_)
  subst hw
  refine lv_if_eq (tgt := 25) hx hb dX9_areTwo_5 (by decide) (fun _ => ?_) (fun c9 => by first | exact absurd (by decide) c9 | exact absurd c9 (by decide))
  refine lv_iconst (v := 0) hx hb dX9_areTwo_25 (by decide) ?_
  exact W.zret (v := 0) hx hb hr rfl (fun t ht hW => ⟨0, rfl, rfl, ht⟩) (fun q h => absurd h List.not_mem_nil) dX9_areTwo_26
set_option maxHeartbeats 4000000 in
set_option maxRecDepth 100000 in
theorem k_X9_isSoon (l : Launch) (dC : Nat → ClassId) (dI : Nat → Nat → Nat) (cB cI cJ cZ cL : ClassId) (g : Nat → Nat) (p0 : Int32) : Met l yX9_isSoon (wy yX9_isSoon cX9_isSoon 2 (some .boolean)) ({ frames := 2, cells := 0, slots := 0, locals := 80 }) (va_Pc [.ref (g 0), .int p0] (fun U => va_P (dC, dI) vwCl [((g 0), .inr (9, [.int 0, .ref (g 1), .ref (g 2), .ref (g 3), .ref (g 4), .ref (g 5), .int 0, .int 0, .int 0, .int 0, .int 0, .long 0, .int 0, .int 0, .int 0, .int (-1), .ref (g 6), .ref (g 7), .ref (g 8), .ref (g 9), .ref (g 10), .ref (g 11), .int 0, .int 0, .int 0, .int 0, .int 0, .ref (g 12), .ref (g 13), .int 0, .ref (g 14), .ref (g 15), .long 0, .int 0, .int 0, .int 0, .ref (g 16), .ref (g 17)])), ((g 7), .inl (cI, 35, .inl (fun _ => 0))), ((g 6), .inl (cI, 5, .inl (fun _ => 0)))] U.heap ∧ va_K (dC, dI) vwCl (tyL cB cI cJ cZ cL) U)) (vp_Si (fun r => r = 0)) 0 0 (fun _ => False) := by
  refine Met.ofW (cc := cX9_isSoon) (maxL := 2) (ret := (some .boolean)) (by decide) rfl ?_
  intro p e s m args below meth c s₁ B hml hv
  obtain ⟨rfl, hP, hK⟩ := hv
  have hx := B.exec
  have hb := B.bytes
  have hr := B.returns
  have ht : ∀ w ∈ lw_ok, w.before _ s = true := fun w h => atoms_spec (ws := wy yX9_isSoon cX9_isSoon 2 (some .boolean)) B.pre w (List.mem_cons_of_mem _ h)
  have hown : s.vm.findClass RX9 = some m.cls := findClass_of_methodNamed B.named
  have hlocks := B.notSynchronized
  have hl := lv_entry ([.ref (g 0), .int p0]) (n := 2) (Nat.le_of_ble_eq_true rfl)
  rw [lg_entry_eq]
  generalize (lg_sl ([.ref (g 0), .int p0]) ++ List.replicate (2 - (lg_sl ([.ref (g 0), .int p0])).length) Slot.unset).toArray = ls at hl ⊢
  have hl : lv_has ls 2 [(0, .ref (g 0)), (1, .int p0)] := hl
  have hP : va_P (dC, dI) vwCl [((g 0), .inr (9, [.int 0, .ref (g 1), .ref (g 2), .ref (g 3), .ref (g 4), .ref (g 5), .int 0, .int 0, .int 0, .int 0, .int 0, .long 0, .int 0, .int 0, .int 0, .int (-1), .ref (g 6), .ref (g 7), .ref (g 8), .ref (g 9), .ref (g 10), .ref (g 11), .int 0, .int 0, .int 0, .int 0, .int 0, .ref (g 12), .ref (g 13), .int 0, .ref (g 14), .ref (g 15), .long 0, .int 0, .int 0, .int 0, .ref (g 16), .ref (g 17)])), ((g 7), .inl (cI, 35, .inl (fun _ => 0))), ((g 6), .inl (cI, 5, .inl (fun _ => 0)))] s.heap := hP
  refine lv_aload_n hx hb dX9_isSoon_0 rfl (lv_at hl 0 rfl) ?_
  refine lv_iload_n hx hb dX9_isSoon_1 rfl (lv_at hl 1 rfl) ?_
  refine lv_i2l (v := (Int32.toInt64 p0)) hx hb dX9_isSoon_2 (by first | rfl | decide) ?_
  have hPc := hP.sub (ws' := [((g 0), .inr (9, [.int 0, .ref (g 1), .ref (g 2), .ref (g 3), .ref (g 4), .ref (g 5), .int 0, .int 0, .int 0, .int 0, .int 0, .long 0, .int 0, .int 0, .int 0, .int (-1), .ref (g 6), .ref (g 7), .ref (g 8), .ref (g 9), .ref (g 10), .ref (g 11), .int 0, .int 0, .int 0, .int 0, .int 0, .ref (g 12), .ref (g 13), .int 0, .ref (g 14), .ref (g 15), .long 0, .int 0, .int 0, .int 0, .ref (g 16), .ref (g 17)])), ((g 7), .inl (cI, 35, .inl (fun _ => 0))), ((g 6), .inl (cI, 5, .inl (fun _ => 0)))]) [0, 1, 2] rfl
  refine vp_callSi (W.runV (As := [.long (Int32.toInt64 p0)]) (rest := []) ⟨hx, hb, hml, hown, ht⟩ (k_X9_isDay l dC dI cB cI cJ cZ cL g (Int32.toInt64 p0)) (cwV 1 ht (gV w_1558 w_1560 w_73 w_114 w_1561) rfl rfl rfl (by decide +kernel) ⟨Nat.le_of_ble_eq_true rfl, Nat.le_of_ble_eq_true rfl⟩) (pVS hK hPc (ci := 9) (q0 := 0) rfl rfl) rfl rfl hl.1 rfl (lv_room (Nat.le_of_ble_eq_true rfl)) dX9_isSoon_3 ⟨Nat.le_of_ble_eq_true rfl, Nat.le_of_ble_eq_true rfl⟩) (fun r_1 hw => ?_)
  subst hw
  refine lv_if_eq (tgt := 19) hx hb dX9_isSoon_6 (by decide) (fun _ => ?_) (fun c9 => by first | exact absurd (by decide) c9 | exact absurd c9 (by decide))
  refine lv_iconst (v := 0) hx hb dX9_isSoon_19 (by decide) ?_
  exact W.zret (v := 0) hx hb hr rfl (fun t ht hW => ⟨0, rfl, rfl, ht⟩) (fun q h => absurd h List.not_mem_nil) dX9_isSoon_20
set_option maxHeartbeats 4000000 in
set_option maxRecDepth 100000 in
theorem k_X9_whyNot (l : Launch) (dC : Nat → ClassId) (dI : Nat → Nat → Nat) (cB cI cJ cZ cL : ClassId) (g : Nat → Nat) (p0 : Int32) (p1 : Int32) : Met l yX9_whyNot (wy yX9_whyNot cX9_whyNot 5 (some .int)) ({ frames := 2, cells := 0, slots := 0, locals := 80 }) (va_Pc [.ref (g 0), .int p0, .int p1] (fun U => va_P (dC, dI) vwCl [((g 0), .inr (9, [.int 0, .ref (g 1), .ref (g 2), .ref (g 3), .ref (g 4), .ref (g 5), .int 0, .int 0, .int 0, .int 0, .int 0, .long 0, .int 0, .int 0, .int 0, .int (-1), .ref (g 6), .ref (g 7), .ref (g 8), .ref (g 9), .ref (g 10), .ref (g 11), .int 0, .int 0, .int 0, .int 0, .int 0, .ref (g 12), .ref (g 13), .int 0, .ref (g 14), .ref (g 15), .long 0, .int 0, .int 0, .int 0, .ref (g 16), .ref (g 17)])), ((g 7), .inl (cI, 35, .inl (fun _ => 0))), ((g 6), .inl (cI, 5, .inl (fun _ => 0)))] U.heap ∧ va_K (dC, dI) vwCl (tyL cB cI cJ cZ cL) U)) (vp_Si (fun r => r = (-2))) 0 0 (fun _ => False) := by
  refine Met.ofW (cc := cX9_whyNot) (maxL := 5) (ret := (some .int)) (by decide) rfl ?_
  intro p e s m args below meth c s₁ B hml hv
  obtain ⟨rfl, hP, hK⟩ := hv
  have hx := B.exec
  have hb := B.bytes
  have hr := B.returns
  have ht : ∀ w ∈ lw_ok, w.before _ s = true := fun w h => atoms_spec (ws := wy yX9_whyNot cX9_whyNot 5 (some .int)) B.pre w (List.mem_cons_of_mem _ h)
  have hown : s.vm.findClass RX9 = some m.cls := findClass_of_methodNamed B.named
  have hlocks := B.notSynchronized
  have hl := lv_entry ([.ref (g 0), .int p0, .int p1]) (n := 5) (Nat.le_of_ble_eq_true rfl)
  rw [lg_entry_eq]
  generalize (lg_sl ([.ref (g 0), .int p0, .int p1]) ++ List.replicate (5 - (lg_sl ([.ref (g 0), .int p0, .int p1])).length) Slot.unset).toArray = ls at hl ⊢
  have hl : lv_has ls 5 [(0, .ref (g 0)), (1, .int p0), (2, .int p1)] := hl
  have hP : va_P (dC, dI) vwCl [((g 0), .inr (9, [.int 0, .ref (g 1), .ref (g 2), .ref (g 3), .ref (g 4), .ref (g 5), .int 0, .int 0, .int 0, .int 0, .int 0, .long 0, .int 0, .int 0, .int 0, .int (-1), .ref (g 6), .ref (g 7), .ref (g 8), .ref (g 9), .ref (g 10), .ref (g 11), .int 0, .int 0, .int 0, .int 0, .int 0, .ref (g 12), .ref (g 13), .int 0, .ref (g 14), .ref (g 15), .long 0, .int 0, .int 0, .int 0, .ref (g 16), .ref (g 17)])), ((g 7), .inl (cI, 35, .inl (fun _ => 0))), ((g 6), .inl (cI, 5, .inl (fun _ => 0)))] s.heap := hP
  refine lv_iload_n hx hb dX9_whyNot_0 rfl (lv_at hl 1 rfl) ?_
  have hPc := hP.sub (ws' := []) [] rfl
  refine vp_callSi (W.runS (As := [.int p0]) (rest := []) ⟨hx, hb, hml, hown, ht⟩ (k_X9_isSlot l dC dI cB cI cJ cZ cL p0) (va_cwS 1 ht (gQ w_1382 w_1383 w_114 w_1384) rfl rfl rfl (by decide +kernel) ⟨Nat.le_of_ble_eq_true rfl, Nat.le_of_ble_eq_true rfl⟩) (pSS hK hPc) rfl rfl hl.1 rfl (lv_room (Nat.le_of_ble_eq_true rfl)) dX9_whyNot_1 ⟨Nat.le_of_ble_eq_true rfl, Nat.le_of_ble_eq_true rfl⟩) (fun r_1 hw => ?_)
  rcases hw with ⟨hw, c_2⟩ | ⟨hw, c_2⟩
  · subst hw
    refine lv_if_eq (tgt := 18) hx hb dX9_whyNot_4 (by decide) (fun c9 => by first | exact absurd c9 (by decide) | exact absurd (by decide) c9) (fun _ => ?_)
    refine lv_aload_n hx hb dX9_whyNot_7 rfl (lv_at hl 0 rfl) ?_
    have hPc := hP.sub (ws' := [((g 0), .inr (9, [.int 0, .ref (g 1), .ref (g 2), .ref (g 3), .ref (g 4), .ref (g 5), .int 0, .int 0, .int 0, .int 0, .int 0, .long 0, .int 0, .int 0, .int 0, .int (-1), .ref (g 6), .ref (g 7), .ref (g 8), .ref (g 9), .ref (g 10), .ref (g 11), .int 0, .int 0, .int 0, .int 0, .int 0, .ref (g 12), .ref (g 13), .int 0, .ref (g 14), .ref (g 15), .long 0, .int 0, .int 0, .int 0, .ref (g 16), .ref (g 17)])), ((g 7), .inl (cI, 35, .inl (fun _ => 0))), ((g 6), .inl (cI, 5, .inl (fun _ => 0)))]) [0, 1, 2] rfl
    refine vp_callSi (W.runV (As := []) (rest := []) ⟨hx, hb, hml, hown, ht⟩ (k_X9_isWire l dC dI cB cI cJ cZ cL g) (cwV 0 ht (gV w_1530 w_1532 w_68 w_114 w_1533) rfl rfl rfl (by decide +kernel) ⟨Nat.le_of_ble_eq_true rfl, Nat.le_of_ble_eq_true rfl⟩) (pVS hK hPc (ci := 9) (q0 := 0) rfl rfl) rfl rfl hl.1 rfl (lv_room (Nat.le_of_ble_eq_true rfl)) dX9_whyNot_8 ⟨Nat.le_of_ble_eq_true rfl, Nat.le_of_ble_eq_true rfl⟩) (fun r_3 hw => ?_)
    subst hw
    refine lv_if_eq (tgt := 18) hx hb dX9_whyNot_11 (by decide) (fun _ => ?_) (fun c9 => by first | exact absurd (by decide) c9 | exact absurd c9 (by decide))
    refine lv_bipush (v := (-2)) hx hb dX9_whyNot_18 (by decide) ?_
    exact W.iret (v := (-2)) hx hb hr (fun t ht hW => ⟨(-2), rfl, rfl, ht⟩) (fun q h => absurd h List.not_mem_nil) dX9_whyNot_20
  · subst hw
    refine lv_if_eq (tgt := 18) hx hb dX9_whyNot_4 (by decide) (fun _ => ?_) (fun c9 => by first | exact absurd (by decide) c9 | exact absurd c9 (by decide))
    refine lv_bipush (v := (-2)) hx hb dX9_whyNot_18 (by decide) ?_
    exact W.iret (v := (-2)) hx hb hr (fun t ht hW => ⟨(-2), rfl, rfl, ht⟩) (fun q h => absurd h List.not_mem_nil) dX9_whyNot_20
set_option maxHeartbeats 4000000 in
set_option maxRecDepth 100000 in
theorem k_X9_span (l : Launch) (dC : Nat → ClassId) (dI : Nat → Nat → Nat) (cB cI cJ cZ cL : ClassId) (sz : Nat) (g : Nat → Nat) (p0 : Int32) (p1 : Int32) : Met l yX9_span (wy yX9_span cX9_span 3 (some .int)) ({ frames := 2, cells := 0, slots := 0, locals := 80 }) (va_Pc [.ref (g 0), .int p0, .int p1] (fun U => U.heap.size = sz ∧ va_P (dC, dI) vwCl [((g 0), .inr (9, [.int 0, .ref (g 1), .ref (g 2), .ref (g 3), .ref (g 4), .ref (g 5), .int 0, .int 0, .int 0, .int 0, .int 0, .long 0, .int 0, .int 0, .int 0, .int (-1), .ref (g 6), .ref (g 7), .ref (g 8), .ref (g 9), .ref (g 10), .ref (g 11), .int 0, .int 0, .int 0, .int 0, .int 0, .ref (g 12), .ref (g 13), .int 0, .ref (g 14), .ref (g 15), .long 0, .int 0, .int 0, .int 0, .ref (g 16), .ref (g 17)])), ((g 7), .inl (cI, 35, .inl (fun _ => 0))), ((g 6), .inl (cI, 5, .inl (fun _ => 0)))] U.heap ∧ va_K (dC, dI) vwCl (tyL cB cI cJ cZ cL) U ∧ va_D (fun _ => True) [((g 0), .inr (9, [.int 0, .ref (g 1), .ref (g 2), .ref (g 3), .ref (g 4), .ref (g 5), .int 0, .int 0, .int 0, .int 0, .int 0, .long 0, .int 0, .int 0, .int 0, .int (-1), .ref (g 6), .ref (g 7), .ref (g 8), .ref (g 9), .ref (g 10), .ref (g 11), .int 0, .int 0, .int 0, .int 0, .int 0, .ref (g 12), .ref (g 13), .int 0, .ref (g 14), .ref (g 15), .long 0, .int 0, .int 0, .int 0, .ref (g 16), .ref (g 17)])), ((g 7), .inl (cI, 35, .inl (fun _ => 0))), ((g 6), .inl (cI, 5, .inl (fun _ => 0)))])) (va_Qi (fun r _ => r = (-2)) (fun (_ : Unit) _ => True) (va_A [((g 0), .inr (9, [.int 0, .ref (g 1), .ref (g 2), .ref (g 3), .ref (g 4), .ref (g 5), .int 0, .int 0, .int 0, .int 0, .int 0, .long 0, .int 0, .int 0, .int 0, .int (-1), .ref (g 6), .ref (g 7), .ref (g 8), .ref (g 9), .ref (g 10), .ref (g 11), .int 0, .int 0, .int 0, .int 0, .int 0, .ref (g 12), .ref (g 13), .int 0, .ref (g 14), .ref (g 15), .long 0, .int 0, .int 0, .int 0, .ref (g 16), .ref (g 17)])), ((g 7), .inl (cI, 35, .inl (fun _ => 0))), ((g 6), .inl (cI, 5, .inl (fun _ => 0)))] sz)) 0 0 (va_A [((g 0), .inr (9, [.int 0, .ref (g 1), .ref (g 2), .ref (g 3), .ref (g 4), .ref (g 5), .int 0, .int 0, .int 0, .int 0, .int 0, .long 0, .int 0, .int 0, .int 0, .int (-1), .ref (g 6), .ref (g 7), .ref (g 8), .ref (g 9), .ref (g 10), .ref (g 11), .int 0, .int 0, .int 0, .int 0, .int 0, .ref (g 12), .ref (g 13), .int 0, .ref (g 14), .ref (g 15), .long 0, .int 0, .int 0, .int 0, .ref (g 16), .ref (g 17)])), ((g 7), .inl (cI, 35, .inl (fun _ => 0))), ((g 6), .inl (cI, 5, .inl (fun _ => 0)))] sz) := by
  refine Met.ofW (cc := cX9_span) (maxL := 3) (ret := (some .int)) (by decide) rfl ?_
  intro p e s m args below meth c s₁ B hml hv
  obtain ⟨rfl, hsz, hP, hK, hD0⟩ := hv
  have hx := B.exec
  have hb := B.bytes
  have hr := B.returns
  have ht : ∀ w ∈ lw_ok, w.before _ s = true := fun w h => atoms_spec (ws := wy yX9_span cX9_span 3 (some .int)) B.pre w (List.mem_cons_of_mem _ h)
  have hown : s.vm.findClass RX9 = some m.cls := findClass_of_methodNamed B.named
  have hlocks := B.notSynchronized
  subst hsz
  have hD := hD0.self (sz := s.heap.size)
  generalize hAe : va_A [((g 0), .inr (9, [.int 0, .ref (g 1), .ref (g 2), .ref (g 3), .ref (g 4), .ref (g 5), .int 0, .int 0, .int 0, .int 0, .int 0, .long 0, .int 0, .int 0, .int 0, .int (-1), .ref (g 6), .ref (g 7), .ref (g 8), .ref (g 9), .ref (g 10), .ref (g 11), .int 0, .int 0, .int 0, .int 0, .int 0, .ref (g 12), .ref (g 13), .int 0, .ref (g 14), .ref (g 15), .long 0, .int 0, .int 0, .int 0, .ref (g 16), .ref (g 17)])), ((g 7), .inl (cI, 35, .inl (fun _ => 0))), ((g 6), .inl (cI, 5, .inl (fun _ => 0)))] s.heap.size = A at hD ⊢
  have hA : ∀ q : Nat, s.heap.size ≤ q → A q := fun q h => by rw [← hAe]; exact Or.inr h
  have hS : va_S A s.heap s.heap [] := va_S.rf
  have hl := lv_entry ([.ref (g 0), .int p0, .int p1]) (n := 3) (Nat.le_of_ble_eq_true rfl)
  rw [lg_entry_eq]
  generalize (lg_sl ([.ref (g 0), .int p0, .int p1]) ++ List.replicate (3 - (lg_sl ([.ref (g 0), .int p0, .int p1])).length) Slot.unset).toArray = ls at hl ⊢
  have hl : lv_has ls 3 [(0, .ref (g 0)), (1, .int p0), (2, .int p1)] := hl
  have hP : va_P (dC, dI) vwCl [((g 0), .inr (9, [.int 0, .ref (g 1), .ref (g 2), .ref (g 3), .ref (g 4), .ref (g 5), .int 0, .int 0, .int 0, .int 0, .int 0, .long 0, .int 0, .int 0, .int 0, .int (-1), .ref (g 6), .ref (g 7), .ref (g 8), .ref (g 9), .ref (g 10), .ref (g 11), .int 0, .int 0, .int 0, .int 0, .int 0, .ref (g 12), .ref (g 13), .int 0, .ref (g 14), .ref (g 15), .long 0, .int 0, .int 0, .int 0, .ref (g 16), .ref (g 17)])), ((g 7), .inl (cI, 35, .inl (fun _ => 0))), ((g 6), .inl (cI, 5, .inl (fun _ => 0)))] s.heap := hP
  have hD : va_D A [((g 0), .inr (9, [.int 0, .ref (g 1), .ref (g 2), .ref (g 3), .ref (g 4), .ref (g 5), .int 0, .int 0, .int 0, .int 0, .int 0, .long 0, .int 0, .int 0, .int 0, .int (-1), .ref (g 6), .ref (g 7), .ref (g 8), .ref (g 9), .ref (g 10), .ref (g 11), .int 0, .int 0, .int 0, .int 0, .int 0, .ref (g 12), .ref (g 13), .int 0, .ref (g 14), .ref (g 15), .long 0, .int 0, .int 0, .int 0, .ref (g 16), .ref (g 17)])), ((g 7), .inl (cI, 35, .inl (fun _ => 0))), ((g 6), .inl (cI, 5, .inl (fun _ => 0)))] := hD
  refine lv_aload_n hx hb dX9_span_0 rfl (lv_at hl 0 rfl) ?_
  refine lv_iconst (v := 0) hx hb dX9_span_1 (by decide) ?_
  refine va_put (D := (dC, dI)) (ci := 9) (v := .int 0) (ty := .int) (C := RX9) (T := TX9) (N := 38) hx hb ht iX9 tyX9 tyX9_ok nmX9 hown hK hP hD hS 0 rfl rfl 0 (by decide) (ht _ w_1262) (fun _ h9 => h9) rfl (by decide +kernel) rfl rfl (Nat.le_of_ble_eq_true rfl) dX9_span_2 (fun H locs hP hD hS => ?_)
  have hP : va_P (dC, dI) vwCl [((g 0), .inr (9, [.int 0, .ref (g 1), .ref (g 2), .ref (g 3), .ref (g 4), .ref (g 5), .int 0, .int 0, .int 0, .int 0, .int 0, .long 0, .int 0, .int 0, .int 0, .int (-1), .ref (g 6), .ref (g 7), .ref (g 8), .ref (g 9), .ref (g 10), .ref (g 11), .int 0, .int 0, .int 0, .int 0, .int 0, .ref (g 12), .ref (g 13), .int 0, .ref (g 14), .ref (g 15), .long 0, .int 0, .int 0, .int 0, .ref (g 16), .ref (g 17)])), ((g 7), .inl (cI, 35, .inl (fun _ => 0))), ((g 6), .inl (cI, 5, .inl (fun _ => 0)))] H := hP
  have hD : va_D A [((g 0), .inr (9, [.int 0, .ref (g 1), .ref (g 2), .ref (g 3), .ref (g 4), .ref (g 5), .int 0, .int 0, .int 0, .int 0, .int 0, .long 0, .int 0, .int 0, .int 0, .int (-1), .ref (g 6), .ref (g 7), .ref (g 8), .ref (g 9), .ref (g 10), .ref (g 11), .int 0, .int 0, .int 0, .int 0, .int 0, .ref (g 12), .ref (g 13), .int 0, .ref (g 14), .ref (g 15), .long 0, .int 0, .int 0, .int 0, .ref (g 16), .ref (g 17)])), ((g 7), .inl (cI, 35, .inl (fun _ => 0))), ((g 6), .inl (cI, 5, .inl (fun _ => 0)))] := hD
  refine lv_aload_n hx hb dX9_span_5 rfl (lv_at hl 0 rfl) ?_
  refine lv_iload_n hx hb dX9_span_6 rfl (lv_at hl 1 rfl) ?_
  have hPc := hP.sub (ws' := [((g 0), .inr (9, [.int 0, .ref (g 1), .ref (g 2), .ref (g 3), .ref (g 4), .ref (g 5), .int 0, .int 0, .int 0, .int 0, .int 0, .long 0, .int 0, .int 0, .int 0, .int (-1), .ref (g 6), .ref (g 7), .ref (g 8), .ref (g 9), .ref (g 10), .ref (g 11), .int 0, .int 0, .int 0, .int 0, .int 0, .ref (g 12), .ref (g 13), .int 0, .ref (g 14), .ref (g 15), .long 0, .int 0, .int 0, .int 0, .ref (g 16), .ref (g 17)])), ((g 7), .inl (cI, 35, .inl (fun _ => 0))), ((g 6), .inl (cI, 5, .inl (fun _ => 0)))]) [0, 1, 2] rfl
  refine vp_callSi (W.runV (As := [.int p0]) (rest := []) ⟨hx, hb, hml, hown, ht⟩ (k_X9_isSpan l dC dI cB cI cJ cZ cL g p0) (cwV 1 ht (gV w_1517 w_1519 w_66 w_114 w_1520) rfl rfl rfl (by decide +kernel) ⟨Nat.le_of_ble_eq_true rfl, Nat.le_of_ble_eq_true rfl⟩) (pVS hK hPc (ci := 9) (q0 := 0) rfl rfl) rfl rfl hl.1 rfl (lv_room (Nat.le_of_ble_eq_true rfl)) dX9_span_7 ⟨Nat.le_of_ble_eq_true rfl, Nat.le_of_ble_eq_true rfl⟩) (fun r_1 hw => ?_)
  subst hw
  refine lv_if_eq (tgt := 38) hx hb dX9_span_10 (by decide) (fun _ => ?_) (fun c9 => by first | exact absurd (by decide) c9 | exact absurd c9 (by decide))
  refine lv_bipush (v := (-2)) hx hb dX9_span_38 (by decide) ?_
  refine W.widen (k := 0) (n := 0) (Nat.le_of_ble_eq_true rfl) (Nat.le_of_ble_eq_true rfl) ?_
  exact W.iret (v := (-2)) hx hb hr (fun t ht hW => ⟨⟨(-2), (), rfl, rfl, trivial⟩, hS.F ht⟩) hS.2.2 dX9_span_40
set_option maxHeartbeats 4000000 in
set_option maxRecDepth 100000 in
theorem k_X9_stations (l : Launch) (dC : Nat → ClassId) (dI : Nat → Nat → Nat) (cB cI cJ cZ cL : ClassId) (sz : Nat) (g : Nat → Nat)  : Met l yX9_stations (wy yX9_stations cX9_stations 1 (some .int)) ({ frames := 1, cells := 0, slots := 0, locals := 40 }) (va_Pc [.ref (g 0)] (fun U => U.heap.size = sz ∧ va_P (dC, dI) vwCl [((g 0), .inr (9, [.int 0, .ref (g 1), .ref (g 2), .ref (g 3), .ref (g 4), .ref (g 5), .int 0, .int 0, .int 0, .int 0, .int 0, .long 0, .int 0, .int 0, .int 0, .int (-1), .ref (g 6), .ref (g 7), .ref (g 8), .ref (g 9), .ref (g 10), .ref (g 11), .int 0, .int 0, .int 0, .int 0, .int 0, .ref (g 12), .ref (g 13), .int 0, .ref (g 14), .ref (g 15), .long 0, .int 0, .int 0, .int 0, .ref (g 16), .ref (g 17)])), ((g 7), .inl (cI, 35, .inl (fun _ => 0))), ((g 6), .inl (cI, 5, .inl (fun _ => 0)))] U.heap ∧ va_K (dC, dI) vwCl (tyL cB cI cJ cZ cL) U ∧ va_D (fun _ => True) [((g 0), .inr (9, [.int 0, .ref (g 1), .ref (g 2), .ref (g 3), .ref (g 4), .ref (g 5), .int 0, .int 0, .int 0, .int 0, .int 0, .long 0, .int 0, .int 0, .int 0, .int (-1), .ref (g 6), .ref (g 7), .ref (g 8), .ref (g 9), .ref (g 10), .ref (g 11), .int 0, .int 0, .int 0, .int 0, .int 0, .ref (g 12), .ref (g 13), .int 0, .ref (g 14), .ref (g 15), .long 0, .int 0, .int 0, .int 0, .ref (g 16), .ref (g 17)])), ((g 7), .inl (cI, 35, .inl (fun _ => 0))), ((g 6), .inl (cI, 5, .inl (fun _ => 0)))])) (va_Qi (fun r _ => r = (-2)) (fun (_ : Unit) _ => True) (va_A [((g 0), .inr (9, [.int 0, .ref (g 1), .ref (g 2), .ref (g 3), .ref (g 4), .ref (g 5), .int 0, .int 0, .int 0, .int 0, .int 0, .long 0, .int 0, .int 0, .int 0, .int (-1), .ref (g 6), .ref (g 7), .ref (g 8), .ref (g 9), .ref (g 10), .ref (g 11), .int 0, .int 0, .int 0, .int 0, .int 0, .ref (g 12), .ref (g 13), .int 0, .ref (g 14), .ref (g 15), .long 0, .int 0, .int 0, .int 0, .ref (g 16), .ref (g 17)])), ((g 7), .inl (cI, 35, .inl (fun _ => 0))), ((g 6), .inl (cI, 5, .inl (fun _ => 0)))] sz)) 0 0 (va_A [((g 0), .inr (9, [.int 0, .ref (g 1), .ref (g 2), .ref (g 3), .ref (g 4), .ref (g 5), .int 0, .int 0, .int 0, .int 0, .int 0, .long 0, .int 0, .int 0, .int 0, .int (-1), .ref (g 6), .ref (g 7), .ref (g 8), .ref (g 9), .ref (g 10), .ref (g 11), .int 0, .int 0, .int 0, .int 0, .int 0, .ref (g 12), .ref (g 13), .int 0, .ref (g 14), .ref (g 15), .long 0, .int 0, .int 0, .int 0, .ref (g 16), .ref (g 17)])), ((g 7), .inl (cI, 35, .inl (fun _ => 0))), ((g 6), .inl (cI, 5, .inl (fun _ => 0)))] sz) := by
  refine Met.ofW (cc := cX9_stations) (maxL := 1) (ret := (some .int)) (by decide) rfl ?_
  intro p e s m args below meth c s₁ B hml hv
  obtain ⟨rfl, hsz, hP, hK, hD0⟩ := hv
  have hx := B.exec
  have hb := B.bytes
  have hr := B.returns
  have ht : ∀ w ∈ lw_ok, w.before _ s = true := fun w h => atoms_spec (ws := wy yX9_stations cX9_stations 1 (some .int)) B.pre w (List.mem_cons_of_mem _ h)
  have hown : s.vm.findClass RX9 = some m.cls := findClass_of_methodNamed B.named
  have hlocks := B.notSynchronized
  subst hsz
  have hD := hD0.self (sz := s.heap.size)
  generalize hAe : va_A [((g 0), .inr (9, [.int 0, .ref (g 1), .ref (g 2), .ref (g 3), .ref (g 4), .ref (g 5), .int 0, .int 0, .int 0, .int 0, .int 0, .long 0, .int 0, .int 0, .int 0, .int (-1), .ref (g 6), .ref (g 7), .ref (g 8), .ref (g 9), .ref (g 10), .ref (g 11), .int 0, .int 0, .int 0, .int 0, .int 0, .ref (g 12), .ref (g 13), .int 0, .ref (g 14), .ref (g 15), .long 0, .int 0, .int 0, .int 0, .ref (g 16), .ref (g 17)])), ((g 7), .inl (cI, 35, .inl (fun _ => 0))), ((g 6), .inl (cI, 5, .inl (fun _ => 0)))] s.heap.size = A at hD ⊢
  have hA : ∀ q : Nat, s.heap.size ≤ q → A q := fun q h => by rw [← hAe]; exact Or.inr h
  have hS : va_S A s.heap s.heap [] := va_S.rf
  have hl := lv_entry ([.ref (g 0)]) (n := 1) (Nat.le_of_ble_eq_true rfl)
  rw [lg_entry_eq]
  generalize (lg_sl ([.ref (g 0)]) ++ List.replicate (1 - (lg_sl ([.ref (g 0)])).length) Slot.unset).toArray = ls at hl ⊢
  have hl : lv_has ls 1 [(0, .ref (g 0))] := hl
  have hP : va_P (dC, dI) vwCl [((g 0), .inr (9, [.int 0, .ref (g 1), .ref (g 2), .ref (g 3), .ref (g 4), .ref (g 5), .int 0, .int 0, .int 0, .int 0, .int 0, .long 0, .int 0, .int 0, .int 0, .int (-1), .ref (g 6), .ref (g 7), .ref (g 8), .ref (g 9), .ref (g 10), .ref (g 11), .int 0, .int 0, .int 0, .int 0, .int 0, .ref (g 12), .ref (g 13), .int 0, .ref (g 14), .ref (g 15), .long 0, .int 0, .int 0, .int 0, .ref (g 16), .ref (g 17)])), ((g 7), .inl (cI, 35, .inl (fun _ => 0))), ((g 6), .inl (cI, 5, .inl (fun _ => 0)))] s.heap := hP
  have hD : va_D A [((g 0), .inr (9, [.int 0, .ref (g 1), .ref (g 2), .ref (g 3), .ref (g 4), .ref (g 5), .int 0, .int 0, .int 0, .int 0, .int 0, .long 0, .int 0, .int 0, .int 0, .int (-1), .ref (g 6), .ref (g 7), .ref (g 8), .ref (g 9), .ref (g 10), .ref (g 11), .int 0, .int 0, .int 0, .int 0, .int 0, .ref (g 12), .ref (g 13), .int 0, .ref (g 14), .ref (g 15), .long 0, .int 0, .int 0, .int 0, .ref (g 16), .ref (g 17)])), ((g 7), .inl (cI, 35, .inl (fun _ => 0))), ((g 6), .inl (cI, 5, .inl (fun _ => 0)))] := hD
  refine lv_aload_n hx hb dX9_stations_0 rfl (lv_at hl 0 rfl) ?_
  refine lv_iconst (v := 0) hx hb dX9_stations_1 (by decide) ?_
  refine va_put (D := (dC, dI)) (ci := 9) (v := .int 0) (ty := .int) (C := RX9) (T := TX9) (N := 38) hx hb ht iX9 tyX9 tyX9_ok nmX9 hown hK hP hD hS 0 rfl rfl 0 (by decide) (ht _ w_1262) (fun _ h9 => h9) rfl (by decide +kernel) rfl rfl (Nat.le_of_ble_eq_true rfl) dX9_stations_2 (fun H locs hP hD hS => ?_)
  have hP : va_P (dC, dI) vwCl [((g 0), .inr (9, [.int 0, .ref (g 1), .ref (g 2), .ref (g 3), .ref (g 4), .ref (g 5), .int 0, .int 0, .int 0, .int 0, .int 0, .long 0, .int 0, .int 0, .int 0, .int (-1), .ref (g 6), .ref (g 7), .ref (g 8), .ref (g 9), .ref (g 10), .ref (g 11), .int 0, .int 0, .int 0, .int 0, .int 0, .ref (g 12), .ref (g 13), .int 0, .ref (g 14), .ref (g 15), .long 0, .int 0, .int 0, .int 0, .ref (g 16), .ref (g 17)])), ((g 7), .inl (cI, 35, .inl (fun _ => 0))), ((g 6), .inl (cI, 5, .inl (fun _ => 0)))] H := hP
  have hD : va_D A [((g 0), .inr (9, [.int 0, .ref (g 1), .ref (g 2), .ref (g 3), .ref (g 4), .ref (g 5), .int 0, .int 0, .int 0, .int 0, .int 0, .long 0, .int 0, .int 0, .int 0, .int (-1), .ref (g 6), .ref (g 7), .ref (g 8), .ref (g 9), .ref (g 10), .ref (g 11), .int 0, .int 0, .int 0, .int 0, .int 0, .ref (g 12), .ref (g 13), .int 0, .ref (g 14), .ref (g 15), .long 0, .int 0, .int 0, .int 0, .ref (g 16), .ref (g 17)])), ((g 7), .inl (cI, 35, .inl (fun _ => 0))), ((g 6), .inl (cI, 5, .inl (fun _ => 0)))] := hD
  refine lv_aload_n hx hb dX9_stations_5 rfl (lv_at hl 0 rfl) ?_
  have hPc := hP.sub (ws' := [((g 0), .inr (9, [.int 0, .ref (g 1), .ref (g 2), .ref (g 3), .ref (g 4), .ref (g 5), .int 0, .int 0, .int 0, .int 0, .int 0, .long 0, .int 0, .int 0, .int 0, .int (-1), .ref (g 6), .ref (g 7), .ref (g 8), .ref (g 9), .ref (g 10), .ref (g 11), .int 0, .int 0, .int 0, .int 0, .int 0, .ref (g 12), .ref (g 13), .int 0, .ref (g 14), .ref (g 15), .long 0, .int 0, .int 0, .int 0, .ref (g 16), .ref (g 17)])), ((g 7), .inl (cI, 35, .inl (fun _ => 0))), ((g 6), .inl (cI, 5, .inl (fun _ => 0)))]) [0, 1, 2] rfl
  refine vp_callSi (W.runV (As := []) (rest := []) ⟨hx, hb, hml, hown, ht⟩ (k_X9_isWire l dC dI cB cI cJ cZ cL g) (cwV 0 ht (gV w_1530 w_1532 w_68 w_114 w_1533) rfl rfl rfl (by decide +kernel) ⟨Nat.le_of_ble_eq_true rfl, Nat.le_of_ble_eq_true rfl⟩) (pVS hK hPc (ci := 9) (q0 := 0) rfl rfl) rfl rfl hl.1 rfl (lv_room (Nat.le_of_ble_eq_true rfl)) dX9_stations_6 ⟨Nat.le_of_ble_eq_true rfl, Nat.le_of_ble_eq_true rfl⟩) (fun r_1 hw => ?_)
  subst hw
  refine lv_if_eq (tgt := 19) hx hb dX9_stations_9 (by decide) (fun _ => ?_) (fun c9 => by first | exact absurd (by decide) c9 | exact absurd c9 (by decide))
  refine lv_bipush (v := (-2)) hx hb dX9_stations_19 (by decide) ?_
  refine W.widen (k := 0) (n := 0) (Nat.le_of_ble_eq_true rfl) (Nat.le_of_ble_eq_true rfl) ?_
  exact W.iret (v := (-2)) hx hb hr (fun t ht hW => ⟨⟨(-2), (), rfl, rfl, trivial⟩, hS.F ht⟩) hS.2.2 dX9_stations_21
set_option maxHeartbeats 4000000 in
set_option maxRecDepth 100000 in
theorem k_X9_wets (l : Launch) (dC : Nat → ClassId) (dI : Nat → Nat → Nat) (cB cI cJ cZ cL : ClassId) (sz : Nat) (g : Nat → Nat)  : Met l yX9_wets (wy yX9_wets cX9_wets 1 (some .int)) ({ frames := 1, cells := 0, slots := 0, locals := 40 }) (va_Pc [.ref (g 0)] (fun U => U.heap.size = sz ∧ va_P (dC, dI) vwCl [((g 0), .inr (9, [.int 0, .ref (g 1), .ref (g 2), .ref (g 3), .ref (g 4), .ref (g 5), .int 0, .int 0, .int 0, .int 0, .int 0, .long 0, .int 0, .int 0, .int 0, .int (-1), .ref (g 6), .ref (g 7), .ref (g 8), .ref (g 9), .ref (g 10), .ref (g 11), .int 0, .int 0, .int 0, .int 0, .int 0, .ref (g 12), .ref (g 13), .int 0, .ref (g 14), .ref (g 15), .long 0, .int 0, .int 0, .int 0, .ref (g 16), .ref (g 17)])), ((g 7), .inl (cI, 35, .inl (fun _ => 0))), ((g 6), .inl (cI, 5, .inl (fun _ => 0)))] U.heap ∧ va_K (dC, dI) vwCl (tyL cB cI cJ cZ cL) U ∧ va_D (fun _ => True) [((g 0), .inr (9, [.int 0, .ref (g 1), .ref (g 2), .ref (g 3), .ref (g 4), .ref (g 5), .int 0, .int 0, .int 0, .int 0, .int 0, .long 0, .int 0, .int 0, .int 0, .int (-1), .ref (g 6), .ref (g 7), .ref (g 8), .ref (g 9), .ref (g 10), .ref (g 11), .int 0, .int 0, .int 0, .int 0, .int 0, .ref (g 12), .ref (g 13), .int 0, .ref (g 14), .ref (g 15), .long 0, .int 0, .int 0, .int 0, .ref (g 16), .ref (g 17)])), ((g 7), .inl (cI, 35, .inl (fun _ => 0))), ((g 6), .inl (cI, 5, .inl (fun _ => 0)))])) (va_Qi (fun r _ => r = (-2)) (fun (_ : Unit) _ => True) (va_A [((g 0), .inr (9, [.int 0, .ref (g 1), .ref (g 2), .ref (g 3), .ref (g 4), .ref (g 5), .int 0, .int 0, .int 0, .int 0, .int 0, .long 0, .int 0, .int 0, .int 0, .int (-1), .ref (g 6), .ref (g 7), .ref (g 8), .ref (g 9), .ref (g 10), .ref (g 11), .int 0, .int 0, .int 0, .int 0, .int 0, .ref (g 12), .ref (g 13), .int 0, .ref (g 14), .ref (g 15), .long 0, .int 0, .int 0, .int 0, .ref (g 16), .ref (g 17)])), ((g 7), .inl (cI, 35, .inl (fun _ => 0))), ((g 6), .inl (cI, 5, .inl (fun _ => 0)))] sz)) 0 0 (va_A [((g 0), .inr (9, [.int 0, .ref (g 1), .ref (g 2), .ref (g 3), .ref (g 4), .ref (g 5), .int 0, .int 0, .int 0, .int 0, .int 0, .long 0, .int 0, .int 0, .int 0, .int (-1), .ref (g 6), .ref (g 7), .ref (g 8), .ref (g 9), .ref (g 10), .ref (g 11), .int 0, .int 0, .int 0, .int 0, .int 0, .ref (g 12), .ref (g 13), .int 0, .ref (g 14), .ref (g 15), .long 0, .int 0, .int 0, .int 0, .ref (g 16), .ref (g 17)])), ((g 7), .inl (cI, 35, .inl (fun _ => 0))), ((g 6), .inl (cI, 5, .inl (fun _ => 0)))] sz) := by
  refine Met.ofW (cc := cX9_wets) (maxL := 1) (ret := (some .int)) (by decide) rfl ?_
  intro p e s m args below meth c s₁ B hml hv
  obtain ⟨rfl, hsz, hP, hK, hD0⟩ := hv
  have hx := B.exec
  have hb := B.bytes
  have hr := B.returns
  have ht : ∀ w ∈ lw_ok, w.before _ s = true := fun w h => atoms_spec (ws := wy yX9_wets cX9_wets 1 (some .int)) B.pre w (List.mem_cons_of_mem _ h)
  have hown : s.vm.findClass RX9 = some m.cls := findClass_of_methodNamed B.named
  have hlocks := B.notSynchronized
  subst hsz
  have hD := hD0.self (sz := s.heap.size)
  generalize hAe : va_A [((g 0), .inr (9, [.int 0, .ref (g 1), .ref (g 2), .ref (g 3), .ref (g 4), .ref (g 5), .int 0, .int 0, .int 0, .int 0, .int 0, .long 0, .int 0, .int 0, .int 0, .int (-1), .ref (g 6), .ref (g 7), .ref (g 8), .ref (g 9), .ref (g 10), .ref (g 11), .int 0, .int 0, .int 0, .int 0, .int 0, .ref (g 12), .ref (g 13), .int 0, .ref (g 14), .ref (g 15), .long 0, .int 0, .int 0, .int 0, .ref (g 16), .ref (g 17)])), ((g 7), .inl (cI, 35, .inl (fun _ => 0))), ((g 6), .inl (cI, 5, .inl (fun _ => 0)))] s.heap.size = A at hD ⊢
  have hA : ∀ q : Nat, s.heap.size ≤ q → A q := fun q h => by rw [← hAe]; exact Or.inr h
  have hS : va_S A s.heap s.heap [] := va_S.rf
  have hl := lv_entry ([.ref (g 0)]) (n := 1) (Nat.le_of_ble_eq_true rfl)
  rw [lg_entry_eq]
  generalize (lg_sl ([.ref (g 0)]) ++ List.replicate (1 - (lg_sl ([.ref (g 0)])).length) Slot.unset).toArray = ls at hl ⊢
  have hl : lv_has ls 1 [(0, .ref (g 0))] := hl
  have hP : va_P (dC, dI) vwCl [((g 0), .inr (9, [.int 0, .ref (g 1), .ref (g 2), .ref (g 3), .ref (g 4), .ref (g 5), .int 0, .int 0, .int 0, .int 0, .int 0, .long 0, .int 0, .int 0, .int 0, .int (-1), .ref (g 6), .ref (g 7), .ref (g 8), .ref (g 9), .ref (g 10), .ref (g 11), .int 0, .int 0, .int 0, .int 0, .int 0, .ref (g 12), .ref (g 13), .int 0, .ref (g 14), .ref (g 15), .long 0, .int 0, .int 0, .int 0, .ref (g 16), .ref (g 17)])), ((g 7), .inl (cI, 35, .inl (fun _ => 0))), ((g 6), .inl (cI, 5, .inl (fun _ => 0)))] s.heap := hP
  have hD : va_D A [((g 0), .inr (9, [.int 0, .ref (g 1), .ref (g 2), .ref (g 3), .ref (g 4), .ref (g 5), .int 0, .int 0, .int 0, .int 0, .int 0, .long 0, .int 0, .int 0, .int 0, .int (-1), .ref (g 6), .ref (g 7), .ref (g 8), .ref (g 9), .ref (g 10), .ref (g 11), .int 0, .int 0, .int 0, .int 0, .int 0, .ref (g 12), .ref (g 13), .int 0, .ref (g 14), .ref (g 15), .long 0, .int 0, .int 0, .int 0, .ref (g 16), .ref (g 17)])), ((g 7), .inl (cI, 35, .inl (fun _ => 0))), ((g 6), .inl (cI, 5, .inl (fun _ => 0)))] := hD
  refine lv_aload_n hx hb dX9_wets_0 rfl (lv_at hl 0 rfl) ?_
  refine lv_iconst (v := 0) hx hb dX9_wets_1 (by decide) ?_
  refine va_put (D := (dC, dI)) (ci := 9) (v := .int 0) (ty := .int) (C := RX9) (T := TX9) (N := 38) hx hb ht iX9 tyX9 tyX9_ok nmX9 hown hK hP hD hS 0 rfl rfl 0 (by decide) (ht _ w_1262) (fun _ h9 => h9) rfl (by decide +kernel) rfl rfl (Nat.le_of_ble_eq_true rfl) dX9_wets_2 (fun H locs hP hD hS => ?_)
  have hP : va_P (dC, dI) vwCl [((g 0), .inr (9, [.int 0, .ref (g 1), .ref (g 2), .ref (g 3), .ref (g 4), .ref (g 5), .int 0, .int 0, .int 0, .int 0, .int 0, .long 0, .int 0, .int 0, .int 0, .int (-1), .ref (g 6), .ref (g 7), .ref (g 8), .ref (g 9), .ref (g 10), .ref (g 11), .int 0, .int 0, .int 0, .int 0, .int 0, .ref (g 12), .ref (g 13), .int 0, .ref (g 14), .ref (g 15), .long 0, .int 0, .int 0, .int 0, .ref (g 16), .ref (g 17)])), ((g 7), .inl (cI, 35, .inl (fun _ => 0))), ((g 6), .inl (cI, 5, .inl (fun _ => 0)))] H := hP
  have hD : va_D A [((g 0), .inr (9, [.int 0, .ref (g 1), .ref (g 2), .ref (g 3), .ref (g 4), .ref (g 5), .int 0, .int 0, .int 0, .int 0, .int 0, .long 0, .int 0, .int 0, .int 0, .int (-1), .ref (g 6), .ref (g 7), .ref (g 8), .ref (g 9), .ref (g 10), .ref (g 11), .int 0, .int 0, .int 0, .int 0, .int 0, .ref (g 12), .ref (g 13), .int 0, .ref (g 14), .ref (g 15), .long 0, .int 0, .int 0, .int 0, .ref (g 16), .ref (g 17)])), ((g 7), .inl (cI, 35, .inl (fun _ => 0))), ((g 6), .inl (cI, 5, .inl (fun _ => 0)))] := hD
  refine lv_aload_n hx hb dX9_wets_5 rfl (lv_at hl 0 rfl) ?_
  have hPc := hP.sub (ws' := [((g 0), .inr (9, [.int 0, .ref (g 1), .ref (g 2), .ref (g 3), .ref (g 4), .ref (g 5), .int 0, .int 0, .int 0, .int 0, .int 0, .long 0, .int 0, .int 0, .int 0, .int (-1), .ref (g 6), .ref (g 7), .ref (g 8), .ref (g 9), .ref (g 10), .ref (g 11), .int 0, .int 0, .int 0, .int 0, .int 0, .ref (g 12), .ref (g 13), .int 0, .ref (g 14), .ref (g 15), .long 0, .int 0, .int 0, .int 0, .ref (g 16), .ref (g 17)])), ((g 7), .inl (cI, 35, .inl (fun _ => 0))), ((g 6), .inl (cI, 5, .inl (fun _ => 0)))]) [0, 1, 2] rfl
  refine vp_callSi (W.runV (As := []) (rest := []) ⟨hx, hb, hml, hown, ht⟩ (k_X9_isWire l dC dI cB cI cJ cZ cL g) (cwV 0 ht (gV w_1530 w_1532 w_68 w_114 w_1533) rfl rfl rfl (by decide +kernel) ⟨Nat.le_of_ble_eq_true rfl, Nat.le_of_ble_eq_true rfl⟩) (pVS hK hPc (ci := 9) (q0 := 0) rfl rfl) rfl rfl hl.1 rfl (lv_room (Nat.le_of_ble_eq_true rfl)) dX9_wets_6 ⟨Nat.le_of_ble_eq_true rfl, Nat.le_of_ble_eq_true rfl⟩) (fun r_1 hw => ?_)
  subst hw
  refine lv_if_ne (tgt := 15) hx hb dX9_wets_9 (by decide) (fun c9 => by first | exact absurd c9 (by decide) | exact absurd (by decide) c9) (fun _ => ?_)
  refine lv_bipush (v := (-2)) hx hb dX9_wets_12 (by decide) ?_
  refine W.widen (k := 0) (n := 0) (Nat.le_of_ble_eq_true rfl) (Nat.le_of_ble_eq_true rfl) ?_
  exact W.iret (v := (-2)) hx hb hr (fun t ht hW => ⟨⟨(-2), (), rfl, rfl, trivial⟩, hS.F ht⟩) hS.2.2 dX9_wets_14
set_option maxHeartbeats 4000000 in
set_option maxRecDepth 100000 in
theorem k_X9_leak (l : Launch) (dC : Nat → ClassId) (dI : Nat → Nat → Nat) (cB cI cJ cZ cL : ClassId) (sz : Nat) (g : Nat → Nat) (p0 : Int32) (p1 : Int32) : Met l yX9_leak (wy yX9_leak cX9_leak 3 (some .int)) ({ frames := 2, cells := 0, slots := 0, locals := 80 }) (va_Pc [.ref (g 0), .int p0, .int p1] (fun U => U.heap.size = sz ∧ va_P (dC, dI) vwCl [((g 0), .inr (9, [.int 0, .ref (g 1), .ref (g 2), .ref (g 3), .ref (g 4), .ref (g 5), .int 0, .int 0, .int 0, .int 0, .int 0, .long 0, .int 0, .int 0, .int 0, .int (-1), .ref (g 6), .ref (g 7), .ref (g 8), .ref (g 9), .ref (g 10), .ref (g 11), .int 0, .int 0, .int 0, .int 0, .int 0, .ref (g 12), .ref (g 13), .int 0, .ref (g 14), .ref (g 15), .long 0, .int 0, .int 0, .int 0, .ref (g 16), .ref (g 17)])), ((g 7), .inl (cI, 35, .inl (fun _ => 0))), ((g 6), .inl (cI, 5, .inl (fun _ => 0)))] U.heap ∧ va_K (dC, dI) vwCl (tyL cB cI cJ cZ cL) U ∧ va_D (fun _ => True) [((g 0), .inr (9, [.int 0, .ref (g 1), .ref (g 2), .ref (g 3), .ref (g 4), .ref (g 5), .int 0, .int 0, .int 0, .int 0, .int 0, .long 0, .int 0, .int 0, .int 0, .int (-1), .ref (g 6), .ref (g 7), .ref (g 8), .ref (g 9), .ref (g 10), .ref (g 11), .int 0, .int 0, .int 0, .int 0, .int 0, .ref (g 12), .ref (g 13), .int 0, .ref (g 14), .ref (g 15), .long 0, .int 0, .int 0, .int 0, .ref (g 16), .ref (g 17)])), ((g 7), .inl (cI, 35, .inl (fun _ => 0))), ((g 6), .inl (cI, 5, .inl (fun _ => 0)))])) (va_Qi (fun r _ => r = (-2)) (fun (_ : Unit) _ => True) (va_A [((g 0), .inr (9, [.int 0, .ref (g 1), .ref (g 2), .ref (g 3), .ref (g 4), .ref (g 5), .int 0, .int 0, .int 0, .int 0, .int 0, .long 0, .int 0, .int 0, .int 0, .int (-1), .ref (g 6), .ref (g 7), .ref (g 8), .ref (g 9), .ref (g 10), .ref (g 11), .int 0, .int 0, .int 0, .int 0, .int 0, .ref (g 12), .ref (g 13), .int 0, .ref (g 14), .ref (g 15), .long 0, .int 0, .int 0, .int 0, .ref (g 16), .ref (g 17)])), ((g 7), .inl (cI, 35, .inl (fun _ => 0))), ((g 6), .inl (cI, 5, .inl (fun _ => 0)))] sz)) 0 0 (va_A [((g 0), .inr (9, [.int 0, .ref (g 1), .ref (g 2), .ref (g 3), .ref (g 4), .ref (g 5), .int 0, .int 0, .int 0, .int 0, .int 0, .long 0, .int 0, .int 0, .int 0, .int (-1), .ref (g 6), .ref (g 7), .ref (g 8), .ref (g 9), .ref (g 10), .ref (g 11), .int 0, .int 0, .int 0, .int 0, .int 0, .ref (g 12), .ref (g 13), .int 0, .ref (g 14), .ref (g 15), .long 0, .int 0, .int 0, .int 0, .ref (g 16), .ref (g 17)])), ((g 7), .inl (cI, 35, .inl (fun _ => 0))), ((g 6), .inl (cI, 5, .inl (fun _ => 0)))] sz) := by
  refine Met.ofW (cc := cX9_leak) (maxL := 3) (ret := (some .int)) (by decide) rfl ?_
  intro p e s m args below meth c s₁ B hml hv
  obtain ⟨rfl, hsz, hP, hK, hD0⟩ := hv
  have hx := B.exec
  have hb := B.bytes
  have hr := B.returns
  have ht : ∀ w ∈ lw_ok, w.before _ s = true := fun w h => atoms_spec (ws := wy yX9_leak cX9_leak 3 (some .int)) B.pre w (List.mem_cons_of_mem _ h)
  have hown : s.vm.findClass RX9 = some m.cls := findClass_of_methodNamed B.named
  have hlocks := B.notSynchronized
  subst hsz
  have hD := hD0.self (sz := s.heap.size)
  generalize hAe : va_A [((g 0), .inr (9, [.int 0, .ref (g 1), .ref (g 2), .ref (g 3), .ref (g 4), .ref (g 5), .int 0, .int 0, .int 0, .int 0, .int 0, .long 0, .int 0, .int 0, .int 0, .int (-1), .ref (g 6), .ref (g 7), .ref (g 8), .ref (g 9), .ref (g 10), .ref (g 11), .int 0, .int 0, .int 0, .int 0, .int 0, .ref (g 12), .ref (g 13), .int 0, .ref (g 14), .ref (g 15), .long 0, .int 0, .int 0, .int 0, .ref (g 16), .ref (g 17)])), ((g 7), .inl (cI, 35, .inl (fun _ => 0))), ((g 6), .inl (cI, 5, .inl (fun _ => 0)))] s.heap.size = A at hD ⊢
  have hA : ∀ q : Nat, s.heap.size ≤ q → A q := fun q h => by rw [← hAe]; exact Or.inr h
  have hS : va_S A s.heap s.heap [] := va_S.rf
  have hl := lv_entry ([.ref (g 0), .int p0, .int p1]) (n := 3) (Nat.le_of_ble_eq_true rfl)
  rw [lg_entry_eq]
  generalize (lg_sl ([.ref (g 0), .int p0, .int p1]) ++ List.replicate (3 - (lg_sl ([.ref (g 0), .int p0, .int p1])).length) Slot.unset).toArray = ls at hl ⊢
  have hl : lv_has ls 3 [(0, .ref (g 0)), (1, .int p0), (2, .int p1)] := hl
  have hP : va_P (dC, dI) vwCl [((g 0), .inr (9, [.int 0, .ref (g 1), .ref (g 2), .ref (g 3), .ref (g 4), .ref (g 5), .int 0, .int 0, .int 0, .int 0, .int 0, .long 0, .int 0, .int 0, .int 0, .int (-1), .ref (g 6), .ref (g 7), .ref (g 8), .ref (g 9), .ref (g 10), .ref (g 11), .int 0, .int 0, .int 0, .int 0, .int 0, .ref (g 12), .ref (g 13), .int 0, .ref (g 14), .ref (g 15), .long 0, .int 0, .int 0, .int 0, .ref (g 16), .ref (g 17)])), ((g 7), .inl (cI, 35, .inl (fun _ => 0))), ((g 6), .inl (cI, 5, .inl (fun _ => 0)))] s.heap := hP
  have hD : va_D A [((g 0), .inr (9, [.int 0, .ref (g 1), .ref (g 2), .ref (g 3), .ref (g 4), .ref (g 5), .int 0, .int 0, .int 0, .int 0, .int 0, .long 0, .int 0, .int 0, .int 0, .int (-1), .ref (g 6), .ref (g 7), .ref (g 8), .ref (g 9), .ref (g 10), .ref (g 11), .int 0, .int 0, .int 0, .int 0, .int 0, .ref (g 12), .ref (g 13), .int 0, .ref (g 14), .ref (g 15), .long 0, .int 0, .int 0, .int 0, .ref (g 16), .ref (g 17)])), ((g 7), .inl (cI, 35, .inl (fun _ => 0))), ((g 6), .inl (cI, 5, .inl (fun _ => 0)))] := hD
  refine lv_aload_n hx hb dX9_leak_0 rfl (lv_at hl 0 rfl) ?_
  refine lv_iconst (v := 0) hx hb dX9_leak_1 (by decide) ?_
  refine va_put (D := (dC, dI)) (ci := 9) (v := .int 0) (ty := .int) (C := RX9) (T := TX9) (N := 38) hx hb ht iX9 tyX9 tyX9_ok nmX9 hown hK hP hD hS 0 rfl rfl 0 (by decide) (ht _ w_1262) (fun _ h9 => h9) rfl (by decide +kernel) rfl rfl (Nat.le_of_ble_eq_true rfl) dX9_leak_2 (fun H locs hP hD hS => ?_)
  have hP : va_P (dC, dI) vwCl [((g 0), .inr (9, [.int 0, .ref (g 1), .ref (g 2), .ref (g 3), .ref (g 4), .ref (g 5), .int 0, .int 0, .int 0, .int 0, .int 0, .long 0, .int 0, .int 0, .int 0, .int (-1), .ref (g 6), .ref (g 7), .ref (g 8), .ref (g 9), .ref (g 10), .ref (g 11), .int 0, .int 0, .int 0, .int 0, .int 0, .ref (g 12), .ref (g 13), .int 0, .ref (g 14), .ref (g 15), .long 0, .int 0, .int 0, .int 0, .ref (g 16), .ref (g 17)])), ((g 7), .inl (cI, 35, .inl (fun _ => 0))), ((g 6), .inl (cI, 5, .inl (fun _ => 0)))] H := hP
  have hD : va_D A [((g 0), .inr (9, [.int 0, .ref (g 1), .ref (g 2), .ref (g 3), .ref (g 4), .ref (g 5), .int 0, .int 0, .int 0, .int 0, .int 0, .long 0, .int 0, .int 0, .int 0, .int (-1), .ref (g 6), .ref (g 7), .ref (g 8), .ref (g 9), .ref (g 10), .ref (g 11), .int 0, .int 0, .int 0, .int 0, .int 0, .ref (g 12), .ref (g 13), .int 0, .ref (g 14), .ref (g 15), .long 0, .int 0, .int 0, .int 0, .ref (g 16), .ref (g 17)])), ((g 7), .inl (cI, 35, .inl (fun _ => 0))), ((g 6), .inl (cI, 5, .inl (fun _ => 0)))] := hD
  refine lv_aload_n hx hb dX9_leak_5 rfl (lv_at hl 0 rfl) ?_
  refine lv_iload_n hx hb dX9_leak_6 rfl (lv_at hl 1 rfl) ?_
  have hPc := hP.sub (ws' := [((g 0), .inr (9, [.int 0, .ref (g 1), .ref (g 2), .ref (g 3), .ref (g 4), .ref (g 5), .int 0, .int 0, .int 0, .int 0, .int 0, .long 0, .int 0, .int 0, .int 0, .int (-1), .ref (g 6), .ref (g 7), .ref (g 8), .ref (g 9), .ref (g 10), .ref (g 11), .int 0, .int 0, .int 0, .int 0, .int 0, .ref (g 12), .ref (g 13), .int 0, .ref (g 14), .ref (g 15), .long 0, .int 0, .int 0, .int 0, .ref (g 16), .ref (g 17)])), ((g 7), .inl (cI, 35, .inl (fun _ => 0))), ((g 6), .inl (cI, 5, .inl (fun _ => 0)))]) [0, 1, 2] rfl
  refine vp_callSi (W.runV (As := [.int p0]) (rest := []) ⟨hx, hb, hml, hown, ht⟩ (k_X9_isSpan l dC dI cB cI cJ cZ cL g p0) (cwV 1 ht (gV w_1517 w_1519 w_66 w_114 w_1520) rfl rfl rfl (by decide +kernel) ⟨Nat.le_of_ble_eq_true rfl, Nat.le_of_ble_eq_true rfl⟩) (pVS hK hPc (ci := 9) (q0 := 0) rfl rfl) rfl rfl hl.1 rfl (lv_room (Nat.le_of_ble_eq_true rfl)) dX9_leak_7 ⟨Nat.le_of_ble_eq_true rfl, Nat.le_of_ble_eq_true rfl⟩) (fun r_1 hw => ?_)
  subst hw
  refine lv_if_eq (tgt := 22) hx hb dX9_leak_10 (by decide) (fun _ => ?_) (fun c9 => by first | exact absurd (by decide) c9 | exact absurd c9 (by decide))
  refine lv_bipush (v := (-2)) hx hb dX9_leak_22 (by decide) ?_
  refine W.widen (k := 0) (n := 0) (Nat.le_of_ble_eq_true rfl) (Nat.le_of_ble_eq_true rfl) ?_
  exact W.iret (v := (-2)) hx hb hr (fun t ht hW => ⟨⟨(-2), (), rfl, rfl, trivial⟩, hS.F ht⟩) hS.2.2 dX9_leak_24
set_option maxHeartbeats 4000000 in
set_option maxRecDepth 100000 in
theorem k_X9_joined (l : Launch) (dC : Nat → ClassId) (dI : Nat → Nat → Nat) (cB cI cJ cZ cL : ClassId) (sz : Nat) (g : Nat → Nat) (p0 : Int32) : Met l yX9_joined (wy yX9_joined cX9_joined 2 (some .int)) ({ frames := 2, cells := 0, slots := 0, locals := 80 }) (va_Pc [.ref (g 0), .int p0] (fun U => U.heap.size = sz ∧ va_P (dC, dI) vwCl [((g 0), .inr (9, [.int 0, .ref (g 1), .ref (g 2), .ref (g 3), .ref (g 4), .ref (g 5), .int 0, .int 0, .int 0, .int 0, .int 0, .long 0, .int 0, .int 0, .int 0, .int (-1), .ref (g 6), .ref (g 7), .ref (g 8), .ref (g 9), .ref (g 10), .ref (g 11), .int 0, .int 0, .int 0, .int 0, .int 0, .ref (g 12), .ref (g 13), .int 0, .ref (g 14), .ref (g 15), .long 0, .int 0, .int 0, .int 0, .ref (g 16), .ref (g 17)])), ((g 7), .inl (cI, 35, .inl (fun _ => 0))), ((g 6), .inl (cI, 5, .inl (fun _ => 0)))] U.heap ∧ va_K (dC, dI) vwCl (tyL cB cI cJ cZ cL) U ∧ va_D (fun _ => True) [((g 0), .inr (9, [.int 0, .ref (g 1), .ref (g 2), .ref (g 3), .ref (g 4), .ref (g 5), .int 0, .int 0, .int 0, .int 0, .int 0, .long 0, .int 0, .int 0, .int 0, .int (-1), .ref (g 6), .ref (g 7), .ref (g 8), .ref (g 9), .ref (g 10), .ref (g 11), .int 0, .int 0, .int 0, .int 0, .int 0, .ref (g 12), .ref (g 13), .int 0, .ref (g 14), .ref (g 15), .long 0, .int 0, .int 0, .int 0, .ref (g 16), .ref (g 17)])), ((g 7), .inl (cI, 35, .inl (fun _ => 0))), ((g 6), .inl (cI, 5, .inl (fun _ => 0)))])) (va_Qi (fun r _ => r = (-2)) (fun (_ : Unit) _ => True) (va_A [((g 0), .inr (9, [.int 0, .ref (g 1), .ref (g 2), .ref (g 3), .ref (g 4), .ref (g 5), .int 0, .int 0, .int 0, .int 0, .int 0, .long 0, .int 0, .int 0, .int 0, .int (-1), .ref (g 6), .ref (g 7), .ref (g 8), .ref (g 9), .ref (g 10), .ref (g 11), .int 0, .int 0, .int 0, .int 0, .int 0, .ref (g 12), .ref (g 13), .int 0, .ref (g 14), .ref (g 15), .long 0, .int 0, .int 0, .int 0, .ref (g 16), .ref (g 17)])), ((g 7), .inl (cI, 35, .inl (fun _ => 0))), ((g 6), .inl (cI, 5, .inl (fun _ => 0)))] sz)) 0 0 (va_A [((g 0), .inr (9, [.int 0, .ref (g 1), .ref (g 2), .ref (g 3), .ref (g 4), .ref (g 5), .int 0, .int 0, .int 0, .int 0, .int 0, .long 0, .int 0, .int 0, .int 0, .int (-1), .ref (g 6), .ref (g 7), .ref (g 8), .ref (g 9), .ref (g 10), .ref (g 11), .int 0, .int 0, .int 0, .int 0, .int 0, .ref (g 12), .ref (g 13), .int 0, .ref (g 14), .ref (g 15), .long 0, .int 0, .int 0, .int 0, .ref (g 16), .ref (g 17)])), ((g 7), .inl (cI, 35, .inl (fun _ => 0))), ((g 6), .inl (cI, 5, .inl (fun _ => 0)))] sz) := by
  refine Met.ofW (cc := cX9_joined) (maxL := 2) (ret := (some .int)) (by decide) rfl ?_
  intro p e s m args below meth c s₁ B hml hv
  obtain ⟨rfl, hsz, hP, hK, hD0⟩ := hv
  have hx := B.exec
  have hb := B.bytes
  have hr := B.returns
  have ht : ∀ w ∈ lw_ok, w.before _ s = true := fun w h => atoms_spec (ws := wy yX9_joined cX9_joined 2 (some .int)) B.pre w (List.mem_cons_of_mem _ h)
  have hown : s.vm.findClass RX9 = some m.cls := findClass_of_methodNamed B.named
  have hlocks := B.notSynchronized
  subst hsz
  have hD := hD0.self (sz := s.heap.size)
  generalize hAe : va_A [((g 0), .inr (9, [.int 0, .ref (g 1), .ref (g 2), .ref (g 3), .ref (g 4), .ref (g 5), .int 0, .int 0, .int 0, .int 0, .int 0, .long 0, .int 0, .int 0, .int 0, .int (-1), .ref (g 6), .ref (g 7), .ref (g 8), .ref (g 9), .ref (g 10), .ref (g 11), .int 0, .int 0, .int 0, .int 0, .int 0, .ref (g 12), .ref (g 13), .int 0, .ref (g 14), .ref (g 15), .long 0, .int 0, .int 0, .int 0, .ref (g 16), .ref (g 17)])), ((g 7), .inl (cI, 35, .inl (fun _ => 0))), ((g 6), .inl (cI, 5, .inl (fun _ => 0)))] s.heap.size = A at hD ⊢
  have hA : ∀ q : Nat, s.heap.size ≤ q → A q := fun q h => by rw [← hAe]; exact Or.inr h
  have hS : va_S A s.heap s.heap [] := va_S.rf
  have hl := lv_entry ([.ref (g 0), .int p0]) (n := 2) (Nat.le_of_ble_eq_true rfl)
  rw [lg_entry_eq]
  generalize (lg_sl ([.ref (g 0), .int p0]) ++ List.replicate (2 - (lg_sl ([.ref (g 0), .int p0])).length) Slot.unset).toArray = ls at hl ⊢
  have hl : lv_has ls 2 [(0, .ref (g 0)), (1, .int p0)] := hl
  have hP : va_P (dC, dI) vwCl [((g 0), .inr (9, [.int 0, .ref (g 1), .ref (g 2), .ref (g 3), .ref (g 4), .ref (g 5), .int 0, .int 0, .int 0, .int 0, .int 0, .long 0, .int 0, .int 0, .int 0, .int (-1), .ref (g 6), .ref (g 7), .ref (g 8), .ref (g 9), .ref (g 10), .ref (g 11), .int 0, .int 0, .int 0, .int 0, .int 0, .ref (g 12), .ref (g 13), .int 0, .ref (g 14), .ref (g 15), .long 0, .int 0, .int 0, .int 0, .ref (g 16), .ref (g 17)])), ((g 7), .inl (cI, 35, .inl (fun _ => 0))), ((g 6), .inl (cI, 5, .inl (fun _ => 0)))] s.heap := hP
  have hD : va_D A [((g 0), .inr (9, [.int 0, .ref (g 1), .ref (g 2), .ref (g 3), .ref (g 4), .ref (g 5), .int 0, .int 0, .int 0, .int 0, .int 0, .long 0, .int 0, .int 0, .int 0, .int (-1), .ref (g 6), .ref (g 7), .ref (g 8), .ref (g 9), .ref (g 10), .ref (g 11), .int 0, .int 0, .int 0, .int 0, .int 0, .ref (g 12), .ref (g 13), .int 0, .ref (g 14), .ref (g 15), .long 0, .int 0, .int 0, .int 0, .ref (g 16), .ref (g 17)])), ((g 7), .inl (cI, 35, .inl (fun _ => 0))), ((g 6), .inl (cI, 5, .inl (fun _ => 0)))] := hD
  refine lv_aload_n hx hb dX9_joined_0 rfl (lv_at hl 0 rfl) ?_
  refine lv_iconst (v := 0) hx hb dX9_joined_1 (by decide) ?_
  refine va_put (D := (dC, dI)) (ci := 9) (v := .int 0) (ty := .int) (C := RX9) (T := TX9) (N := 38) hx hb ht iX9 tyX9 tyX9_ok nmX9 hown hK hP hD hS 0 rfl rfl 0 (by decide) (ht _ w_1262) (fun _ h9 => h9) rfl (by decide +kernel) rfl rfl (Nat.le_of_ble_eq_true rfl) dX9_joined_2 (fun H locs hP hD hS => ?_)
  have hP : va_P (dC, dI) vwCl [((g 0), .inr (9, [.int 0, .ref (g 1), .ref (g 2), .ref (g 3), .ref (g 4), .ref (g 5), .int 0, .int 0, .int 0, .int 0, .int 0, .long 0, .int 0, .int 0, .int 0, .int (-1), .ref (g 6), .ref (g 7), .ref (g 8), .ref (g 9), .ref (g 10), .ref (g 11), .int 0, .int 0, .int 0, .int 0, .int 0, .ref (g 12), .ref (g 13), .int 0, .ref (g 14), .ref (g 15), .long 0, .int 0, .int 0, .int 0, .ref (g 16), .ref (g 17)])), ((g 7), .inl (cI, 35, .inl (fun _ => 0))), ((g 6), .inl (cI, 5, .inl (fun _ => 0)))] H := hP
  have hD : va_D A [((g 0), .inr (9, [.int 0, .ref (g 1), .ref (g 2), .ref (g 3), .ref (g 4), .ref (g 5), .int 0, .int 0, .int 0, .int 0, .int 0, .long 0, .int 0, .int 0, .int 0, .int (-1), .ref (g 6), .ref (g 7), .ref (g 8), .ref (g 9), .ref (g 10), .ref (g 11), .int 0, .int 0, .int 0, .int 0, .int 0, .ref (g 12), .ref (g 13), .int 0, .ref (g 14), .ref (g 15), .long 0, .int 0, .int 0, .int 0, .ref (g 16), .ref (g 17)])), ((g 7), .inl (cI, 35, .inl (fun _ => 0))), ((g 6), .inl (cI, 5, .inl (fun _ => 0)))] := hD
  refine lv_aload_n hx hb dX9_joined_5 rfl (lv_at hl 0 rfl) ?_
  refine lv_iload_n hx hb dX9_joined_6 rfl (lv_at hl 1 rfl) ?_
  refine lv_i2l (v := (Int32.toInt64 p0)) hx hb dX9_joined_7 (by first | rfl | decide) ?_
  have hPc := hP.sub (ws' := [((g 0), .inr (9, [.int 0, .ref (g 1), .ref (g 2), .ref (g 3), .ref (g 4), .ref (g 5), .int 0, .int 0, .int 0, .int 0, .int 0, .long 0, .int 0, .int 0, .int 0, .int (-1), .ref (g 6), .ref (g 7), .ref (g 8), .ref (g 9), .ref (g 10), .ref (g 11), .int 0, .int 0, .int 0, .int 0, .int 0, .ref (g 12), .ref (g 13), .int 0, .ref (g 14), .ref (g 15), .long 0, .int 0, .int 0, .int 0, .ref (g 16), .ref (g 17)])), ((g 7), .inl (cI, 35, .inl (fun _ => 0))), ((g 6), .inl (cI, 5, .inl (fun _ => 0)))]) [0, 1, 2] rfl
  refine vp_callSi (W.runV (As := [.long (Int32.toInt64 p0)]) (rest := []) ⟨hx, hb, hml, hown, ht⟩ (k_X9_isDay l dC dI cB cI cJ cZ cL g (Int32.toInt64 p0)) (cwV 1 ht (gV w_1558 w_1560 w_73 w_114 w_1561) rfl rfl rfl (by decide +kernel) ⟨Nat.le_of_ble_eq_true rfl, Nat.le_of_ble_eq_true rfl⟩) (pVS hK hPc (ci := 9) (q0 := 0) rfl rfl) rfl rfl hl.1 rfl (lv_room (Nat.le_of_ble_eq_true rfl)) dX9_joined_8 ⟨Nat.le_of_ble_eq_true rfl, Nat.le_of_ble_eq_true rfl⟩) (fun r_1 hw => ?_)
  subst hw
  refine lv_if_ne (tgt := 17) hx hb dX9_joined_11 (by decide) (fun c9 => by first | exact absurd c9 (by decide) | exact absurd (by decide) c9) (fun _ => ?_)
  refine lv_bipush (v := (-2)) hx hb dX9_joined_14 (by decide) ?_
  refine W.widen (k := 0) (n := 0) (Nat.le_of_ble_eq_true rfl) (Nat.le_of_ble_eq_true rfl) ?_
  exact W.iret (v := (-2)) hx hb hr (fun t ht hW => ⟨⟨(-2), (), rfl, rfl, trivial⟩, hS.F ht⟩) hS.2.2 dX9_joined_16
set_option maxHeartbeats 4000000 in
set_option maxRecDepth 100000 in
theorem k_X9_ohms (l : Launch) (dC : Nat → ClassId) (dI : Nat → Nat → Nat) (cB cI cJ cZ cL : ClassId) (sz : Nat) (g : Nat → Nat) (p0 : Int32) (p1 : Int32) : Met l yX9_ohms (wy yX9_ohms cX9_ohms 3 (some .long)) ({ frames := 2, cells := 0, slots := 0, locals := 80 }) (va_Pc [.ref (g 0), .int p0, .int p1] (fun U => U.heap.size = sz ∧ va_P (dC, dI) vwCl [((g 0), .inr (9, [.int 0, .ref (g 1), .ref (g 2), .ref (g 3), .ref (g 4), .ref (g 5), .int 0, .int 0, .int 0, .int 0, .int 0, .long 0, .int 0, .int 0, .int 0, .int (-1), .ref (g 6), .ref (g 7), .ref (g 8), .ref (g 9), .ref (g 10), .ref (g 11), .int 0, .int 0, .int 0, .int 0, .int 0, .ref (g 12), .ref (g 13), .int 0, .ref (g 14), .ref (g 15), .long 0, .int 0, .int 0, .int 0, .ref (g 16), .ref (g 17)])), ((g 7), .inl (cI, 35, .inl (fun _ => 0))), ((g 6), .inl (cI, 5, .inl (fun _ => 0)))] U.heap ∧ va_K (dC, dI) vwCl (tyL cB cI cJ cZ cL) U ∧ va_D (fun _ => True) [((g 0), .inr (9, [.int 0, .ref (g 1), .ref (g 2), .ref (g 3), .ref (g 4), .ref (g 5), .int 0, .int 0, .int 0, .int 0, .int 0, .long 0, .int 0, .int 0, .int 0, .int (-1), .ref (g 6), .ref (g 7), .ref (g 8), .ref (g 9), .ref (g 10), .ref (g 11), .int 0, .int 0, .int 0, .int 0, .int 0, .ref (g 12), .ref (g 13), .int 0, .ref (g 14), .ref (g 15), .long 0, .int 0, .int 0, .int 0, .ref (g 16), .ref (g 17)])), ((g 7), .inl (cI, 35, .inl (fun _ => 0))), ((g 6), .inl (cI, 5, .inl (fun _ => 0)))])) (va_Ql (fun r _ => r = (-2)) (fun (_ : Unit) _ => True) (va_A [((g 0), .inr (9, [.int 0, .ref (g 1), .ref (g 2), .ref (g 3), .ref (g 4), .ref (g 5), .int 0, .int 0, .int 0, .int 0, .int 0, .long 0, .int 0, .int 0, .int 0, .int (-1), .ref (g 6), .ref (g 7), .ref (g 8), .ref (g 9), .ref (g 10), .ref (g 11), .int 0, .int 0, .int 0, .int 0, .int 0, .ref (g 12), .ref (g 13), .int 0, .ref (g 14), .ref (g 15), .long 0, .int 0, .int 0, .int 0, .ref (g 16), .ref (g 17)])), ((g 7), .inl (cI, 35, .inl (fun _ => 0))), ((g 6), .inl (cI, 5, .inl (fun _ => 0)))] sz)) 0 0 (va_A [((g 0), .inr (9, [.int 0, .ref (g 1), .ref (g 2), .ref (g 3), .ref (g 4), .ref (g 5), .int 0, .int 0, .int 0, .int 0, .int 0, .long 0, .int 0, .int 0, .int 0, .int (-1), .ref (g 6), .ref (g 7), .ref (g 8), .ref (g 9), .ref (g 10), .ref (g 11), .int 0, .int 0, .int 0, .int 0, .int 0, .ref (g 12), .ref (g 13), .int 0, .ref (g 14), .ref (g 15), .long 0, .int 0, .int 0, .int 0, .ref (g 16), .ref (g 17)])), ((g 7), .inl (cI, 35, .inl (fun _ => 0))), ((g 6), .inl (cI, 5, .inl (fun _ => 0)))] sz) := by
  refine Met.ofW (cc := cX9_ohms) (maxL := 3) (ret := (some .long)) (by decide) rfl ?_
  intro p e s m args below meth c s₁ B hml hv
  obtain ⟨rfl, hsz, hP, hK, hD0⟩ := hv
  have hx := B.exec
  have hb := B.bytes
  have hr := B.returns
  have ht : ∀ w ∈ lw_ok, w.before _ s = true := fun w h => atoms_spec (ws := wy yX9_ohms cX9_ohms 3 (some .long)) B.pre w (List.mem_cons_of_mem _ h)
  have hown : s.vm.findClass RX9 = some m.cls := findClass_of_methodNamed B.named
  have hlocks := B.notSynchronized
  subst hsz
  have hD := hD0.self (sz := s.heap.size)
  generalize hAe : va_A [((g 0), .inr (9, [.int 0, .ref (g 1), .ref (g 2), .ref (g 3), .ref (g 4), .ref (g 5), .int 0, .int 0, .int 0, .int 0, .int 0, .long 0, .int 0, .int 0, .int 0, .int (-1), .ref (g 6), .ref (g 7), .ref (g 8), .ref (g 9), .ref (g 10), .ref (g 11), .int 0, .int 0, .int 0, .int 0, .int 0, .ref (g 12), .ref (g 13), .int 0, .ref (g 14), .ref (g 15), .long 0, .int 0, .int 0, .int 0, .ref (g 16), .ref (g 17)])), ((g 7), .inl (cI, 35, .inl (fun _ => 0))), ((g 6), .inl (cI, 5, .inl (fun _ => 0)))] s.heap.size = A at hD ⊢
  have hA : ∀ q : Nat, s.heap.size ≤ q → A q := fun q h => by rw [← hAe]; exact Or.inr h
  have hS : va_S A s.heap s.heap [] := va_S.rf
  have hl := lv_entry ([.ref (g 0), .int p0, .int p1]) (n := 3) (Nat.le_of_ble_eq_true rfl)
  rw [lg_entry_eq]
  generalize (lg_sl ([.ref (g 0), .int p0, .int p1]) ++ List.replicate (3 - (lg_sl ([.ref (g 0), .int p0, .int p1])).length) Slot.unset).toArray = ls at hl ⊢
  have hl : lv_has ls 3 [(0, .ref (g 0)), (1, .int p0), (2, .int p1)] := hl
  have hP : va_P (dC, dI) vwCl [((g 0), .inr (9, [.int 0, .ref (g 1), .ref (g 2), .ref (g 3), .ref (g 4), .ref (g 5), .int 0, .int 0, .int 0, .int 0, .int 0, .long 0, .int 0, .int 0, .int 0, .int (-1), .ref (g 6), .ref (g 7), .ref (g 8), .ref (g 9), .ref (g 10), .ref (g 11), .int 0, .int 0, .int 0, .int 0, .int 0, .ref (g 12), .ref (g 13), .int 0, .ref (g 14), .ref (g 15), .long 0, .int 0, .int 0, .int 0, .ref (g 16), .ref (g 17)])), ((g 7), .inl (cI, 35, .inl (fun _ => 0))), ((g 6), .inl (cI, 5, .inl (fun _ => 0)))] s.heap := hP
  have hD : va_D A [((g 0), .inr (9, [.int 0, .ref (g 1), .ref (g 2), .ref (g 3), .ref (g 4), .ref (g 5), .int 0, .int 0, .int 0, .int 0, .int 0, .long 0, .int 0, .int 0, .int 0, .int (-1), .ref (g 6), .ref (g 7), .ref (g 8), .ref (g 9), .ref (g 10), .ref (g 11), .int 0, .int 0, .int 0, .int 0, .int 0, .ref (g 12), .ref (g 13), .int 0, .ref (g 14), .ref (g 15), .long 0, .int 0, .int 0, .int 0, .ref (g 16), .ref (g 17)])), ((g 7), .inl (cI, 35, .inl (fun _ => 0))), ((g 6), .inl (cI, 5, .inl (fun _ => 0)))] := hD
  refine lv_aload_n hx hb dX9_ohms_0 rfl (lv_at hl 0 rfl) ?_
  refine lv_iconst (v := 0) hx hb dX9_ohms_1 (by decide) ?_
  refine va_put (D := (dC, dI)) (ci := 9) (v := .int 0) (ty := .int) (C := RX9) (T := TX9) (N := 38) hx hb ht iX9 tyX9 tyX9_ok nmX9 hown hK hP hD hS 0 rfl rfl 0 (by decide) (ht _ w_1262) (fun _ h9 => h9) rfl (by decide +kernel) rfl rfl (Nat.le_of_ble_eq_true rfl) dX9_ohms_2 (fun H locs hP hD hS => ?_)
  have hP : va_P (dC, dI) vwCl [((g 0), .inr (9, [.int 0, .ref (g 1), .ref (g 2), .ref (g 3), .ref (g 4), .ref (g 5), .int 0, .int 0, .int 0, .int 0, .int 0, .long 0, .int 0, .int 0, .int 0, .int (-1), .ref (g 6), .ref (g 7), .ref (g 8), .ref (g 9), .ref (g 10), .ref (g 11), .int 0, .int 0, .int 0, .int 0, .int 0, .ref (g 12), .ref (g 13), .int 0, .ref (g 14), .ref (g 15), .long 0, .int 0, .int 0, .int 0, .ref (g 16), .ref (g 17)])), ((g 7), .inl (cI, 35, .inl (fun _ => 0))), ((g 6), .inl (cI, 5, .inl (fun _ => 0)))] H := hP
  have hD : va_D A [((g 0), .inr (9, [.int 0, .ref (g 1), .ref (g 2), .ref (g 3), .ref (g 4), .ref (g 5), .int 0, .int 0, .int 0, .int 0, .int 0, .long 0, .int 0, .int 0, .int 0, .int (-1), .ref (g 6), .ref (g 7), .ref (g 8), .ref (g 9), .ref (g 10), .ref (g 11), .int 0, .int 0, .int 0, .int 0, .int 0, .ref (g 12), .ref (g 13), .int 0, .ref (g 14), .ref (g 15), .long 0, .int 0, .int 0, .int 0, .ref (g 16), .ref (g 17)])), ((g 7), .inl (cI, 35, .inl (fun _ => 0))), ((g 6), .inl (cI, 5, .inl (fun _ => 0)))] := hD
  refine lv_aload_n hx hb dX9_ohms_5 rfl (lv_at hl 0 rfl) ?_
  refine lv_iload_n hx hb dX9_ohms_6 rfl (lv_at hl 1 rfl) ?_
  refine lv_i2l (v := (Int32.toInt64 p0)) hx hb dX9_ohms_7 (by first | rfl | decide) ?_
  have hPc := hP.sub (ws' := [((g 0), .inr (9, [.int 0, .ref (g 1), .ref (g 2), .ref (g 3), .ref (g 4), .ref (g 5), .int 0, .int 0, .int 0, .int 0, .int 0, .long 0, .int 0, .int 0, .int 0, .int (-1), .ref (g 6), .ref (g 7), .ref (g 8), .ref (g 9), .ref (g 10), .ref (g 11), .int 0, .int 0, .int 0, .int 0, .int 0, .ref (g 12), .ref (g 13), .int 0, .ref (g 14), .ref (g 15), .long 0, .int 0, .int 0, .int 0, .ref (g 16), .ref (g 17)])), ((g 7), .inl (cI, 35, .inl (fun _ => 0))), ((g 6), .inl (cI, 5, .inl (fun _ => 0)))]) [0, 1, 2] rfl
  refine vp_callSi (W.runV (As := [.long (Int32.toInt64 p0)]) (rest := []) ⟨hx, hb, hml, hown, ht⟩ (k_X9_isDay l dC dI cB cI cJ cZ cL g (Int32.toInt64 p0)) (cwV 1 ht (gV w_1558 w_1560 w_73 w_114 w_1561) rfl rfl rfl (by decide +kernel) ⟨Nat.le_of_ble_eq_true rfl, Nat.le_of_ble_eq_true rfl⟩) (pVS hK hPc (ci := 9) (q0 := 0) rfl rfl) rfl rfl hl.1 rfl (lv_room (Nat.le_of_ble_eq_true rfl)) dX9_ohms_8 ⟨Nat.le_of_ble_eq_true rfl, Nat.le_of_ble_eq_true rfl⟩) (fun r_1 hw => ?_)
  subst hw
  refine lv_if_eq (tgt := 21) hx hb dX9_ohms_11 (by decide) (fun _ => ?_) (fun c9 => by first | exact absurd (by decide) c9 | exact absurd c9 (by decide))
  refine lv_ldc2 hx hb hown (ht _ w_1595) dX9_ohms_21 ?_
  refine W.widen (k := 0) (n := 0) (Nat.le_of_ble_eq_true rfl) (Nat.le_of_ble_eq_true rfl) ?_
  exact W.lret (v := (-2)) hx hb hr (fun t ht hW => ⟨⟨(-2), (), rfl, rfl, trivial⟩, hS.F ht⟩) hS.2.2 dX9_ohms_24
set_option maxHeartbeats 4000000 in
set_option maxRecDepth 100000 in
theorem k_X9_amps (l : Launch) (dC : Nat → ClassId) (dI : Nat → Nat → Nat) (cB cI cJ cZ cL : ClassId) (sz : Nat) (g : Nat → Nat) (p0 : Int32) (p1 : Int32) : Met l yX9_amps (wy yX9_amps cX9_amps 3 (some .long)) ({ frames := 2, cells := 0, slots := 0, locals := 80 }) (va_Pc [.ref (g 0), .int p0, .int p1] (fun U => U.heap.size = sz ∧ va_P (dC, dI) vwCl [((g 0), .inr (9, [.int 0, .ref (g 1), .ref (g 2), .ref (g 3), .ref (g 4), .ref (g 5), .int 0, .int 0, .int 0, .int 0, .int 0, .long 0, .int 0, .int 0, .int 0, .int (-1), .ref (g 6), .ref (g 7), .ref (g 8), .ref (g 9), .ref (g 10), .ref (g 11), .int 0, .int 0, .int 0, .int 0, .int 0, .ref (g 12), .ref (g 13), .int 0, .ref (g 14), .ref (g 15), .long 0, .int 0, .int 0, .int 0, .ref (g 16), .ref (g 17)])), ((g 7), .inl (cI, 35, .inl (fun _ => 0))), ((g 6), .inl (cI, 5, .inl (fun _ => 0)))] U.heap ∧ va_K (dC, dI) vwCl (tyL cB cI cJ cZ cL) U ∧ va_D (fun _ => True) [((g 0), .inr (9, [.int 0, .ref (g 1), .ref (g 2), .ref (g 3), .ref (g 4), .ref (g 5), .int 0, .int 0, .int 0, .int 0, .int 0, .long 0, .int 0, .int 0, .int 0, .int (-1), .ref (g 6), .ref (g 7), .ref (g 8), .ref (g 9), .ref (g 10), .ref (g 11), .int 0, .int 0, .int 0, .int 0, .int 0, .ref (g 12), .ref (g 13), .int 0, .ref (g 14), .ref (g 15), .long 0, .int 0, .int 0, .int 0, .ref (g 16), .ref (g 17)])), ((g 7), .inl (cI, 35, .inl (fun _ => 0))), ((g 6), .inl (cI, 5, .inl (fun _ => 0)))])) (va_Ql (fun r _ => r = (-2)) (fun (_ : Unit) _ => True) (va_A [((g 0), .inr (9, [.int 0, .ref (g 1), .ref (g 2), .ref (g 3), .ref (g 4), .ref (g 5), .int 0, .int 0, .int 0, .int 0, .int 0, .long 0, .int 0, .int 0, .int 0, .int (-1), .ref (g 6), .ref (g 7), .ref (g 8), .ref (g 9), .ref (g 10), .ref (g 11), .int 0, .int 0, .int 0, .int 0, .int 0, .ref (g 12), .ref (g 13), .int 0, .ref (g 14), .ref (g 15), .long 0, .int 0, .int 0, .int 0, .ref (g 16), .ref (g 17)])), ((g 7), .inl (cI, 35, .inl (fun _ => 0))), ((g 6), .inl (cI, 5, .inl (fun _ => 0)))] sz)) 0 0 (va_A [((g 0), .inr (9, [.int 0, .ref (g 1), .ref (g 2), .ref (g 3), .ref (g 4), .ref (g 5), .int 0, .int 0, .int 0, .int 0, .int 0, .long 0, .int 0, .int 0, .int 0, .int (-1), .ref (g 6), .ref (g 7), .ref (g 8), .ref (g 9), .ref (g 10), .ref (g 11), .int 0, .int 0, .int 0, .int 0, .int 0, .ref (g 12), .ref (g 13), .int 0, .ref (g 14), .ref (g 15), .long 0, .int 0, .int 0, .int 0, .ref (g 16), .ref (g 17)])), ((g 7), .inl (cI, 35, .inl (fun _ => 0))), ((g 6), .inl (cI, 5, .inl (fun _ => 0)))] sz) := by
  refine Met.ofW (cc := cX9_amps) (maxL := 3) (ret := (some .long)) (by decide) rfl ?_
  intro p e s m args below meth c s₁ B hml hv
  obtain ⟨rfl, hsz, hP, hK, hD0⟩ := hv
  have hx := B.exec
  have hb := B.bytes
  have hr := B.returns
  have ht : ∀ w ∈ lw_ok, w.before _ s = true := fun w h => atoms_spec (ws := wy yX9_amps cX9_amps 3 (some .long)) B.pre w (List.mem_cons_of_mem _ h)
  have hown : s.vm.findClass RX9 = some m.cls := findClass_of_methodNamed B.named
  have hlocks := B.notSynchronized
  subst hsz
  have hD := hD0.self (sz := s.heap.size)
  generalize hAe : va_A [((g 0), .inr (9, [.int 0, .ref (g 1), .ref (g 2), .ref (g 3), .ref (g 4), .ref (g 5), .int 0, .int 0, .int 0, .int 0, .int 0, .long 0, .int 0, .int 0, .int 0, .int (-1), .ref (g 6), .ref (g 7), .ref (g 8), .ref (g 9), .ref (g 10), .ref (g 11), .int 0, .int 0, .int 0, .int 0, .int 0, .ref (g 12), .ref (g 13), .int 0, .ref (g 14), .ref (g 15), .long 0, .int 0, .int 0, .int 0, .ref (g 16), .ref (g 17)])), ((g 7), .inl (cI, 35, .inl (fun _ => 0))), ((g 6), .inl (cI, 5, .inl (fun _ => 0)))] s.heap.size = A at hD ⊢
  have hA : ∀ q : Nat, s.heap.size ≤ q → A q := fun q h => by rw [← hAe]; exact Or.inr h
  have hS : va_S A s.heap s.heap [] := va_S.rf
  have hl := lv_entry ([.ref (g 0), .int p0, .int p1]) (n := 3) (Nat.le_of_ble_eq_true rfl)
  rw [lg_entry_eq]
  generalize (lg_sl ([.ref (g 0), .int p0, .int p1]) ++ List.replicate (3 - (lg_sl ([.ref (g 0), .int p0, .int p1])).length) Slot.unset).toArray = ls at hl ⊢
  have hl : lv_has ls 3 [(0, .ref (g 0)), (1, .int p0), (2, .int p1)] := hl
  have hP : va_P (dC, dI) vwCl [((g 0), .inr (9, [.int 0, .ref (g 1), .ref (g 2), .ref (g 3), .ref (g 4), .ref (g 5), .int 0, .int 0, .int 0, .int 0, .int 0, .long 0, .int 0, .int 0, .int 0, .int (-1), .ref (g 6), .ref (g 7), .ref (g 8), .ref (g 9), .ref (g 10), .ref (g 11), .int 0, .int 0, .int 0, .int 0, .int 0, .ref (g 12), .ref (g 13), .int 0, .ref (g 14), .ref (g 15), .long 0, .int 0, .int 0, .int 0, .ref (g 16), .ref (g 17)])), ((g 7), .inl (cI, 35, .inl (fun _ => 0))), ((g 6), .inl (cI, 5, .inl (fun _ => 0)))] s.heap := hP
  have hD : va_D A [((g 0), .inr (9, [.int 0, .ref (g 1), .ref (g 2), .ref (g 3), .ref (g 4), .ref (g 5), .int 0, .int 0, .int 0, .int 0, .int 0, .long 0, .int 0, .int 0, .int 0, .int (-1), .ref (g 6), .ref (g 7), .ref (g 8), .ref (g 9), .ref (g 10), .ref (g 11), .int 0, .int 0, .int 0, .int 0, .int 0, .ref (g 12), .ref (g 13), .int 0, .ref (g 14), .ref (g 15), .long 0, .int 0, .int 0, .int 0, .ref (g 16), .ref (g 17)])), ((g 7), .inl (cI, 35, .inl (fun _ => 0))), ((g 6), .inl (cI, 5, .inl (fun _ => 0)))] := hD
  refine lv_aload_n hx hb dX9_amps_0 rfl (lv_at hl 0 rfl) ?_
  refine lv_iconst (v := 0) hx hb dX9_amps_1 (by decide) ?_
  refine va_put (D := (dC, dI)) (ci := 9) (v := .int 0) (ty := .int) (C := RX9) (T := TX9) (N := 38) hx hb ht iX9 tyX9 tyX9_ok nmX9 hown hK hP hD hS 0 rfl rfl 0 (by decide) (ht _ w_1262) (fun _ h9 => h9) rfl (by decide +kernel) rfl rfl (Nat.le_of_ble_eq_true rfl) dX9_amps_2 (fun H locs hP hD hS => ?_)
  have hP : va_P (dC, dI) vwCl [((g 0), .inr (9, [.int 0, .ref (g 1), .ref (g 2), .ref (g 3), .ref (g 4), .ref (g 5), .int 0, .int 0, .int 0, .int 0, .int 0, .long 0, .int 0, .int 0, .int 0, .int (-1), .ref (g 6), .ref (g 7), .ref (g 8), .ref (g 9), .ref (g 10), .ref (g 11), .int 0, .int 0, .int 0, .int 0, .int 0, .ref (g 12), .ref (g 13), .int 0, .ref (g 14), .ref (g 15), .long 0, .int 0, .int 0, .int 0, .ref (g 16), .ref (g 17)])), ((g 7), .inl (cI, 35, .inl (fun _ => 0))), ((g 6), .inl (cI, 5, .inl (fun _ => 0)))] H := hP
  have hD : va_D A [((g 0), .inr (9, [.int 0, .ref (g 1), .ref (g 2), .ref (g 3), .ref (g 4), .ref (g 5), .int 0, .int 0, .int 0, .int 0, .int 0, .long 0, .int 0, .int 0, .int 0, .int (-1), .ref (g 6), .ref (g 7), .ref (g 8), .ref (g 9), .ref (g 10), .ref (g 11), .int 0, .int 0, .int 0, .int 0, .int 0, .ref (g 12), .ref (g 13), .int 0, .ref (g 14), .ref (g 15), .long 0, .int 0, .int 0, .int 0, .ref (g 16), .ref (g 17)])), ((g 7), .inl (cI, 35, .inl (fun _ => 0))), ((g 6), .inl (cI, 5, .inl (fun _ => 0)))] := hD
  refine lv_aload_n hx hb dX9_amps_5 rfl (lv_at hl 0 rfl) ?_
  refine lv_iload_n hx hb dX9_amps_6 rfl (lv_at hl 1 rfl) ?_
  refine lv_i2l (v := (Int32.toInt64 p0)) hx hb dX9_amps_7 (by first | rfl | decide) ?_
  have hPc := hP.sub (ws' := [((g 0), .inr (9, [.int 0, .ref (g 1), .ref (g 2), .ref (g 3), .ref (g 4), .ref (g 5), .int 0, .int 0, .int 0, .int 0, .int 0, .long 0, .int 0, .int 0, .int 0, .int (-1), .ref (g 6), .ref (g 7), .ref (g 8), .ref (g 9), .ref (g 10), .ref (g 11), .int 0, .int 0, .int 0, .int 0, .int 0, .ref (g 12), .ref (g 13), .int 0, .ref (g 14), .ref (g 15), .long 0, .int 0, .int 0, .int 0, .ref (g 16), .ref (g 17)])), ((g 7), .inl (cI, 35, .inl (fun _ => 0))), ((g 6), .inl (cI, 5, .inl (fun _ => 0)))]) [0, 1, 2] rfl
  refine vp_callSi (W.runV (As := [.long (Int32.toInt64 p0)]) (rest := []) ⟨hx, hb, hml, hown, ht⟩ (k_X9_isDay l dC dI cB cI cJ cZ cL g (Int32.toInt64 p0)) (cwV 1 ht (gV w_1558 w_1560 w_73 w_114 w_1561) rfl rfl rfl (by decide +kernel) ⟨Nat.le_of_ble_eq_true rfl, Nat.le_of_ble_eq_true rfl⟩) (pVS hK hPc (ci := 9) (q0 := 0) rfl rfl) rfl rfl hl.1 rfl (lv_room (Nat.le_of_ble_eq_true rfl)) dX9_amps_8 ⟨Nat.le_of_ble_eq_true rfl, Nat.le_of_ble_eq_true rfl⟩) (fun r_1 hw => ?_)
  subst hw
  refine lv_if_eq (tgt := 21) hx hb dX9_amps_11 (by decide) (fun _ => ?_) (fun c9 => by first | exact absurd (by decide) c9 | exact absurd c9 (by decide))
  refine lv_ldc2 hx hb hown (ht _ w_1595) dX9_amps_21 ?_
  refine W.widen (k := 0) (n := 0) (Nat.le_of_ble_eq_true rfl) (Nat.le_of_ble_eq_true rfl) ?_
  exact W.lret (v := (-2)) hx hb hr (fun t ht hW => ⟨⟨(-2), (), rfl, rfl, trivial⟩, hS.F ht⟩) hS.2.2 dX9_amps_24
set_option maxHeartbeats 4000000 in
set_option maxRecDepth 100000 in
theorem k_X9_volts (l : Launch) (dC : Nat → ClassId) (dI : Nat → Nat → Nat) (cB cI cJ cZ cL : ClassId) (sz : Nat) (g : Nat → Nat) (p0 : Int32) (p1 : Int32) (p2 : Int32) : Met l yX9_volts (wy yX9_volts cX9_volts 4 (some .long)) ({ frames := 3, cells := 0, slots := 0, locals := 120 }) (va_Pc [.ref (g 0), .int p0, .int p1, .int p2] (fun U => U.heap.size = sz ∧ va_P (dC, dI) vwCl [((g 0), .inr (9, [.int 0, .ref (g 1), .ref (g 2), .ref (g 3), .ref (g 4), .ref (g 5), .int 0, .int 0, .int 0, .int 0, .int 0, .long 0, .int 0, .int 0, .int 0, .int (-1), .ref (g 6), .ref (g 7), .ref (g 8), .ref (g 9), .ref (g 10), .ref (g 11), .int 0, .int 0, .int 0, .int 0, .int 0, .ref (g 12), .ref (g 13), .int 0, .ref (g 14), .ref (g 15), .long 0, .int 0, .int 0, .int 0, .ref (g 16), .ref (g 17)])), ((g 7), .inl (cI, 35, .inl (fun _ => 0))), ((g 6), .inl (cI, 5, .inl (fun _ => 0)))] U.heap ∧ va_K (dC, dI) vwCl (tyL cB cI cJ cZ cL) U ∧ va_D (fun _ => True) [((g 0), .inr (9, [.int 0, .ref (g 1), .ref (g 2), .ref (g 3), .ref (g 4), .ref (g 5), .int 0, .int 0, .int 0, .int 0, .int 0, .long 0, .int 0, .int 0, .int 0, .int (-1), .ref (g 6), .ref (g 7), .ref (g 8), .ref (g 9), .ref (g 10), .ref (g 11), .int 0, .int 0, .int 0, .int 0, .int 0, .ref (g 12), .ref (g 13), .int 0, .ref (g 14), .ref (g 15), .long 0, .int 0, .int 0, .int 0, .ref (g 16), .ref (g 17)])), ((g 7), .inl (cI, 35, .inl (fun _ => 0))), ((g 6), .inl (cI, 5, .inl (fun _ => 0)))])) (va_Ql (fun r _ => r = (-2)) (fun (_ : Unit) _ => True) (va_A [((g 0), .inr (9, [.int 0, .ref (g 1), .ref (g 2), .ref (g 3), .ref (g 4), .ref (g 5), .int 0, .int 0, .int 0, .int 0, .int 0, .long 0, .int 0, .int 0, .int 0, .int (-1), .ref (g 6), .ref (g 7), .ref (g 8), .ref (g 9), .ref (g 10), .ref (g 11), .int 0, .int 0, .int 0, .int 0, .int 0, .ref (g 12), .ref (g 13), .int 0, .ref (g 14), .ref (g 15), .long 0, .int 0, .int 0, .int 0, .ref (g 16), .ref (g 17)])), ((g 7), .inl (cI, 35, .inl (fun _ => 0))), ((g 6), .inl (cI, 5, .inl (fun _ => 0)))] sz)) 0 0 (va_A [((g 0), .inr (9, [.int 0, .ref (g 1), .ref (g 2), .ref (g 3), .ref (g 4), .ref (g 5), .int 0, .int 0, .int 0, .int 0, .int 0, .long 0, .int 0, .int 0, .int 0, .int (-1), .ref (g 6), .ref (g 7), .ref (g 8), .ref (g 9), .ref (g 10), .ref (g 11), .int 0, .int 0, .int 0, .int 0, .int 0, .ref (g 12), .ref (g 13), .int 0, .ref (g 14), .ref (g 15), .long 0, .int 0, .int 0, .int 0, .ref (g 16), .ref (g 17)])), ((g 7), .inl (cI, 35, .inl (fun _ => 0))), ((g 6), .inl (cI, 5, .inl (fun _ => 0)))] sz) := by
  refine Met.ofW (cc := cX9_volts) (maxL := 4) (ret := (some .long)) (by decide) rfl ?_
  intro p e s m args below meth c s₁ B hml hv
  obtain ⟨rfl, hsz, hP, hK, hD0⟩ := hv
  have hx := B.exec
  have hb := B.bytes
  have hr := B.returns
  have ht : ∀ w ∈ lw_ok, w.before _ s = true := fun w h => atoms_spec (ws := wy yX9_volts cX9_volts 4 (some .long)) B.pre w (List.mem_cons_of_mem _ h)
  have hown : s.vm.findClass RX9 = some m.cls := findClass_of_methodNamed B.named
  have hlocks := B.notSynchronized
  subst hsz
  have hD := hD0.self (sz := s.heap.size)
  generalize hAe : va_A [((g 0), .inr (9, [.int 0, .ref (g 1), .ref (g 2), .ref (g 3), .ref (g 4), .ref (g 5), .int 0, .int 0, .int 0, .int 0, .int 0, .long 0, .int 0, .int 0, .int 0, .int (-1), .ref (g 6), .ref (g 7), .ref (g 8), .ref (g 9), .ref (g 10), .ref (g 11), .int 0, .int 0, .int 0, .int 0, .int 0, .ref (g 12), .ref (g 13), .int 0, .ref (g 14), .ref (g 15), .long 0, .int 0, .int 0, .int 0, .ref (g 16), .ref (g 17)])), ((g 7), .inl (cI, 35, .inl (fun _ => 0))), ((g 6), .inl (cI, 5, .inl (fun _ => 0)))] s.heap.size = A at hD ⊢
  have hA : ∀ q : Nat, s.heap.size ≤ q → A q := fun q h => by rw [← hAe]; exact Or.inr h
  have hS : va_S A s.heap s.heap [] := va_S.rf
  have hl := lv_entry ([.ref (g 0), .int p0, .int p1, .int p2]) (n := 4) (Nat.le_of_ble_eq_true rfl)
  rw [lg_entry_eq]
  generalize (lg_sl ([.ref (g 0), .int p0, .int p1, .int p2]) ++ List.replicate (4 - (lg_sl ([.ref (g 0), .int p0, .int p1, .int p2])).length) Slot.unset).toArray = ls at hl ⊢
  have hl : lv_has ls 4 [(0, .ref (g 0)), (1, .int p0), (2, .int p1), (3, .int p2)] := hl
  have hP : va_P (dC, dI) vwCl [((g 0), .inr (9, [.int 0, .ref (g 1), .ref (g 2), .ref (g 3), .ref (g 4), .ref (g 5), .int 0, .int 0, .int 0, .int 0, .int 0, .long 0, .int 0, .int 0, .int 0, .int (-1), .ref (g 6), .ref (g 7), .ref (g 8), .ref (g 9), .ref (g 10), .ref (g 11), .int 0, .int 0, .int 0, .int 0, .int 0, .ref (g 12), .ref (g 13), .int 0, .ref (g 14), .ref (g 15), .long 0, .int 0, .int 0, .int 0, .ref (g 16), .ref (g 17)])), ((g 7), .inl (cI, 35, .inl (fun _ => 0))), ((g 6), .inl (cI, 5, .inl (fun _ => 0)))] s.heap := hP
  have hD : va_D A [((g 0), .inr (9, [.int 0, .ref (g 1), .ref (g 2), .ref (g 3), .ref (g 4), .ref (g 5), .int 0, .int 0, .int 0, .int 0, .int 0, .long 0, .int 0, .int 0, .int 0, .int (-1), .ref (g 6), .ref (g 7), .ref (g 8), .ref (g 9), .ref (g 10), .ref (g 11), .int 0, .int 0, .int 0, .int 0, .int 0, .ref (g 12), .ref (g 13), .int 0, .ref (g 14), .ref (g 15), .long 0, .int 0, .int 0, .int 0, .ref (g 16), .ref (g 17)])), ((g 7), .inl (cI, 35, .inl (fun _ => 0))), ((g 6), .inl (cI, 5, .inl (fun _ => 0)))] := hD
  refine lv_aload_n hx hb dX9_volts_0 rfl (lv_at hl 0 rfl) ?_
  refine lv_iconst (v := 0) hx hb dX9_volts_1 (by decide) ?_
  refine va_put (D := (dC, dI)) (ci := 9) (v := .int 0) (ty := .int) (C := RX9) (T := TX9) (N := 38) hx hb ht iX9 tyX9 tyX9_ok nmX9 hown hK hP hD hS 0 rfl rfl 0 (by decide) (ht _ w_1262) (fun _ h9 => h9) rfl (by decide +kernel) rfl rfl (Nat.le_of_ble_eq_true rfl) dX9_volts_2 (fun H locs hP hD hS => ?_)
  have hP : va_P (dC, dI) vwCl [((g 0), .inr (9, [.int 0, .ref (g 1), .ref (g 2), .ref (g 3), .ref (g 4), .ref (g 5), .int 0, .int 0, .int 0, .int 0, .int 0, .long 0, .int 0, .int 0, .int 0, .int (-1), .ref (g 6), .ref (g 7), .ref (g 8), .ref (g 9), .ref (g 10), .ref (g 11), .int 0, .int 0, .int 0, .int 0, .int 0, .ref (g 12), .ref (g 13), .int 0, .ref (g 14), .ref (g 15), .long 0, .int 0, .int 0, .int 0, .ref (g 16), .ref (g 17)])), ((g 7), .inl (cI, 35, .inl (fun _ => 0))), ((g 6), .inl (cI, 5, .inl (fun _ => 0)))] H := hP
  have hD : va_D A [((g 0), .inr (9, [.int 0, .ref (g 1), .ref (g 2), .ref (g 3), .ref (g 4), .ref (g 5), .int 0, .int 0, .int 0, .int 0, .int 0, .long 0, .int 0, .int 0, .int 0, .int (-1), .ref (g 6), .ref (g 7), .ref (g 8), .ref (g 9), .ref (g 10), .ref (g 11), .int 0, .int 0, .int 0, .int 0, .int 0, .ref (g 12), .ref (g 13), .int 0, .ref (g 14), .ref (g 15), .long 0, .int 0, .int 0, .int 0, .ref (g 16), .ref (g 17)])), ((g 7), .inl (cI, 35, .inl (fun _ => 0))), ((g 6), .inl (cI, 5, .inl (fun _ => 0)))] := hD
  refine lv_aload_n hx hb dX9_volts_5 rfl (lv_at hl 0 rfl) ?_
  refine lv_iload_n hx hb dX9_volts_6 rfl (lv_at hl 1 rfl) ?_
  refine lv_iload_n hx hb dX9_volts_7 rfl (lv_at hl 2 rfl) ?_
  refine lv_iload_n hx hb dX9_volts_8 rfl (lv_at hl 3 rfl) ?_
  have hPc := hP.sub (ws' := [((g 0), .inr (9, [.int 0, .ref (g 1), .ref (g 2), .ref (g 3), .ref (g 4), .ref (g 5), .int 0, .int 0, .int 0, .int 0, .int 0, .long 0, .int 0, .int 0, .int 0, .int (-1), .ref (g 6), .ref (g 7), .ref (g 8), .ref (g 9), .ref (g 10), .ref (g 11), .int 0, .int 0, .int 0, .int 0, .int 0, .ref (g 12), .ref (g 13), .int 0, .ref (g 14), .ref (g 15), .long 0, .int 0, .int 0, .int 0, .ref (g 16), .ref (g 17)])), ((g 7), .inl (cI, 35, .inl (fun _ => 0))), ((g 6), .inl (cI, 5, .inl (fun _ => 0)))]) [0, 1, 2] rfl
  refine vp_callSi (W.runV (As := [.int p0, .int p1, .int p2]) (rest := []) ⟨hx, hb, hml, hown, ht⟩ (k_X9_isOf l dC dI cB cI cJ cZ cL g p0 p1 p2) (cwV 3 ht (gV w_1610 w_1612 w_78 w_114 w_1613) rfl rfl rfl (by decide +kernel) ⟨Nat.le_of_ble_eq_true rfl, Nat.le_of_ble_eq_true rfl⟩) (pVS hK hPc (ci := 9) (q0 := 0) rfl rfl) rfl rfl hl.1 rfl (lv_room (Nat.le_of_ble_eq_true rfl)) dX9_volts_9 ⟨Nat.le_of_ble_eq_true rfl, Nat.le_of_ble_eq_true rfl⟩) (fun r_1 hw => ?_)
  subst hw
  refine lv_if_ne (tgt := 19) hx hb dX9_volts_12 (by decide) (fun c9 => by first | exact absurd c9 (by decide) | exact absurd (by decide) c9) (fun _ => ?_)
  refine lv_ldc2 hx hb hown (ht _ w_1595) dX9_volts_15 ?_
  refine W.widen (k := 0) (n := 0) (Nat.le_of_ble_eq_true rfl) (Nat.le_of_ble_eq_true rfl) ?_
  exact W.lret (v := (-2)) hx hb hr (fun t ht hW => ⟨⟨(-2), (), rfl, rfl, trivial⟩, hS.F ht⟩) hS.2.2 dX9_volts_18
set_option maxHeartbeats 4000000 in
set_option maxRecDepth 100000 in
theorem k_X9_whole (l : Launch) (dC : Nat → ClassId) (dI : Nat → Nat → Nat) (cB cI cJ cZ cL : ClassId) (sz : Nat) (g : Nat → Nat) (p0 : Int32) (p1 : Int32) : Met l yX9_whole (wy yX9_whole cX9_whole 3 (some .int)) ({ frames := 3, cells := 0, slots := 0, locals := 120 }) (va_Pc [.ref (g 0), .int p0, .int p1] (fun U => U.heap.size = sz ∧ va_P (dC, dI) vwCl [((g 0), .inr (9, [.int 0, .ref (g 1), .ref (g 2), .ref (g 3), .ref (g 4), .ref (g 5), .int 0, .int 0, .int 0, .int 0, .int 0, .long 0, .int 0, .int 0, .int 0, .int (-1), .ref (g 6), .ref (g 7), .ref (g 8), .ref (g 9), .ref (g 10), .ref (g 11), .int 0, .int 0, .int 0, .int 0, .int 0, .ref (g 12), .ref (g 13), .int 0, .ref (g 14), .ref (g 15), .long 0, .int 0, .int 0, .int 0, .ref (g 16), .ref (g 17)])), ((g 7), .inl (cI, 35, .inl (fun _ => 0))), ((g 6), .inl (cI, 5, .inl (fun _ => 0)))] U.heap ∧ va_K (dC, dI) vwCl (tyL cB cI cJ cZ cL) U ∧ va_D (fun _ => True) [((g 0), .inr (9, [.int 0, .ref (g 1), .ref (g 2), .ref (g 3), .ref (g 4), .ref (g 5), .int 0, .int 0, .int 0, .int 0, .int 0, .long 0, .int 0, .int 0, .int 0, .int (-1), .ref (g 6), .ref (g 7), .ref (g 8), .ref (g 9), .ref (g 10), .ref (g 11), .int 0, .int 0, .int 0, .int 0, .int 0, .ref (g 12), .ref (g 13), .int 0, .ref (g 14), .ref (g 15), .long 0, .int 0, .int 0, .int 0, .ref (g 16), .ref (g 17)])), ((g 7), .inl (cI, 35, .inl (fun _ => 0))), ((g 6), .inl (cI, 5, .inl (fun _ => 0)))])) (va_Qi (fun r _ => r = (-2)) (fun (_ : Unit) _ => True) (va_A [((g 0), .inr (9, [.int 0, .ref (g 1), .ref (g 2), .ref (g 3), .ref (g 4), .ref (g 5), .int 0, .int 0, .int 0, .int 0, .int 0, .long 0, .int 0, .int 0, .int 0, .int (-1), .ref (g 6), .ref (g 7), .ref (g 8), .ref (g 9), .ref (g 10), .ref (g 11), .int 0, .int 0, .int 0, .int 0, .int 0, .ref (g 12), .ref (g 13), .int 0, .ref (g 14), .ref (g 15), .long 0, .int 0, .int 0, .int 0, .ref (g 16), .ref (g 17)])), ((g 7), .inl (cI, 35, .inl (fun _ => 0))), ((g 6), .inl (cI, 5, .inl (fun _ => 0)))] sz)) 0 0 (va_A [((g 0), .inr (9, [.int 0, .ref (g 1), .ref (g 2), .ref (g 3), .ref (g 4), .ref (g 5), .int 0, .int 0, .int 0, .int 0, .int 0, .long 0, .int 0, .int 0, .int 0, .int (-1), .ref (g 6), .ref (g 7), .ref (g 8), .ref (g 9), .ref (g 10), .ref (g 11), .int 0, .int 0, .int 0, .int 0, .int 0, .ref (g 12), .ref (g 13), .int 0, .ref (g 14), .ref (g 15), .long 0, .int 0, .int 0, .int 0, .ref (g 16), .ref (g 17)])), ((g 7), .inl (cI, 35, .inl (fun _ => 0))), ((g 6), .inl (cI, 5, .inl (fun _ => 0)))] sz) := by
  refine Met.ofW (cc := cX9_whole) (maxL := 3) (ret := (some .int)) (by decide) rfl ?_
  intro p e s m args below meth c s₁ B hml hv
  obtain ⟨rfl, hsz, hP, hK, hD0⟩ := hv
  have hx := B.exec
  have hb := B.bytes
  have hr := B.returns
  have ht : ∀ w ∈ lw_ok, w.before _ s = true := fun w h => atoms_spec (ws := wy yX9_whole cX9_whole 3 (some .int)) B.pre w (List.mem_cons_of_mem _ h)
  have hown : s.vm.findClass RX9 = some m.cls := findClass_of_methodNamed B.named
  have hlocks := B.notSynchronized
  subst hsz
  have hD := hD0.self (sz := s.heap.size)
  generalize hAe : va_A [((g 0), .inr (9, [.int 0, .ref (g 1), .ref (g 2), .ref (g 3), .ref (g 4), .ref (g 5), .int 0, .int 0, .int 0, .int 0, .int 0, .long 0, .int 0, .int 0, .int 0, .int (-1), .ref (g 6), .ref (g 7), .ref (g 8), .ref (g 9), .ref (g 10), .ref (g 11), .int 0, .int 0, .int 0, .int 0, .int 0, .ref (g 12), .ref (g 13), .int 0, .ref (g 14), .ref (g 15), .long 0, .int 0, .int 0, .int 0, .ref (g 16), .ref (g 17)])), ((g 7), .inl (cI, 35, .inl (fun _ => 0))), ((g 6), .inl (cI, 5, .inl (fun _ => 0)))] s.heap.size = A at hD ⊢
  have hA : ∀ q : Nat, s.heap.size ≤ q → A q := fun q h => by rw [← hAe]; exact Or.inr h
  have hS : va_S A s.heap s.heap [] := va_S.rf
  have hl := lv_entry ([.ref (g 0), .int p0, .int p1]) (n := 3) (Nat.le_of_ble_eq_true rfl)
  rw [lg_entry_eq]
  generalize (lg_sl ([.ref (g 0), .int p0, .int p1]) ++ List.replicate (3 - (lg_sl ([.ref (g 0), .int p0, .int p1])).length) Slot.unset).toArray = ls at hl ⊢
  have hl : lv_has ls 3 [(0, .ref (g 0)), (1, .int p0), (2, .int p1)] := hl
  have hP : va_P (dC, dI) vwCl [((g 0), .inr (9, [.int 0, .ref (g 1), .ref (g 2), .ref (g 3), .ref (g 4), .ref (g 5), .int 0, .int 0, .int 0, .int 0, .int 0, .long 0, .int 0, .int 0, .int 0, .int (-1), .ref (g 6), .ref (g 7), .ref (g 8), .ref (g 9), .ref (g 10), .ref (g 11), .int 0, .int 0, .int 0, .int 0, .int 0, .ref (g 12), .ref (g 13), .int 0, .ref (g 14), .ref (g 15), .long 0, .int 0, .int 0, .int 0, .ref (g 16), .ref (g 17)])), ((g 7), .inl (cI, 35, .inl (fun _ => 0))), ((g 6), .inl (cI, 5, .inl (fun _ => 0)))] s.heap := hP
  have hD : va_D A [((g 0), .inr (9, [.int 0, .ref (g 1), .ref (g 2), .ref (g 3), .ref (g 4), .ref (g 5), .int 0, .int 0, .int 0, .int 0, .int 0, .long 0, .int 0, .int 0, .int 0, .int (-1), .ref (g 6), .ref (g 7), .ref (g 8), .ref (g 9), .ref (g 10), .ref (g 11), .int 0, .int 0, .int 0, .int 0, .int 0, .ref (g 12), .ref (g 13), .int 0, .ref (g 14), .ref (g 15), .long 0, .int 0, .int 0, .int 0, .ref (g 16), .ref (g 17)])), ((g 7), .inl (cI, 35, .inl (fun _ => 0))), ((g 6), .inl (cI, 5, .inl (fun _ => 0)))] := hD
  refine lv_aload_n hx hb dX9_whole_0 rfl (lv_at hl 0 rfl) ?_
  refine lv_iconst (v := 0) hx hb dX9_whole_1 (by decide) ?_
  refine va_put (D := (dC, dI)) (ci := 9) (v := .int 0) (ty := .int) (C := RX9) (T := TX9) (N := 38) hx hb ht iX9 tyX9 tyX9_ok nmX9 hown hK hP hD hS 0 rfl rfl 0 (by decide) (ht _ w_1262) (fun _ h9 => h9) rfl (by decide +kernel) rfl rfl (Nat.le_of_ble_eq_true rfl) dX9_whole_2 (fun H locs hP hD hS => ?_)
  have hP : va_P (dC, dI) vwCl [((g 0), .inr (9, [.int 0, .ref (g 1), .ref (g 2), .ref (g 3), .ref (g 4), .ref (g 5), .int 0, .int 0, .int 0, .int 0, .int 0, .long 0, .int 0, .int 0, .int 0, .int (-1), .ref (g 6), .ref (g 7), .ref (g 8), .ref (g 9), .ref (g 10), .ref (g 11), .int 0, .int 0, .int 0, .int 0, .int 0, .ref (g 12), .ref (g 13), .int 0, .ref (g 14), .ref (g 15), .long 0, .int 0, .int 0, .int 0, .ref (g 16), .ref (g 17)])), ((g 7), .inl (cI, 35, .inl (fun _ => 0))), ((g 6), .inl (cI, 5, .inl (fun _ => 0)))] H := hP
  have hD : va_D A [((g 0), .inr (9, [.int 0, .ref (g 1), .ref (g 2), .ref (g 3), .ref (g 4), .ref (g 5), .int 0, .int 0, .int 0, .int 0, .int 0, .long 0, .int 0, .int 0, .int 0, .int (-1), .ref (g 6), .ref (g 7), .ref (g 8), .ref (g 9), .ref (g 10), .ref (g 11), .int 0, .int 0, .int 0, .int 0, .int 0, .ref (g 12), .ref (g 13), .int 0, .ref (g 14), .ref (g 15), .long 0, .int 0, .int 0, .int 0, .ref (g 16), .ref (g 17)])), ((g 7), .inl (cI, 35, .inl (fun _ => 0))), ((g 6), .inl (cI, 5, .inl (fun _ => 0)))] := hD
  refine lv_aload_n hx hb dX9_whole_5 rfl (lv_at hl 0 rfl) ?_
  refine lv_iload_n hx hb dX9_whole_6 rfl (lv_at hl 1 rfl) ?_
  refine lv_iload_n hx hb dX9_whole_7 rfl (lv_at hl 2 rfl) ?_
  refine lv_iconst (v := 0) hx hb dX9_whole_8 (by decide) ?_
  have hPc := hP.sub (ws' := [((g 0), .inr (9, [.int 0, .ref (g 1), .ref (g 2), .ref (g 3), .ref (g 4), .ref (g 5), .int 0, .int 0, .int 0, .int 0, .int 0, .long 0, .int 0, .int 0, .int 0, .int (-1), .ref (g 6), .ref (g 7), .ref (g 8), .ref (g 9), .ref (g 10), .ref (g 11), .int 0, .int 0, .int 0, .int 0, .int 0, .ref (g 12), .ref (g 13), .int 0, .ref (g 14), .ref (g 15), .long 0, .int 0, .int 0, .int 0, .ref (g 16), .ref (g 17)])), ((g 7), .inl (cI, 35, .inl (fun _ => 0))), ((g 6), .inl (cI, 5, .inl (fun _ => 0)))]) [0, 1, 2] rfl
  refine vp_callSi (W.runV (As := [.int p0, .int p1, .int 0]) (rest := []) ⟨hx, hb, hml, hown, ht⟩ (k_X9_isOf l dC dI cB cI cJ cZ cL g p0 p1 0) (cwV 3 ht (gV w_1610 w_1612 w_78 w_114 w_1613) rfl rfl rfl (by decide +kernel) ⟨Nat.le_of_ble_eq_true rfl, Nat.le_of_ble_eq_true rfl⟩) (pVS hK hPc (ci := 9) (q0 := 0) rfl rfl) rfl rfl hl.1 rfl (lv_room (Nat.le_of_ble_eq_true rfl)) dX9_whole_9 ⟨Nat.le_of_ble_eq_true rfl, Nat.le_of_ble_eq_true rfl⟩) (fun r_1 hw => ?_)
  subst hw
  refine lv_if_ne (tgt := 18) hx hb dX9_whole_12 (by decide) (fun c9 => by first | exact absurd c9 (by decide) | exact absurd (by decide) c9) (fun _ => ?_)
  refine lv_bipush (v := (-2)) hx hb dX9_whole_15 (by decide) ?_
  refine W.widen (k := 0) (n := 0) (Nat.le_of_ble_eq_true rfl) (Nat.le_of_ble_eq_true rfl) ?_
  exact W.iret (v := (-2)) hx hb hr (fun t ht hW => ⟨⟨(-2), (), rfl, rfl, trivial⟩, hS.F ht⟩) hS.2.2 dX9_whole_17
set_option maxHeartbeats 4000000 in
set_option maxRecDepth 100000 in
theorem k_X9_falls (l : Launch) (dC : Nat → ClassId) (dI : Nat → Nat → Nat) (cB cI cJ cZ cL : ClassId) (sz : Nat) (g : Nat → Nat) (p0 : Int32) (p1 : Int32) (p2 : Int32) : Met l yX9_falls (wy yX9_falls cX9_falls 4 (some .long)) ({ frames := 3, cells := 0, slots := 0, locals := 120 }) (va_Pc [.ref (g 0), .int p0, .int p1, .int p2] (fun U => U.heap.size = sz ∧ va_P (dC, dI) vwCl [((g 0), .inr (9, [.int 0, .ref (g 1), .ref (g 2), .ref (g 3), .ref (g 4), .ref (g 5), .int 0, .int 0, .int 0, .int 0, .int 0, .long 0, .int 0, .int 0, .int 0, .int (-1), .ref (g 6), .ref (g 7), .ref (g 8), .ref (g 9), .ref (g 10), .ref (g 11), .int 0, .int 0, .int 0, .int 0, .int 0, .ref (g 12), .ref (g 13), .int 0, .ref (g 14), .ref (g 15), .long 0, .int 0, .int 0, .int 0, .ref (g 16), .ref (g 17)])), ((g 7), .inl (cI, 35, .inl (fun _ => 0))), ((g 6), .inl (cI, 5, .inl (fun _ => 0)))] U.heap ∧ va_K (dC, dI) vwCl (tyL cB cI cJ cZ cL) U ∧ va_D (fun _ => True) [((g 0), .inr (9, [.int 0, .ref (g 1), .ref (g 2), .ref (g 3), .ref (g 4), .ref (g 5), .int 0, .int 0, .int 0, .int 0, .int 0, .long 0, .int 0, .int 0, .int 0, .int (-1), .ref (g 6), .ref (g 7), .ref (g 8), .ref (g 9), .ref (g 10), .ref (g 11), .int 0, .int 0, .int 0, .int 0, .int 0, .ref (g 12), .ref (g 13), .int 0, .ref (g 14), .ref (g 15), .long 0, .int 0, .int 0, .int 0, .ref (g 16), .ref (g 17)])), ((g 7), .inl (cI, 35, .inl (fun _ => 0))), ((g 6), .inl (cI, 5, .inl (fun _ => 0)))])) (va_Ql (fun r _ => r = (-2)) (fun (_ : Unit) _ => True) (va_A [((g 0), .inr (9, [.int 0, .ref (g 1), .ref (g 2), .ref (g 3), .ref (g 4), .ref (g 5), .int 0, .int 0, .int 0, .int 0, .int 0, .long 0, .int 0, .int 0, .int 0, .int (-1), .ref (g 6), .ref (g 7), .ref (g 8), .ref (g 9), .ref (g 10), .ref (g 11), .int 0, .int 0, .int 0, .int 0, .int 0, .ref (g 12), .ref (g 13), .int 0, .ref (g 14), .ref (g 15), .long 0, .int 0, .int 0, .int 0, .ref (g 16), .ref (g 17)])), ((g 7), .inl (cI, 35, .inl (fun _ => 0))), ((g 6), .inl (cI, 5, .inl (fun _ => 0)))] sz)) 0 0 (va_A [((g 0), .inr (9, [.int 0, .ref (g 1), .ref (g 2), .ref (g 3), .ref (g 4), .ref (g 5), .int 0, .int 0, .int 0, .int 0, .int 0, .long 0, .int 0, .int 0, .int 0, .int (-1), .ref (g 6), .ref (g 7), .ref (g 8), .ref (g 9), .ref (g 10), .ref (g 11), .int 0, .int 0, .int 0, .int 0, .int 0, .ref (g 12), .ref (g 13), .int 0, .ref (g 14), .ref (g 15), .long 0, .int 0, .int 0, .int 0, .ref (g 16), .ref (g 17)])), ((g 7), .inl (cI, 35, .inl (fun _ => 0))), ((g 6), .inl (cI, 5, .inl (fun _ => 0)))] sz) := by
  refine Met.ofW (cc := cX9_falls) (maxL := 4) (ret := (some .long)) (by decide) rfl ?_
  intro p e s m args below meth c s₁ B hml hv
  obtain ⟨rfl, hsz, hP, hK, hD0⟩ := hv
  have hx := B.exec
  have hb := B.bytes
  have hr := B.returns
  have ht : ∀ w ∈ lw_ok, w.before _ s = true := fun w h => atoms_spec (ws := wy yX9_falls cX9_falls 4 (some .long)) B.pre w (List.mem_cons_of_mem _ h)
  have hown : s.vm.findClass RX9 = some m.cls := findClass_of_methodNamed B.named
  have hlocks := B.notSynchronized
  subst hsz
  have hD := hD0.self (sz := s.heap.size)
  generalize hAe : va_A [((g 0), .inr (9, [.int 0, .ref (g 1), .ref (g 2), .ref (g 3), .ref (g 4), .ref (g 5), .int 0, .int 0, .int 0, .int 0, .int 0, .long 0, .int 0, .int 0, .int 0, .int (-1), .ref (g 6), .ref (g 7), .ref (g 8), .ref (g 9), .ref (g 10), .ref (g 11), .int 0, .int 0, .int 0, .int 0, .int 0, .ref (g 12), .ref (g 13), .int 0, .ref (g 14), .ref (g 15), .long 0, .int 0, .int 0, .int 0, .ref (g 16), .ref (g 17)])), ((g 7), .inl (cI, 35, .inl (fun _ => 0))), ((g 6), .inl (cI, 5, .inl (fun _ => 0)))] s.heap.size = A at hD ⊢
  have hA : ∀ q : Nat, s.heap.size ≤ q → A q := fun q h => by rw [← hAe]; exact Or.inr h
  have hS : va_S A s.heap s.heap [] := va_S.rf
  have hl := lv_entry ([.ref (g 0), .int p0, .int p1, .int p2]) (n := 4) (Nat.le_of_ble_eq_true rfl)
  rw [lg_entry_eq]
  generalize (lg_sl ([.ref (g 0), .int p0, .int p1, .int p2]) ++ List.replicate (4 - (lg_sl ([.ref (g 0), .int p0, .int p1, .int p2])).length) Slot.unset).toArray = ls at hl ⊢
  have hl : lv_has ls 4 [(0, .ref (g 0)), (1, .int p0), (2, .int p1), (3, .int p2)] := hl
  have hP : va_P (dC, dI) vwCl [((g 0), .inr (9, [.int 0, .ref (g 1), .ref (g 2), .ref (g 3), .ref (g 4), .ref (g 5), .int 0, .int 0, .int 0, .int 0, .int 0, .long 0, .int 0, .int 0, .int 0, .int (-1), .ref (g 6), .ref (g 7), .ref (g 8), .ref (g 9), .ref (g 10), .ref (g 11), .int 0, .int 0, .int 0, .int 0, .int 0, .ref (g 12), .ref (g 13), .int 0, .ref (g 14), .ref (g 15), .long 0, .int 0, .int 0, .int 0, .ref (g 16), .ref (g 17)])), ((g 7), .inl (cI, 35, .inl (fun _ => 0))), ((g 6), .inl (cI, 5, .inl (fun _ => 0)))] s.heap := hP
  have hD : va_D A [((g 0), .inr (9, [.int 0, .ref (g 1), .ref (g 2), .ref (g 3), .ref (g 4), .ref (g 5), .int 0, .int 0, .int 0, .int 0, .int 0, .long 0, .int 0, .int 0, .int 0, .int (-1), .ref (g 6), .ref (g 7), .ref (g 8), .ref (g 9), .ref (g 10), .ref (g 11), .int 0, .int 0, .int 0, .int 0, .int 0, .ref (g 12), .ref (g 13), .int 0, .ref (g 14), .ref (g 15), .long 0, .int 0, .int 0, .int 0, .ref (g 16), .ref (g 17)])), ((g 7), .inl (cI, 35, .inl (fun _ => 0))), ((g 6), .inl (cI, 5, .inl (fun _ => 0)))] := hD
  refine lv_aload_n hx hb dX9_falls_0 rfl (lv_at hl 0 rfl) ?_
  refine lv_iconst (v := 0) hx hb dX9_falls_1 (by decide) ?_
  refine va_put (D := (dC, dI)) (ci := 9) (v := .int 0) (ty := .int) (C := RX9) (T := TX9) (N := 38) hx hb ht iX9 tyX9 tyX9_ok nmX9 hown hK hP hD hS 0 rfl rfl 0 (by decide) (ht _ w_1262) (fun _ h9 => h9) rfl (by decide +kernel) rfl rfl (Nat.le_of_ble_eq_true rfl) dX9_falls_2 (fun H locs hP hD hS => ?_)
  have hP : va_P (dC, dI) vwCl [((g 0), .inr (9, [.int 0, .ref (g 1), .ref (g 2), .ref (g 3), .ref (g 4), .ref (g 5), .int 0, .int 0, .int 0, .int 0, .int 0, .long 0, .int 0, .int 0, .int 0, .int (-1), .ref (g 6), .ref (g 7), .ref (g 8), .ref (g 9), .ref (g 10), .ref (g 11), .int 0, .int 0, .int 0, .int 0, .int 0, .ref (g 12), .ref (g 13), .int 0, .ref (g 14), .ref (g 15), .long 0, .int 0, .int 0, .int 0, .ref (g 16), .ref (g 17)])), ((g 7), .inl (cI, 35, .inl (fun _ => 0))), ((g 6), .inl (cI, 5, .inl (fun _ => 0)))] H := hP
  have hD : va_D A [((g 0), .inr (9, [.int 0, .ref (g 1), .ref (g 2), .ref (g 3), .ref (g 4), .ref (g 5), .int 0, .int 0, .int 0, .int 0, .int 0, .long 0, .int 0, .int 0, .int 0, .int (-1), .ref (g 6), .ref (g 7), .ref (g 8), .ref (g 9), .ref (g 10), .ref (g 11), .int 0, .int 0, .int 0, .int 0, .int 0, .ref (g 12), .ref (g 13), .int 0, .ref (g 14), .ref (g 15), .long 0, .int 0, .int 0, .int 0, .ref (g 16), .ref (g 17)])), ((g 7), .inl (cI, 35, .inl (fun _ => 0))), ((g 6), .inl (cI, 5, .inl (fun _ => 0)))] := hD
  refine lv_aload_n hx hb dX9_falls_5 rfl (lv_at hl 0 rfl) ?_
  refine lv_iload_n hx hb dX9_falls_6 rfl (lv_at hl 1 rfl) ?_
  refine lv_iload_n hx hb dX9_falls_7 rfl (lv_at hl 2 rfl) ?_
  refine lv_iload_n hx hb dX9_falls_8 rfl (lv_at hl 3 rfl) ?_
  have hPc := hP.sub (ws' := [((g 0), .inr (9, [.int 0, .ref (g 1), .ref (g 2), .ref (g 3), .ref (g 4), .ref (g 5), .int 0, .int 0, .int 0, .int 0, .int 0, .long 0, .int 0, .int 0, .int 0, .int (-1), .ref (g 6), .ref (g 7), .ref (g 8), .ref (g 9), .ref (g 10), .ref (g 11), .int 0, .int 0, .int 0, .int 0, .int 0, .ref (g 12), .ref (g 13), .int 0, .ref (g 14), .ref (g 15), .long 0, .int 0, .int 0, .int 0, .ref (g 16), .ref (g 17)])), ((g 7), .inl (cI, 35, .inl (fun _ => 0))), ((g 6), .inl (cI, 5, .inl (fun _ => 0)))]) [0, 1, 2] rfl
  refine vp_callSi (W.runV (As := [.int p0, .int p1, .int p2]) (rest := []) ⟨hx, hb, hml, hown, ht⟩ (k_X9_isOf l dC dI cB cI cJ cZ cL g p0 p1 p2) (cwV 3 ht (gV w_1610 w_1612 w_78 w_114 w_1613) rfl rfl rfl (by decide +kernel) ⟨Nat.le_of_ble_eq_true rfl, Nat.le_of_ble_eq_true rfl⟩) (pVS hK hPc (ci := 9) (q0 := 0) rfl rfl) rfl rfl hl.1 rfl (lv_room (Nat.le_of_ble_eq_true rfl)) dX9_falls_9 ⟨Nat.le_of_ble_eq_true rfl, Nat.le_of_ble_eq_true rfl⟩) (fun r_1 hw => ?_)
  subst hw
  refine lv_if_ne (tgt := 19) hx hb dX9_falls_12 (by decide) (fun c9 => by first | exact absurd c9 (by decide) | exact absurd (by decide) c9) (fun _ => ?_)
  refine lv_ldc2 hx hb hown (ht _ w_1595) dX9_falls_15 ?_
  refine W.widen (k := 0) (n := 0) (Nat.le_of_ble_eq_true rfl) (Nat.le_of_ble_eq_true rfl) ?_
  exact W.lret (v := (-2)) hx hb hr (fun t ht hW => ⟨⟨(-2), (), rfl, rfl, trivial⟩, hS.F ht⟩) hS.2.2 dX9_falls_18
set_option maxHeartbeats 4000000 in
set_option maxRecDepth 100000 in
theorem k_X9_earth (l : Launch) (dC : Nat → ClassId) (dI : Nat → Nat → Nat) (cB cI cJ cZ cL : ClassId) (sz : Nat) (g : Nat → Nat) (p0 : Int32) (p1 : Int32) (p2 : Int32) : Met l yX9_earth (wy yX9_earth cX9_earth 4 (some .long)) ({ frames := 3, cells := 0, slots := 0, locals := 120 }) (va_Pc [.ref (g 0), .int p0, .int p1, .int p2] (fun U => U.heap.size = sz ∧ va_P (dC, dI) vwCl [((g 0), .inr (9, [.int 0, .ref (g 1), .ref (g 2), .ref (g 3), .ref (g 4), .ref (g 5), .int 0, .int 0, .int 0, .int 0, .int 0, .long 0, .int 0, .int 0, .int 0, .int (-1), .ref (g 6), .ref (g 7), .ref (g 8), .ref (g 9), .ref (g 10), .ref (g 11), .int 0, .int 0, .int 0, .int 0, .int 0, .ref (g 12), .ref (g 13), .int 0, .ref (g 14), .ref (g 15), .long 0, .int 0, .int 0, .int 0, .ref (g 16), .ref (g 17)])), ((g 7), .inl (cI, 35, .inl (fun _ => 0))), ((g 6), .inl (cI, 5, .inl (fun _ => 0)))] U.heap ∧ va_K (dC, dI) vwCl (tyL cB cI cJ cZ cL) U ∧ va_D (fun _ => True) [((g 0), .inr (9, [.int 0, .ref (g 1), .ref (g 2), .ref (g 3), .ref (g 4), .ref (g 5), .int 0, .int 0, .int 0, .int 0, .int 0, .long 0, .int 0, .int 0, .int 0, .int (-1), .ref (g 6), .ref (g 7), .ref (g 8), .ref (g 9), .ref (g 10), .ref (g 11), .int 0, .int 0, .int 0, .int 0, .int 0, .ref (g 12), .ref (g 13), .int 0, .ref (g 14), .ref (g 15), .long 0, .int 0, .int 0, .int 0, .ref (g 16), .ref (g 17)])), ((g 7), .inl (cI, 35, .inl (fun _ => 0))), ((g 6), .inl (cI, 5, .inl (fun _ => 0)))])) (va_Ql (fun r _ => r = (-2)) (fun (_ : Unit) _ => True) (va_A [((g 0), .inr (9, [.int 0, .ref (g 1), .ref (g 2), .ref (g 3), .ref (g 4), .ref (g 5), .int 0, .int 0, .int 0, .int 0, .int 0, .long 0, .int 0, .int 0, .int 0, .int (-1), .ref (g 6), .ref (g 7), .ref (g 8), .ref (g 9), .ref (g 10), .ref (g 11), .int 0, .int 0, .int 0, .int 0, .int 0, .ref (g 12), .ref (g 13), .int 0, .ref (g 14), .ref (g 15), .long 0, .int 0, .int 0, .int 0, .ref (g 16), .ref (g 17)])), ((g 7), .inl (cI, 35, .inl (fun _ => 0))), ((g 6), .inl (cI, 5, .inl (fun _ => 0)))] sz)) 0 0 (va_A [((g 0), .inr (9, [.int 0, .ref (g 1), .ref (g 2), .ref (g 3), .ref (g 4), .ref (g 5), .int 0, .int 0, .int 0, .int 0, .int 0, .long 0, .int 0, .int 0, .int 0, .int (-1), .ref (g 6), .ref (g 7), .ref (g 8), .ref (g 9), .ref (g 10), .ref (g 11), .int 0, .int 0, .int 0, .int 0, .int 0, .ref (g 12), .ref (g 13), .int 0, .ref (g 14), .ref (g 15), .long 0, .int 0, .int 0, .int 0, .ref (g 16), .ref (g 17)])), ((g 7), .inl (cI, 35, .inl (fun _ => 0))), ((g 6), .inl (cI, 5, .inl (fun _ => 0)))] sz) := by
  refine Met.ofW (cc := cX9_earth) (maxL := 4) (ret := (some .long)) (by decide) rfl ?_
  intro p e s m args below meth c s₁ B hml hv
  obtain ⟨rfl, hsz, hP, hK, hD0⟩ := hv
  have hx := B.exec
  have hb := B.bytes
  have hr := B.returns
  have ht : ∀ w ∈ lw_ok, w.before _ s = true := fun w h => atoms_spec (ws := wy yX9_earth cX9_earth 4 (some .long)) B.pre w (List.mem_cons_of_mem _ h)
  have hown : s.vm.findClass RX9 = some m.cls := findClass_of_methodNamed B.named
  have hlocks := B.notSynchronized
  subst hsz
  have hD := hD0.self (sz := s.heap.size)
  generalize hAe : va_A [((g 0), .inr (9, [.int 0, .ref (g 1), .ref (g 2), .ref (g 3), .ref (g 4), .ref (g 5), .int 0, .int 0, .int 0, .int 0, .int 0, .long 0, .int 0, .int 0, .int 0, .int (-1), .ref (g 6), .ref (g 7), .ref (g 8), .ref (g 9), .ref (g 10), .ref (g 11), .int 0, .int 0, .int 0, .int 0, .int 0, .ref (g 12), .ref (g 13), .int 0, .ref (g 14), .ref (g 15), .long 0, .int 0, .int 0, .int 0, .ref (g 16), .ref (g 17)])), ((g 7), .inl (cI, 35, .inl (fun _ => 0))), ((g 6), .inl (cI, 5, .inl (fun _ => 0)))] s.heap.size = A at hD ⊢
  have hA : ∀ q : Nat, s.heap.size ≤ q → A q := fun q h => by rw [← hAe]; exact Or.inr h
  have hS : va_S A s.heap s.heap [] := va_S.rf
  have hl := lv_entry ([.ref (g 0), .int p0, .int p1, .int p2]) (n := 4) (Nat.le_of_ble_eq_true rfl)
  rw [lg_entry_eq]
  generalize (lg_sl ([.ref (g 0), .int p0, .int p1, .int p2]) ++ List.replicate (4 - (lg_sl ([.ref (g 0), .int p0, .int p1, .int p2])).length) Slot.unset).toArray = ls at hl ⊢
  have hl : lv_has ls 4 [(0, .ref (g 0)), (1, .int p0), (2, .int p1), (3, .int p2)] := hl
  have hP : va_P (dC, dI) vwCl [((g 0), .inr (9, [.int 0, .ref (g 1), .ref (g 2), .ref (g 3), .ref (g 4), .ref (g 5), .int 0, .int 0, .int 0, .int 0, .int 0, .long 0, .int 0, .int 0, .int 0, .int (-1), .ref (g 6), .ref (g 7), .ref (g 8), .ref (g 9), .ref (g 10), .ref (g 11), .int 0, .int 0, .int 0, .int 0, .int 0, .ref (g 12), .ref (g 13), .int 0, .ref (g 14), .ref (g 15), .long 0, .int 0, .int 0, .int 0, .ref (g 16), .ref (g 17)])), ((g 7), .inl (cI, 35, .inl (fun _ => 0))), ((g 6), .inl (cI, 5, .inl (fun _ => 0)))] s.heap := hP
  have hD : va_D A [((g 0), .inr (9, [.int 0, .ref (g 1), .ref (g 2), .ref (g 3), .ref (g 4), .ref (g 5), .int 0, .int 0, .int 0, .int 0, .int 0, .long 0, .int 0, .int 0, .int 0, .int (-1), .ref (g 6), .ref (g 7), .ref (g 8), .ref (g 9), .ref (g 10), .ref (g 11), .int 0, .int 0, .int 0, .int 0, .int 0, .ref (g 12), .ref (g 13), .int 0, .ref (g 14), .ref (g 15), .long 0, .int 0, .int 0, .int 0, .ref (g 16), .ref (g 17)])), ((g 7), .inl (cI, 35, .inl (fun _ => 0))), ((g 6), .inl (cI, 5, .inl (fun _ => 0)))] := hD
  refine lv_aload_n hx hb dX9_earth_0 rfl (lv_at hl 0 rfl) ?_
  refine lv_iconst (v := 0) hx hb dX9_earth_1 (by decide) ?_
  refine va_put (D := (dC, dI)) (ci := 9) (v := .int 0) (ty := .int) (C := RX9) (T := TX9) (N := 38) hx hb ht iX9 tyX9 tyX9_ok nmX9 hown hK hP hD hS 0 rfl rfl 0 (by decide) (ht _ w_1262) (fun _ h9 => h9) rfl (by decide +kernel) rfl rfl (Nat.le_of_ble_eq_true rfl) dX9_earth_2 (fun H locs hP hD hS => ?_)
  have hP : va_P (dC, dI) vwCl [((g 0), .inr (9, [.int 0, .ref (g 1), .ref (g 2), .ref (g 3), .ref (g 4), .ref (g 5), .int 0, .int 0, .int 0, .int 0, .int 0, .long 0, .int 0, .int 0, .int 0, .int (-1), .ref (g 6), .ref (g 7), .ref (g 8), .ref (g 9), .ref (g 10), .ref (g 11), .int 0, .int 0, .int 0, .int 0, .int 0, .ref (g 12), .ref (g 13), .int 0, .ref (g 14), .ref (g 15), .long 0, .int 0, .int 0, .int 0, .ref (g 16), .ref (g 17)])), ((g 7), .inl (cI, 35, .inl (fun _ => 0))), ((g 6), .inl (cI, 5, .inl (fun _ => 0)))] H := hP
  have hD : va_D A [((g 0), .inr (9, [.int 0, .ref (g 1), .ref (g 2), .ref (g 3), .ref (g 4), .ref (g 5), .int 0, .int 0, .int 0, .int 0, .int 0, .long 0, .int 0, .int 0, .int 0, .int (-1), .ref (g 6), .ref (g 7), .ref (g 8), .ref (g 9), .ref (g 10), .ref (g 11), .int 0, .int 0, .int 0, .int 0, .int 0, .ref (g 12), .ref (g 13), .int 0, .ref (g 14), .ref (g 15), .long 0, .int 0, .int 0, .int 0, .ref (g 16), .ref (g 17)])), ((g 7), .inl (cI, 35, .inl (fun _ => 0))), ((g 6), .inl (cI, 5, .inl (fun _ => 0)))] := hD
  refine lv_aload_n hx hb dX9_earth_5 rfl (lv_at hl 0 rfl) ?_
  refine lv_iload_n hx hb dX9_earth_6 rfl (lv_at hl 1 rfl) ?_
  refine lv_iload_n hx hb dX9_earth_7 rfl (lv_at hl 2 rfl) ?_
  refine lv_iload_n hx hb dX9_earth_8 rfl (lv_at hl 3 rfl) ?_
  have hPc := hP.sub (ws' := [((g 0), .inr (9, [.int 0, .ref (g 1), .ref (g 2), .ref (g 3), .ref (g 4), .ref (g 5), .int 0, .int 0, .int 0, .int 0, .int 0, .long 0, .int 0, .int 0, .int 0, .int (-1), .ref (g 6), .ref (g 7), .ref (g 8), .ref (g 9), .ref (g 10), .ref (g 11), .int 0, .int 0, .int 0, .int 0, .int 0, .ref (g 12), .ref (g 13), .int 0, .ref (g 14), .ref (g 15), .long 0, .int 0, .int 0, .int 0, .ref (g 16), .ref (g 17)])), ((g 7), .inl (cI, 35, .inl (fun _ => 0))), ((g 6), .inl (cI, 5, .inl (fun _ => 0)))]) [0, 1, 2] rfl
  refine vp_callSi (W.runV (As := [.int p0, .int p1, .int p2]) (rest := []) ⟨hx, hb, hml, hown, ht⟩ (k_X9_isOf l dC dI cB cI cJ cZ cL g p0 p1 p2) (cwV 3 ht (gV w_1610 w_1612 w_78 w_114 w_1613) rfl rfl rfl (by decide +kernel) ⟨Nat.le_of_ble_eq_true rfl, Nat.le_of_ble_eq_true rfl⟩) (pVS hK hPc (ci := 9) (q0 := 0) rfl rfl) rfl rfl hl.1 rfl (lv_room (Nat.le_of_ble_eq_true rfl)) dX9_earth_9 ⟨Nat.le_of_ble_eq_true rfl, Nat.le_of_ble_eq_true rfl⟩) (fun r_1 hw => ?_)
  subst hw
  refine lv_if_ne (tgt := 19) hx hb dX9_earth_12 (by decide) (fun c9 => by first | exact absurd c9 (by decide) | exact absurd (by decide) c9) (fun _ => ?_)
  refine lv_ldc2 hx hb hown (ht _ w_1595) dX9_earth_15 ?_
  refine W.widen (k := 0) (n := 0) (Nat.le_of_ble_eq_true rfl) (Nat.le_of_ble_eq_true rfl) ?_
  exact W.lret (v := (-2)) hx hb hr (fun t ht hW => ⟨⟨(-2), (), rfl, rfl, trivial⟩, hS.F ht⟩) hS.2.2 dX9_earth_18
set_option maxHeartbeats 4000000 in
set_option maxRecDepth 100000 in
theorem k_X9_sore (l : Launch) (dC : Nat → ClassId) (dI : Nat → Nat → Nat) (cB cI cJ cZ cL : ClassId) (sz : Nat) (g : Nat → Nat) (p0 : Int32) : Met l yX9_sore (wy yX9_sore cX9_sore 4 (some .int)) ({ frames := 2, cells := 0, slots := 0, locals := 80 }) (va_Pc [.ref (g 0), .int p0] (fun U => U.heap.size = sz ∧ va_P (dC, dI) vwCl [((g 0), .inr (9, [.int 0, .ref (g 1), .ref (g 2), .ref (g 3), .ref (g 4), .ref (g 5), .int 0, .int 0, .int 0, .int 0, .int 0, .long 0, .int 0, .int 0, .int 0, .int (-1), .ref (g 6), .ref (g 7), .ref (g 8), .ref (g 9), .ref (g 10), .ref (g 11), .int 0, .int 0, .int 0, .int 0, .int 0, .ref (g 12), .ref (g 13), .int 0, .ref (g 14), .ref (g 15), .long 0, .int 0, .int 0, .int 0, .ref (g 16), .ref (g 17)])), ((g 7), .inl (cI, 35, .inl (fun _ => 0))), ((g 6), .inl (cI, 5, .inl (fun _ => 0)))] U.heap ∧ va_K (dC, dI) vwCl (tyL cB cI cJ cZ cL) U ∧ va_D (fun _ => True) [((g 0), .inr (9, [.int 0, .ref (g 1), .ref (g 2), .ref (g 3), .ref (g 4), .ref (g 5), .int 0, .int 0, .int 0, .int 0, .int 0, .long 0, .int 0, .int 0, .int 0, .int (-1), .ref (g 6), .ref (g 7), .ref (g 8), .ref (g 9), .ref (g 10), .ref (g 11), .int 0, .int 0, .int 0, .int 0, .int 0, .ref (g 12), .ref (g 13), .int 0, .ref (g 14), .ref (g 15), .long 0, .int 0, .int 0, .int 0, .ref (g 16), .ref (g 17)])), ((g 7), .inl (cI, 35, .inl (fun _ => 0))), ((g 6), .inl (cI, 5, .inl (fun _ => 0)))])) (va_Qi (fun r _ => r = (-2)) (fun (_ : Unit) _ => True) (va_A [((g 0), .inr (9, [.int 0, .ref (g 1), .ref (g 2), .ref (g 3), .ref (g 4), .ref (g 5), .int 0, .int 0, .int 0, .int 0, .int 0, .long 0, .int 0, .int 0, .int 0, .int (-1), .ref (g 6), .ref (g 7), .ref (g 8), .ref (g 9), .ref (g 10), .ref (g 11), .int 0, .int 0, .int 0, .int 0, .int 0, .ref (g 12), .ref (g 13), .int 0, .ref (g 14), .ref (g 15), .long 0, .int 0, .int 0, .int 0, .ref (g 16), .ref (g 17)])), ((g 7), .inl (cI, 35, .inl (fun _ => 0))), ((g 6), .inl (cI, 5, .inl (fun _ => 0)))] sz)) 0 0 (va_A [((g 0), .inr (9, [.int 0, .ref (g 1), .ref (g 2), .ref (g 3), .ref (g 4), .ref (g 5), .int 0, .int 0, .int 0, .int 0, .int 0, .long 0, .int 0, .int 0, .int 0, .int (-1), .ref (g 6), .ref (g 7), .ref (g 8), .ref (g 9), .ref (g 10), .ref (g 11), .int 0, .int 0, .int 0, .int 0, .int 0, .ref (g 12), .ref (g 13), .int 0, .ref (g 14), .ref (g 15), .long 0, .int 0, .int 0, .int 0, .ref (g 16), .ref (g 17)])), ((g 7), .inl (cI, 35, .inl (fun _ => 0))), ((g 6), .inl (cI, 5, .inl (fun _ => 0)))] sz) := by
  refine Met.ofW (cc := cX9_sore) (maxL := 4) (ret := (some .int)) (by decide) rfl ?_
  intro p e s m args below meth c s₁ B hml hv
  obtain ⟨rfl, hsz, hP, hK, hD0⟩ := hv
  have hx := B.exec
  have hb := B.bytes
  have hr := B.returns
  have ht : ∀ w ∈ lw_ok, w.before _ s = true := fun w h => atoms_spec (ws := wy yX9_sore cX9_sore 4 (some .int)) B.pre w (List.mem_cons_of_mem _ h)
  have hown : s.vm.findClass RX9 = some m.cls := findClass_of_methodNamed B.named
  have hlocks := B.notSynchronized
  subst hsz
  have hD := hD0.self (sz := s.heap.size)
  generalize hAe : va_A [((g 0), .inr (9, [.int 0, .ref (g 1), .ref (g 2), .ref (g 3), .ref (g 4), .ref (g 5), .int 0, .int 0, .int 0, .int 0, .int 0, .long 0, .int 0, .int 0, .int 0, .int (-1), .ref (g 6), .ref (g 7), .ref (g 8), .ref (g 9), .ref (g 10), .ref (g 11), .int 0, .int 0, .int 0, .int 0, .int 0, .ref (g 12), .ref (g 13), .int 0, .ref (g 14), .ref (g 15), .long 0, .int 0, .int 0, .int 0, .ref (g 16), .ref (g 17)])), ((g 7), .inl (cI, 35, .inl (fun _ => 0))), ((g 6), .inl (cI, 5, .inl (fun _ => 0)))] s.heap.size = A at hD ⊢
  have hA : ∀ q : Nat, s.heap.size ≤ q → A q := fun q h => by rw [← hAe]; exact Or.inr h
  have hS : va_S A s.heap s.heap [] := va_S.rf
  have hl := lv_entry ([.ref (g 0), .int p0]) (n := 4) (Nat.le_of_ble_eq_true rfl)
  rw [lg_entry_eq]
  generalize (lg_sl ([.ref (g 0), .int p0]) ++ List.replicate (4 - (lg_sl ([.ref (g 0), .int p0])).length) Slot.unset).toArray = ls at hl ⊢
  have hl : lv_has ls 4 [(0, .ref (g 0)), (1, .int p0)] := hl
  have hP : va_P (dC, dI) vwCl [((g 0), .inr (9, [.int 0, .ref (g 1), .ref (g 2), .ref (g 3), .ref (g 4), .ref (g 5), .int 0, .int 0, .int 0, .int 0, .int 0, .long 0, .int 0, .int 0, .int 0, .int (-1), .ref (g 6), .ref (g 7), .ref (g 8), .ref (g 9), .ref (g 10), .ref (g 11), .int 0, .int 0, .int 0, .int 0, .int 0, .ref (g 12), .ref (g 13), .int 0, .ref (g 14), .ref (g 15), .long 0, .int 0, .int 0, .int 0, .ref (g 16), .ref (g 17)])), ((g 7), .inl (cI, 35, .inl (fun _ => 0))), ((g 6), .inl (cI, 5, .inl (fun _ => 0)))] s.heap := hP
  have hD : va_D A [((g 0), .inr (9, [.int 0, .ref (g 1), .ref (g 2), .ref (g 3), .ref (g 4), .ref (g 5), .int 0, .int 0, .int 0, .int 0, .int 0, .long 0, .int 0, .int 0, .int 0, .int (-1), .ref (g 6), .ref (g 7), .ref (g 8), .ref (g 9), .ref (g 10), .ref (g 11), .int 0, .int 0, .int 0, .int 0, .int 0, .ref (g 12), .ref (g 13), .int 0, .ref (g 14), .ref (g 15), .long 0, .int 0, .int 0, .int 0, .ref (g 16), .ref (g 17)])), ((g 7), .inl (cI, 35, .inl (fun _ => 0))), ((g 6), .inl (cI, 5, .inl (fun _ => 0)))] := hD
  refine lv_aload_n hx hb dX9_sore_0 rfl (lv_at hl 0 rfl) ?_
  refine lv_iconst (v := 0) hx hb dX9_sore_1 (by decide) ?_
  refine va_put (D := (dC, dI)) (ci := 9) (v := .int 0) (ty := .int) (C := RX9) (T := TX9) (N := 38) hx hb ht iX9 tyX9 tyX9_ok nmX9 hown hK hP hD hS 0 rfl rfl 0 (by decide) (ht _ w_1262) (fun _ h9 => h9) rfl (by decide +kernel) rfl rfl (Nat.le_of_ble_eq_true rfl) dX9_sore_2 (fun H locs hP hD hS => ?_)
  have hP : va_P (dC, dI) vwCl [((g 0), .inr (9, [.int 0, .ref (g 1), .ref (g 2), .ref (g 3), .ref (g 4), .ref (g 5), .int 0, .int 0, .int 0, .int 0, .int 0, .long 0, .int 0, .int 0, .int 0, .int (-1), .ref (g 6), .ref (g 7), .ref (g 8), .ref (g 9), .ref (g 10), .ref (g 11), .int 0, .int 0, .int 0, .int 0, .int 0, .ref (g 12), .ref (g 13), .int 0, .ref (g 14), .ref (g 15), .long 0, .int 0, .int 0, .int 0, .ref (g 16), .ref (g 17)])), ((g 7), .inl (cI, 35, .inl (fun _ => 0))), ((g 6), .inl (cI, 5, .inl (fun _ => 0)))] H := hP
  have hD : va_D A [((g 0), .inr (9, [.int 0, .ref (g 1), .ref (g 2), .ref (g 3), .ref (g 4), .ref (g 5), .int 0, .int 0, .int 0, .int 0, .int 0, .long 0, .int 0, .int 0, .int 0, .int (-1), .ref (g 6), .ref (g 7), .ref (g 8), .ref (g 9), .ref (g 10), .ref (g 11), .int 0, .int 0, .int 0, .int 0, .int 0, .ref (g 12), .ref (g 13), .int 0, .ref (g 14), .ref (g 15), .long 0, .int 0, .int 0, .int 0, .ref (g 16), .ref (g 17)])), ((g 7), .inl (cI, 35, .inl (fun _ => 0))), ((g 6), .inl (cI, 5, .inl (fun _ => 0)))] := hD
  refine lv_aload_n hx hb dX9_sore_5 rfl (lv_at hl 0 rfl) ?_
  refine lv_iload_n hx hb dX9_sore_6 rfl (lv_at hl 1 rfl) ?_
  refine lv_i2l (v := (Int32.toInt64 p0)) hx hb dX9_sore_7 (by first | rfl | decide) ?_
  have hPc := hP.sub (ws' := [((g 0), .inr (9, [.int 0, .ref (g 1), .ref (g 2), .ref (g 3), .ref (g 4), .ref (g 5), .int 0, .int 0, .int 0, .int 0, .int 0, .long 0, .int 0, .int 0, .int 0, .int (-1), .ref (g 6), .ref (g 7), .ref (g 8), .ref (g 9), .ref (g 10), .ref (g 11), .int 0, .int 0, .int 0, .int 0, .int 0, .ref (g 12), .ref (g 13), .int 0, .ref (g 14), .ref (g 15), .long 0, .int 0, .int 0, .int 0, .ref (g 16), .ref (g 17)])), ((g 7), .inl (cI, 35, .inl (fun _ => 0))), ((g 6), .inl (cI, 5, .inl (fun _ => 0)))]) [0, 1, 2] rfl
  refine vp_callSi (W.runV (As := [.long (Int32.toInt64 p0)]) (rest := []) ⟨hx, hb, hml, hown, ht⟩ (k_X9_isDay l dC dI cB cI cJ cZ cL g (Int32.toInt64 p0)) (cwV 1 ht (gV w_1558 w_1560 w_73 w_114 w_1561) rfl rfl rfl (by decide +kernel) ⟨Nat.le_of_ble_eq_true rfl, Nat.le_of_ble_eq_true rfl⟩) (pVS hK hPc (ci := 9) (q0 := 0) rfl rfl) rfl rfl hl.1 rfl (lv_room (Nat.le_of_ble_eq_true rfl)) dX9_sore_8 ⟨Nat.le_of_ble_eq_true rfl, Nat.le_of_ble_eq_true rfl⟩) (fun r_1 hw => ?_)
  subst hw
  refine lv_if_ne (tgt := 17) hx hb dX9_sore_11 (by decide) (fun c9 => by first | exact absurd c9 (by decide) | exact absurd (by decide) c9) (fun _ => ?_)
  refine lv_bipush (v := (-2)) hx hb dX9_sore_14 (by decide) ?_
  refine W.widen (k := 0) (n := 0) (Nat.le_of_ble_eq_true rfl) (Nat.le_of_ble_eq_true rfl) ?_
  exact W.iret (v := (-2)) hx hb hr (fun t ht hW => ⟨⟨(-2), (), rfl, rfl, trivial⟩, hS.F ht⟩) hS.2.2 dX9_sore_16
set_option maxHeartbeats 4000000 in
set_option maxRecDepth 100000 in
theorem k_X9_hears (l : Launch) (dC : Nat → ClassId) (dI : Nat → Nat → Nat) (cB cI cJ cZ cL : ClassId) (sz : Nat) (g : Nat → Nat) (p0 : Int32) : Met l yX9_hears (wy yX9_hears cX9_hears 2 (some .int)) ({ frames := 2, cells := 0, slots := 0, locals := 80 }) (va_Pc [.ref (g 0), .int p0] (fun U => U.heap.size = sz ∧ va_P (dC, dI) vwCl [((g 0), .inr (9, [.int 0, .ref (g 1), .ref (g 2), .ref (g 3), .ref (g 4), .ref (g 5), .int 0, .int 0, .int 0, .int 0, .int 0, .long 0, .int 0, .int 0, .int 0, .int (-1), .ref (g 6), .ref (g 7), .ref (g 8), .ref (g 9), .ref (g 10), .ref (g 11), .int 0, .int 0, .int 0, .int 0, .int 0, .ref (g 12), .ref (g 13), .int 0, .ref (g 14), .ref (g 15), .long 0, .int 0, .int 0, .int 0, .ref (g 16), .ref (g 17)])), ((g 7), .inl (cI, 35, .inl (fun _ => 0))), ((g 6), .inl (cI, 5, .inl (fun _ => 0)))] U.heap ∧ va_K (dC, dI) vwCl (tyL cB cI cJ cZ cL) U ∧ va_D (fun _ => True) [((g 0), .inr (9, [.int 0, .ref (g 1), .ref (g 2), .ref (g 3), .ref (g 4), .ref (g 5), .int 0, .int 0, .int 0, .int 0, .int 0, .long 0, .int 0, .int 0, .int 0, .int (-1), .ref (g 6), .ref (g 7), .ref (g 8), .ref (g 9), .ref (g 10), .ref (g 11), .int 0, .int 0, .int 0, .int 0, .int 0, .ref (g 12), .ref (g 13), .int 0, .ref (g 14), .ref (g 15), .long 0, .int 0, .int 0, .int 0, .ref (g 16), .ref (g 17)])), ((g 7), .inl (cI, 35, .inl (fun _ => 0))), ((g 6), .inl (cI, 5, .inl (fun _ => 0)))])) (va_Qi (fun r _ => r = (-2)) (fun (_ : Unit) _ => True) (va_A [((g 0), .inr (9, [.int 0, .ref (g 1), .ref (g 2), .ref (g 3), .ref (g 4), .ref (g 5), .int 0, .int 0, .int 0, .int 0, .int 0, .long 0, .int 0, .int 0, .int 0, .int (-1), .ref (g 6), .ref (g 7), .ref (g 8), .ref (g 9), .ref (g 10), .ref (g 11), .int 0, .int 0, .int 0, .int 0, .int 0, .ref (g 12), .ref (g 13), .int 0, .ref (g 14), .ref (g 15), .long 0, .int 0, .int 0, .int 0, .ref (g 16), .ref (g 17)])), ((g 7), .inl (cI, 35, .inl (fun _ => 0))), ((g 6), .inl (cI, 5, .inl (fun _ => 0)))] sz)) 0 0 (va_A [((g 0), .inr (9, [.int 0, .ref (g 1), .ref (g 2), .ref (g 3), .ref (g 4), .ref (g 5), .int 0, .int 0, .int 0, .int 0, .int 0, .long 0, .int 0, .int 0, .int 0, .int (-1), .ref (g 6), .ref (g 7), .ref (g 8), .ref (g 9), .ref (g 10), .ref (g 11), .int 0, .int 0, .int 0, .int 0, .int 0, .ref (g 12), .ref (g 13), .int 0, .ref (g 14), .ref (g 15), .long 0, .int 0, .int 0, .int 0, .ref (g 16), .ref (g 17)])), ((g 7), .inl (cI, 35, .inl (fun _ => 0))), ((g 6), .inl (cI, 5, .inl (fun _ => 0)))] sz) := by
  refine Met.ofW (cc := cX9_hears) (maxL := 2) (ret := (some .int)) (by decide) rfl ?_
  intro p e s m args below meth c s₁ B hml hv
  obtain ⟨rfl, hsz, hP, hK, hD0⟩ := hv
  have hx := B.exec
  have hb := B.bytes
  have hr := B.returns
  have ht : ∀ w ∈ lw_ok, w.before _ s = true := fun w h => atoms_spec (ws := wy yX9_hears cX9_hears 2 (some .int)) B.pre w (List.mem_cons_of_mem _ h)
  have hown : s.vm.findClass RX9 = some m.cls := findClass_of_methodNamed B.named
  have hlocks := B.notSynchronized
  subst hsz
  have hD := hD0.self (sz := s.heap.size)
  generalize hAe : va_A [((g 0), .inr (9, [.int 0, .ref (g 1), .ref (g 2), .ref (g 3), .ref (g 4), .ref (g 5), .int 0, .int 0, .int 0, .int 0, .int 0, .long 0, .int 0, .int 0, .int 0, .int (-1), .ref (g 6), .ref (g 7), .ref (g 8), .ref (g 9), .ref (g 10), .ref (g 11), .int 0, .int 0, .int 0, .int 0, .int 0, .ref (g 12), .ref (g 13), .int 0, .ref (g 14), .ref (g 15), .long 0, .int 0, .int 0, .int 0, .ref (g 16), .ref (g 17)])), ((g 7), .inl (cI, 35, .inl (fun _ => 0))), ((g 6), .inl (cI, 5, .inl (fun _ => 0)))] s.heap.size = A at hD ⊢
  have hA : ∀ q : Nat, s.heap.size ≤ q → A q := fun q h => by rw [← hAe]; exact Or.inr h
  have hS : va_S A s.heap s.heap [] := va_S.rf
  have hl := lv_entry ([.ref (g 0), .int p0]) (n := 2) (Nat.le_of_ble_eq_true rfl)
  rw [lg_entry_eq]
  generalize (lg_sl ([.ref (g 0), .int p0]) ++ List.replicate (2 - (lg_sl ([.ref (g 0), .int p0])).length) Slot.unset).toArray = ls at hl ⊢
  have hl : lv_has ls 2 [(0, .ref (g 0)), (1, .int p0)] := hl
  have hP : va_P (dC, dI) vwCl [((g 0), .inr (9, [.int 0, .ref (g 1), .ref (g 2), .ref (g 3), .ref (g 4), .ref (g 5), .int 0, .int 0, .int 0, .int 0, .int 0, .long 0, .int 0, .int 0, .int 0, .int (-1), .ref (g 6), .ref (g 7), .ref (g 8), .ref (g 9), .ref (g 10), .ref (g 11), .int 0, .int 0, .int 0, .int 0, .int 0, .ref (g 12), .ref (g 13), .int 0, .ref (g 14), .ref (g 15), .long 0, .int 0, .int 0, .int 0, .ref (g 16), .ref (g 17)])), ((g 7), .inl (cI, 35, .inl (fun _ => 0))), ((g 6), .inl (cI, 5, .inl (fun _ => 0)))] s.heap := hP
  have hD : va_D A [((g 0), .inr (9, [.int 0, .ref (g 1), .ref (g 2), .ref (g 3), .ref (g 4), .ref (g 5), .int 0, .int 0, .int 0, .int 0, .int 0, .long 0, .int 0, .int 0, .int 0, .int (-1), .ref (g 6), .ref (g 7), .ref (g 8), .ref (g 9), .ref (g 10), .ref (g 11), .int 0, .int 0, .int 0, .int 0, .int 0, .ref (g 12), .ref (g 13), .int 0, .ref (g 14), .ref (g 15), .long 0, .int 0, .int 0, .int 0, .ref (g 16), .ref (g 17)])), ((g 7), .inl (cI, 35, .inl (fun _ => 0))), ((g 6), .inl (cI, 5, .inl (fun _ => 0)))] := hD
  refine lv_aload_n hx hb dX9_hears_0 rfl (lv_at hl 0 rfl) ?_
  refine lv_iconst (v := 0) hx hb dX9_hears_1 (by decide) ?_
  refine va_put (D := (dC, dI)) (ci := 9) (v := .int 0) (ty := .int) (C := RX9) (T := TX9) (N := 38) hx hb ht iX9 tyX9 tyX9_ok nmX9 hown hK hP hD hS 0 rfl rfl 0 (by decide) (ht _ w_1262) (fun _ h9 => h9) rfl (by decide +kernel) rfl rfl (Nat.le_of_ble_eq_true rfl) dX9_hears_2 (fun H locs hP hD hS => ?_)
  have hP : va_P (dC, dI) vwCl [((g 0), .inr (9, [.int 0, .ref (g 1), .ref (g 2), .ref (g 3), .ref (g 4), .ref (g 5), .int 0, .int 0, .int 0, .int 0, .int 0, .long 0, .int 0, .int 0, .int 0, .int (-1), .ref (g 6), .ref (g 7), .ref (g 8), .ref (g 9), .ref (g 10), .ref (g 11), .int 0, .int 0, .int 0, .int 0, .int 0, .ref (g 12), .ref (g 13), .int 0, .ref (g 14), .ref (g 15), .long 0, .int 0, .int 0, .int 0, .ref (g 16), .ref (g 17)])), ((g 7), .inl (cI, 35, .inl (fun _ => 0))), ((g 6), .inl (cI, 5, .inl (fun _ => 0)))] H := hP
  have hD : va_D A [((g 0), .inr (9, [.int 0, .ref (g 1), .ref (g 2), .ref (g 3), .ref (g 4), .ref (g 5), .int 0, .int 0, .int 0, .int 0, .int 0, .long 0, .int 0, .int 0, .int 0, .int (-1), .ref (g 6), .ref (g 7), .ref (g 8), .ref (g 9), .ref (g 10), .ref (g 11), .int 0, .int 0, .int 0, .int 0, .int 0, .ref (g 12), .ref (g 13), .int 0, .ref (g 14), .ref (g 15), .long 0, .int 0, .int 0, .int 0, .ref (g 16), .ref (g 17)])), ((g 7), .inl (cI, 35, .inl (fun _ => 0))), ((g 6), .inl (cI, 5, .inl (fun _ => 0)))] := hD
  refine lv_aload_n hx hb dX9_hears_5 rfl (lv_at hl 0 rfl) ?_
  refine lv_iload_n hx hb dX9_hears_6 rfl (lv_at hl 1 rfl) ?_
  refine lv_i2l (v := (Int32.toInt64 p0)) hx hb dX9_hears_7 (by first | rfl | decide) ?_
  have hPc := hP.sub (ws' := [((g 0), .inr (9, [.int 0, .ref (g 1), .ref (g 2), .ref (g 3), .ref (g 4), .ref (g 5), .int 0, .int 0, .int 0, .int 0, .int 0, .long 0, .int 0, .int 0, .int 0, .int (-1), .ref (g 6), .ref (g 7), .ref (g 8), .ref (g 9), .ref (g 10), .ref (g 11), .int 0, .int 0, .int 0, .int 0, .int 0, .ref (g 12), .ref (g 13), .int 0, .ref (g 14), .ref (g 15), .long 0, .int 0, .int 0, .int 0, .ref (g 16), .ref (g 17)])), ((g 7), .inl (cI, 35, .inl (fun _ => 0))), ((g 6), .inl (cI, 5, .inl (fun _ => 0)))]) [0, 1, 2] rfl
  refine vp_callSi (W.runV (As := [.long (Int32.toInt64 p0)]) (rest := []) ⟨hx, hb, hml, hown, ht⟩ (k_X9_isDay l dC dI cB cI cJ cZ cL g (Int32.toInt64 p0)) (cwV 1 ht (gV w_1558 w_1560 w_73 w_114 w_1561) rfl rfl rfl (by decide +kernel) ⟨Nat.le_of_ble_eq_true rfl, Nat.le_of_ble_eq_true rfl⟩) (pVS hK hPc (ci := 9) (q0 := 0) rfl rfl) rfl rfl hl.1 rfl (lv_room (Nat.le_of_ble_eq_true rfl)) dX9_hears_8 ⟨Nat.le_of_ble_eq_true rfl, Nat.le_of_ble_eq_true rfl⟩) (fun r_1 hw => ?_)
  subst hw
  refine lv_if_ne (tgt := 17) hx hb dX9_hears_11 (by decide) (fun c9 => by first | exact absurd c9 (by decide) | exact absurd (by decide) c9) (fun _ => ?_)
  refine lv_bipush (v := (-2)) hx hb dX9_hears_14 (by decide) ?_
  refine W.widen (k := 0) (n := 0) (Nat.le_of_ble_eq_true rfl) (Nat.le_of_ble_eq_true rfl) ?_
  exact W.iret (v := (-2)) hx hb hr (fun t ht hW => ⟨⟨(-2), (), rfl, rfl, trivial⟩, hS.F ht⟩) hS.2.2 dX9_hears_16
set_option maxHeartbeats 4000000 in
set_option maxRecDepth 100000 in
theorem k_X9_silent (l : Launch) (dC : Nat → ClassId) (dI : Nat → Nat → Nat) (cB cI cJ cZ cL : ClassId) (sz : Nat) (g : Nat → Nat) (p0 : Int32) : Met l yX9_silent (wy yX9_silent cX9_silent 2 (some .int)) ({ frames := 2, cells := 0, slots := 0, locals := 80 }) (va_Pc [.ref (g 0), .int p0] (fun U => U.heap.size = sz ∧ va_P (dC, dI) vwCl [((g 0), .inr (9, [.int 0, .ref (g 1), .ref (g 2), .ref (g 3), .ref (g 4), .ref (g 5), .int 0, .int 0, .int 0, .int 0, .int 0, .long 0, .int 0, .int 0, .int 0, .int (-1), .ref (g 6), .ref (g 7), .ref (g 8), .ref (g 9), .ref (g 10), .ref (g 11), .int 0, .int 0, .int 0, .int 0, .int 0, .ref (g 12), .ref (g 13), .int 0, .ref (g 14), .ref (g 15), .long 0, .int 0, .int 0, .int 0, .ref (g 16), .ref (g 17)])), ((g 7), .inl (cI, 35, .inl (fun _ => 0))), ((g 6), .inl (cI, 5, .inl (fun _ => 0)))] U.heap ∧ va_K (dC, dI) vwCl (tyL cB cI cJ cZ cL) U ∧ va_D (fun _ => True) [((g 0), .inr (9, [.int 0, .ref (g 1), .ref (g 2), .ref (g 3), .ref (g 4), .ref (g 5), .int 0, .int 0, .int 0, .int 0, .int 0, .long 0, .int 0, .int 0, .int 0, .int (-1), .ref (g 6), .ref (g 7), .ref (g 8), .ref (g 9), .ref (g 10), .ref (g 11), .int 0, .int 0, .int 0, .int 0, .int 0, .ref (g 12), .ref (g 13), .int 0, .ref (g 14), .ref (g 15), .long 0, .int 0, .int 0, .int 0, .ref (g 16), .ref (g 17)])), ((g 7), .inl (cI, 35, .inl (fun _ => 0))), ((g 6), .inl (cI, 5, .inl (fun _ => 0)))])) (va_Qi (fun r _ => r = (-2)) (fun (_ : Unit) _ => True) (va_A [((g 0), .inr (9, [.int 0, .ref (g 1), .ref (g 2), .ref (g 3), .ref (g 4), .ref (g 5), .int 0, .int 0, .int 0, .int 0, .int 0, .long 0, .int 0, .int 0, .int 0, .int (-1), .ref (g 6), .ref (g 7), .ref (g 8), .ref (g 9), .ref (g 10), .ref (g 11), .int 0, .int 0, .int 0, .int 0, .int 0, .ref (g 12), .ref (g 13), .int 0, .ref (g 14), .ref (g 15), .long 0, .int 0, .int 0, .int 0, .ref (g 16), .ref (g 17)])), ((g 7), .inl (cI, 35, .inl (fun _ => 0))), ((g 6), .inl (cI, 5, .inl (fun _ => 0)))] sz)) 0 0 (va_A [((g 0), .inr (9, [.int 0, .ref (g 1), .ref (g 2), .ref (g 3), .ref (g 4), .ref (g 5), .int 0, .int 0, .int 0, .int 0, .int 0, .long 0, .int 0, .int 0, .int 0, .int (-1), .ref (g 6), .ref (g 7), .ref (g 8), .ref (g 9), .ref (g 10), .ref (g 11), .int 0, .int 0, .int 0, .int 0, .int 0, .ref (g 12), .ref (g 13), .int 0, .ref (g 14), .ref (g 15), .long 0, .int 0, .int 0, .int 0, .ref (g 16), .ref (g 17)])), ((g 7), .inl (cI, 35, .inl (fun _ => 0))), ((g 6), .inl (cI, 5, .inl (fun _ => 0)))] sz) := by
  refine Met.ofW (cc := cX9_silent) (maxL := 2) (ret := (some .int)) (by decide) rfl ?_
  intro p e s m args below meth c s₁ B hml hv
  obtain ⟨rfl, hsz, hP, hK, hD0⟩ := hv
  have hx := B.exec
  have hb := B.bytes
  have hr := B.returns
  have ht : ∀ w ∈ lw_ok, w.before _ s = true := fun w h => atoms_spec (ws := wy yX9_silent cX9_silent 2 (some .int)) B.pre w (List.mem_cons_of_mem _ h)
  have hown : s.vm.findClass RX9 = some m.cls := findClass_of_methodNamed B.named
  have hlocks := B.notSynchronized
  subst hsz
  have hD := hD0.self (sz := s.heap.size)
  generalize hAe : va_A [((g 0), .inr (9, [.int 0, .ref (g 1), .ref (g 2), .ref (g 3), .ref (g 4), .ref (g 5), .int 0, .int 0, .int 0, .int 0, .int 0, .long 0, .int 0, .int 0, .int 0, .int (-1), .ref (g 6), .ref (g 7), .ref (g 8), .ref (g 9), .ref (g 10), .ref (g 11), .int 0, .int 0, .int 0, .int 0, .int 0, .ref (g 12), .ref (g 13), .int 0, .ref (g 14), .ref (g 15), .long 0, .int 0, .int 0, .int 0, .ref (g 16), .ref (g 17)])), ((g 7), .inl (cI, 35, .inl (fun _ => 0))), ((g 6), .inl (cI, 5, .inl (fun _ => 0)))] s.heap.size = A at hD ⊢
  have hA : ∀ q : Nat, s.heap.size ≤ q → A q := fun q h => by rw [← hAe]; exact Or.inr h
  have hS : va_S A s.heap s.heap [] := va_S.rf
  have hl := lv_entry ([.ref (g 0), .int p0]) (n := 2) (Nat.le_of_ble_eq_true rfl)
  rw [lg_entry_eq]
  generalize (lg_sl ([.ref (g 0), .int p0]) ++ List.replicate (2 - (lg_sl ([.ref (g 0), .int p0])).length) Slot.unset).toArray = ls at hl ⊢
  have hl : lv_has ls 2 [(0, .ref (g 0)), (1, .int p0)] := hl
  have hP : va_P (dC, dI) vwCl [((g 0), .inr (9, [.int 0, .ref (g 1), .ref (g 2), .ref (g 3), .ref (g 4), .ref (g 5), .int 0, .int 0, .int 0, .int 0, .int 0, .long 0, .int 0, .int 0, .int 0, .int (-1), .ref (g 6), .ref (g 7), .ref (g 8), .ref (g 9), .ref (g 10), .ref (g 11), .int 0, .int 0, .int 0, .int 0, .int 0, .ref (g 12), .ref (g 13), .int 0, .ref (g 14), .ref (g 15), .long 0, .int 0, .int 0, .int 0, .ref (g 16), .ref (g 17)])), ((g 7), .inl (cI, 35, .inl (fun _ => 0))), ((g 6), .inl (cI, 5, .inl (fun _ => 0)))] s.heap := hP
  have hD : va_D A [((g 0), .inr (9, [.int 0, .ref (g 1), .ref (g 2), .ref (g 3), .ref (g 4), .ref (g 5), .int 0, .int 0, .int 0, .int 0, .int 0, .long 0, .int 0, .int 0, .int 0, .int (-1), .ref (g 6), .ref (g 7), .ref (g 8), .ref (g 9), .ref (g 10), .ref (g 11), .int 0, .int 0, .int 0, .int 0, .int 0, .ref (g 12), .ref (g 13), .int 0, .ref (g 14), .ref (g 15), .long 0, .int 0, .int 0, .int 0, .ref (g 16), .ref (g 17)])), ((g 7), .inl (cI, 35, .inl (fun _ => 0))), ((g 6), .inl (cI, 5, .inl (fun _ => 0)))] := hD
  refine lv_aload_n hx hb dX9_silent_0 rfl (lv_at hl 0 rfl) ?_
  refine lv_iconst (v := 0) hx hb dX9_silent_1 (by decide) ?_
  refine va_put (D := (dC, dI)) (ci := 9) (v := .int 0) (ty := .int) (C := RX9) (T := TX9) (N := 38) hx hb ht iX9 tyX9 tyX9_ok nmX9 hown hK hP hD hS 0 rfl rfl 0 (by decide) (ht _ w_1262) (fun _ h9 => h9) rfl (by decide +kernel) rfl rfl (Nat.le_of_ble_eq_true rfl) dX9_silent_2 (fun H locs hP hD hS => ?_)
  have hP : va_P (dC, dI) vwCl [((g 0), .inr (9, [.int 0, .ref (g 1), .ref (g 2), .ref (g 3), .ref (g 4), .ref (g 5), .int 0, .int 0, .int 0, .int 0, .int 0, .long 0, .int 0, .int 0, .int 0, .int (-1), .ref (g 6), .ref (g 7), .ref (g 8), .ref (g 9), .ref (g 10), .ref (g 11), .int 0, .int 0, .int 0, .int 0, .int 0, .ref (g 12), .ref (g 13), .int 0, .ref (g 14), .ref (g 15), .long 0, .int 0, .int 0, .int 0, .ref (g 16), .ref (g 17)])), ((g 7), .inl (cI, 35, .inl (fun _ => 0))), ((g 6), .inl (cI, 5, .inl (fun _ => 0)))] H := hP
  have hD : va_D A [((g 0), .inr (9, [.int 0, .ref (g 1), .ref (g 2), .ref (g 3), .ref (g 4), .ref (g 5), .int 0, .int 0, .int 0, .int 0, .int 0, .long 0, .int 0, .int 0, .int 0, .int (-1), .ref (g 6), .ref (g 7), .ref (g 8), .ref (g 9), .ref (g 10), .ref (g 11), .int 0, .int 0, .int 0, .int 0, .int 0, .ref (g 12), .ref (g 13), .int 0, .ref (g 14), .ref (g 15), .long 0, .int 0, .int 0, .int 0, .ref (g 16), .ref (g 17)])), ((g 7), .inl (cI, 35, .inl (fun _ => 0))), ((g 6), .inl (cI, 5, .inl (fun _ => 0)))] := hD
  refine lv_aload_n hx hb dX9_silent_5 rfl (lv_at hl 0 rfl) ?_
  refine lv_iload_n hx hb dX9_silent_6 rfl (lv_at hl 1 rfl) ?_
  refine lv_i2l (v := (Int32.toInt64 p0)) hx hb dX9_silent_7 (by first | rfl | decide) ?_
  have hPc := hP.sub (ws' := [((g 0), .inr (9, [.int 0, .ref (g 1), .ref (g 2), .ref (g 3), .ref (g 4), .ref (g 5), .int 0, .int 0, .int 0, .int 0, .int 0, .long 0, .int 0, .int 0, .int 0, .int (-1), .ref (g 6), .ref (g 7), .ref (g 8), .ref (g 9), .ref (g 10), .ref (g 11), .int 0, .int 0, .int 0, .int 0, .int 0, .ref (g 12), .ref (g 13), .int 0, .ref (g 14), .ref (g 15), .long 0, .int 0, .int 0, .int 0, .ref (g 16), .ref (g 17)])), ((g 7), .inl (cI, 35, .inl (fun _ => 0))), ((g 6), .inl (cI, 5, .inl (fun _ => 0)))]) [0, 1, 2] rfl
  refine vp_callSi (W.runV (As := [.long (Int32.toInt64 p0)]) (rest := []) ⟨hx, hb, hml, hown, ht⟩ (k_X9_isDay l dC dI cB cI cJ cZ cL g (Int32.toInt64 p0)) (cwV 1 ht (gV w_1558 w_1560 w_73 w_114 w_1561) rfl rfl rfl (by decide +kernel) ⟨Nat.le_of_ble_eq_true rfl, Nat.le_of_ble_eq_true rfl⟩) (pVS hK hPc (ci := 9) (q0 := 0) rfl rfl) rfl rfl hl.1 rfl (lv_room (Nat.le_of_ble_eq_true rfl)) dX9_silent_8 ⟨Nat.le_of_ble_eq_true rfl, Nat.le_of_ble_eq_true rfl⟩) (fun r_1 hw => ?_)
  subst hw
  refine lv_if_ne (tgt := 17) hx hb dX9_silent_11 (by decide) (fun c9 => by first | exact absurd c9 (by decide) | exact absurd (by decide) c9) (fun _ => ?_)
  refine lv_bipush (v := (-2)) hx hb dX9_silent_14 (by decide) ?_
  refine W.widen (k := 0) (n := 0) (Nat.le_of_ble_eq_true rfl) (Nat.le_of_ble_eq_true rfl) ?_
  exact W.iret (v := (-2)) hx hb hr (fun t ht hW => ⟨⟨(-2), (), rfl, rfl, trivial⟩, hS.F ht⟩) hS.2.2 dX9_silent_16
