set_option maxHeartbeats 4000000 in
set_option maxRecDepth 100000 in
theorem k_X9_snaps (l : Launch) (dC : Nat → ClassId) (dI : Nat → Nat → Nat) (cB cI cJ cZ cL : ClassId) (sz : Nat) (g : Nat → Nat) (p0 : Int32) (p1 : Int32) : Met l yX9_snaps (wy yX9_snaps cX9_snaps 3 (some .int)) ({ frames := 3, cells := 0, slots := 0, locals := 120 }) (va_Pc [.ref (g 0), .int p0, .int p1] (fun U => U.heap.size = sz ∧ va_P (dC, dI) vwCl [((g 0), .inr (9, [.int 0, .ref (g 1), .ref (g 2), .ref (g 3), .ref (g 4), .ref (g 5), .int 0, .int 0, .int 0, .int 0, .int 0, .long 0, .int 0, .int 0, .int 0, .int (-1), .ref (g 6), .ref (g 7), .ref (g 8), .ref (g 9), .ref (g 10), .ref (g 11), .int 0, .int 0, .int 0, .int 0, .int 0, .ref (g 12), .ref (g 13), .int 0, .ref (g 14), .ref (g 15), .long 0, .int 0, .int 0, .int 0, .ref (g 16), .ref (g 17)])), ((g 7), .inl (cI, 35, .inl (fun _ => 0))), ((g 6), .inl (cI, 5, .inl (fun _ => 0)))] U.heap ∧ va_K (dC, dI) vwCl (tyL cB cI cJ cZ cL) U ∧ va_D (fun _ => True) [((g 0), .inr (9, [.int 0, .ref (g 1), .ref (g 2), .ref (g 3), .ref (g 4), .ref (g 5), .int 0, .int 0, .int 0, .int 0, .int 0, .long 0, .int 0, .int 0, .int 0, .int (-1), .ref (g 6), .ref (g 7), .ref (g 8), .ref (g 9), .ref (g 10), .ref (g 11), .int 0, .int 0, .int 0, .int 0, .int 0, .ref (g 12), .ref (g 13), .int 0, .ref (g 14), .ref (g 15), .long 0, .int 0, .int 0, .int 0, .ref (g 16), .ref (g 17)])), ((g 7), .inl (cI, 35, .inl (fun _ => 0))), ((g 6), .inl (cI, 5, .inl (fun _ => 0)))])) (va_Qi (fun r _ => r = (-2)) (fun (_ : Unit) _ => True) (va_A [((g 0), .inr (9, [.int 0, .ref (g 1), .ref (g 2), .ref (g 3), .ref (g 4), .ref (g 5), .int 0, .int 0, .int 0, .int 0, .int 0, .long 0, .int 0, .int 0, .int 0, .int (-1), .ref (g 6), .ref (g 7), .ref (g 8), .ref (g 9), .ref (g 10), .ref (g 11), .int 0, .int 0, .int 0, .int 0, .int 0, .ref (g 12), .ref (g 13), .int 0, .ref (g 14), .ref (g 15), .long 0, .int 0, .int 0, .int 0, .ref (g 16), .ref (g 17)])), ((g 7), .inl (cI, 35, .inl (fun _ => 0))), ((g 6), .inl (cI, 5, .inl (fun _ => 0)))] sz)) 0 0 (va_A [((g 0), .inr (9, [.int 0, .ref (g 1), .ref (g 2), .ref (g 3), .ref (g 4), .ref (g 5), .int 0, .int 0, .int 0, .int 0, .int 0, .long 0, .int 0, .int 0, .int 0, .int (-1), .ref (g 6), .ref (g 7), .ref (g 8), .ref (g 9), .ref (g 10), .ref (g 11), .int 0, .int 0, .int 0, .int 0, .int 0, .ref (g 12), .ref (g 13), .int 0, .ref (g 14), .ref (g 15), .long 0, .int 0, .int 0, .int 0, .ref (g 16), .ref (g 17)])), ((g 7), .inl (cI, 35, .inl (fun _ => 0))), ((g 6), .inl (cI, 5, .inl (fun _ => 0)))] sz) := by
  refine Met.ofW (cc := cX9_snaps) (maxL := 3) (ret := (some .int)) (by decide) rfl ?_
  intro p e s m args below meth c s₁ B hml hv
  obtain ⟨rfl, hsz, hP, hK, hD0⟩ := hv
  have hx := B.exec
  have hb := B.bytes
  have hr := B.returns
  have ht : ∀ w ∈ lw_ok, w.before _ s = true := fun w h => atoms_spec (ws := wy yX9_snaps cX9_snaps 3 (some .int)) B.pre w (List.mem_cons_of_mem _ h)
  have hown : s.vm.findClass RX9 = some m.cls := findClass_of_methodNamed B.named
  have hlocks := B.notSynchronized
  subst hsz
  have hD := hD0.self (sz := s.heap.size)
  generalize hAe : va_A [((g 0), .inr (9, [.int 0, .ref (g 1), .ref (g 2), .ref (g 3), .ref (g 4), .ref (g 5), .int 0, .int 0, .int 0, .int 0, .int 0, .long 0, .int 0, .int 0, .int 0, .int (-1), .ref (g 6), .ref (g 7), .ref (g 8), .ref (g 9), .ref (g 10), .ref (g 11), .int 0, .int 0, .int 0, .int 0, .int 0, .ref (g 12), .ref (g 13), .int 0, .ref (g 14), .ref (g 15), .long 0, .int 0, .int 0, .int 0, .ref (g 16), .ref (g 17)])), ((g 7), .inl (cI, 35, .inl (fun _ => 0))), ((g 6), .inl (cI, 5, .inl (fun _ => 0)))] s.heap.size = A at hD ⊢
  have hA : ∀ q : Nat, s.heap.size ≤ q → A q := fun q h => by rw [← hAe]; exact Or.inr h
  have hS : va_S A s.heap s.heap [] := va_S.rf
  have hl := lv_entry ([.ref (g 0), .int p0, .int p1]) (n := 3) (Nat.le_of_ble_eq_true rfl)
  rw [lg_entry_eq]
  generalize (lg_sl ([.ref (g 0), .int p0, .int p1]) ++ List.replicate (3 - (lg_sl ([.ref (g 0), .int p0, .int p1])).length) Slot.unset).toArray = ls at hl ⊢
  have hl : lv_has ls 3 [(0, .ref (g 0)), (1, .int p0), (2, .int p1)] := hl
  have hP : va_P (dC, dI) vwCl [((g 0), .inr (9, [.int 0, .ref (g 1), .ref (g 2), .ref (g 3), .ref (g 4), .ref (g 5), .int 0, .int 0, .int 0, .int 0, .int 0, .long 0, .int 0, .int 0, .int 0, .int (-1), .ref (g 6), .ref (g 7), .ref (g 8), .ref (g 9), .ref (g 10), .ref (g 11), .int 0, .int 0, .int 0, .int 0, .int 0, .ref (g 12), .ref (g 13), .int 0, .ref (g 14), .ref (g 15), .long 0, .int 0, .int 0, .int 0, .ref (g 16), .ref (g 17)])), ((g 7), .inl (cI, 35, .inl (fun _ => 0))), ((g 6), .inl (cI, 5, .inl (fun _ => 0)))] s.heap := hP
  have hD : va_D A [((g 0), .inr (9, [.int 0, .ref (g 1), .ref (g 2), .ref (g 3), .ref (g 4), .ref (g 5), .int 0, .int 0, .int 0, .int 0, .int 0, .long 0, .int 0, .int 0, .int 0, .int (-1), .ref (g 6), .ref (g 7), .ref (g 8), .ref (g 9), .ref (g 10), .ref (g 11), .int 0, .int 0, .int 0, .int 0, .int 0, .ref (g 12), .ref (g 13), .int 0, .ref (g 14), .ref (g 15), .long 0, .int 0, .int 0, .int 0, .ref (g 16), .ref (g 17)])), ((g 7), .inl (cI, 35, .inl (fun _ => 0))), ((g 6), .inl (cI, 5, .inl (fun _ => 0)))] := hD
  refine lv_aload_n hx hb dX9_snaps_0 rfl (lv_at hl 0 rfl) ?_
  refine lv_iconst (v := 0) hx hb dX9_snaps_1 (by decide) ?_
  refine va_put (D := (dC, dI)) (ci := 9) (v := .int 0) (ty := .int) (C := RX9) (T := TX9) (N := 38) hx hb ht iX9 tyX9 tyX9_ok nmX9 hown hK hP hD hS 0 rfl rfl 0 (by decide) (ht _ w_1262) (fun _ h9 => h9) rfl (by decide +kernel) rfl rfl (Nat.le_of_ble_eq_true rfl) dX9_snaps_2 (fun H locs hP hD hS => ?_)
  have hP : va_P (dC, dI) vwCl [((g 0), .inr (9, [.int 0, .ref (g 1), .ref (g 2), .ref (g 3), .ref (g 4), .ref (g 5), .int 0, .int 0, .int 0, .int 0, .int 0, .long 0, .int 0, .int 0, .int 0, .int (-1), .ref (g 6), .ref (g 7), .ref (g 8), .ref (g 9), .ref (g 10), .ref (g 11), .int 0, .int 0, .int 0, .int 0, .int 0, .ref (g 12), .ref (g 13), .int 0, .ref (g 14), .ref (g 15), .long 0, .int 0, .int 0, .int 0, .ref (g 16), .ref (g 17)])), ((g 7), .inl (cI, 35, .inl (fun _ => 0))), ((g 6), .inl (cI, 5, .inl (fun _ => 0)))] H := hP
  have hD : va_D A [((g 0), .inr (9, [.int 0, .ref (g 1), .ref (g 2), .ref (g 3), .ref (g 4), .ref (g 5), .int 0, .int 0, .int 0, .int 0, .int 0, .long 0, .int 0, .int 0, .int 0, .int (-1), .ref (g 6), .ref (g 7), .ref (g 8), .ref (g 9), .ref (g 10), .ref (g 11), .int 0, .int 0, .int 0, .int 0, .int 0, .ref (g 12), .ref (g 13), .int 0, .ref (g 14), .ref (g 15), .long 0, .int 0, .int 0, .int 0, .ref (g 16), .ref (g 17)])), ((g 7), .inl (cI, 35, .inl (fun _ => 0))), ((g 6), .inl (cI, 5, .inl (fun _ => 0)))] := hD
  refine lv_aload_n hx hb dX9_snaps_5 rfl (lv_at hl 0 rfl) ?_
  refine lv_iload_n hx hb dX9_snaps_6 rfl (lv_at hl 1 rfl) ?_
  refine lv_iload_n hx hb dX9_snaps_7 rfl (lv_at hl 2 rfl) ?_
  refine lv_iconst (v := 0) hx hb dX9_snaps_8 (by decide) ?_
  have hPc := hP.sub (ws' := [((g 0), .inr (9, [.int 0, .ref (g 1), .ref (g 2), .ref (g 3), .ref (g 4), .ref (g 5), .int 0, .int 0, .int 0, .int 0, .int 0, .long 0, .int 0, .int 0, .int 0, .int (-1), .ref (g 6), .ref (g 7), .ref (g 8), .ref (g 9), .ref (g 10), .ref (g 11), .int 0, .int 0, .int 0, .int 0, .int 0, .ref (g 12), .ref (g 13), .int 0, .ref (g 14), .ref (g 15), .long 0, .int 0, .int 0, .int 0, .ref (g 16), .ref (g 17)])), ((g 7), .inl (cI, 35, .inl (fun _ => 0))), ((g 6), .inl (cI, 5, .inl (fun _ => 0)))]) [0, 1, 2] rfl
  refine vp_callSi (W.runV (As := [.int p0, .int p1, .int 0]) (rest := []) ⟨hx, hb, hml, hown, ht⟩ (k_X9_isOf l dC dI cB cI cJ cZ cL g p0 p1 0) (cwV 3 ht (gV w_1610 w_1612 w_78 w_114 w_1613) rfl rfl rfl (by decide +kernel) ⟨Nat.le_of_ble_eq_true rfl, Nat.le_of_ble_eq_true rfl⟩) (pVS hK hPc (ci := 9) (q0 := 0) rfl rfl) rfl rfl hl.1 rfl (lv_room (Nat.le_of_ble_eq_true rfl)) dX9_snaps_9 ⟨Nat.le_of_ble_eq_true rfl, Nat.le_of_ble_eq_true rfl⟩) (fun r_1 hw => ?_)
  subst hw
  refine lv_if_ne (tgt := 18) hx hb dX9_snaps_12 (by decide) (fun c9 => by first | exact absurd c9 (by decide) | exact absurd (by decide) c9) (fun _ => ?_)
  refine lv_bipush (v := (-2)) hx hb dX9_snaps_15 (by decide) ?_
  refine W.widen (k := 0) (n := 0) (Nat.le_of_ble_eq_true rfl) (Nat.le_of_ble_eq_true rfl) ?_
  exact W.iret (v := (-2)) hx hb hr (fun t ht hW => ⟨⟨(-2), (), rfl, rfl, trivial⟩, hS.F ht⟩) hS.2.2 dX9_snaps_17
set_option maxHeartbeats 4000000 in
set_option maxRecDepth 100000 in
theorem k_X9_undo (l : Launch) (dC : Nat → ClassId) (dI : Nat → Nat → Nat) (cB cI cJ cZ cL : ClassId) (sz : Nat) (g : Nat → Nat)  : Met l yX9_undo (wy yX9_undo cX9_undo 1 (some .int)) ({ frames := 1, cells := 0, slots := 0, locals := 40 }) (va_Pc [.ref (g 0)] (fun U => U.heap.size = sz ∧ va_P (dC, dI) vwCl [((g 0), .inr (9, [.int 0, .ref (g 1), .ref (g 2), .ref (g 3), .ref (g 4), .ref (g 5), .int 0, .int 0, .int 0, .int 0, .int 0, .long 0, .int 0, .int 0, .int 0, .int (-1), .ref (g 6), .ref (g 7), .ref (g 8), .ref (g 9), .ref (g 10), .ref (g 11), .int 0, .int 0, .int 0, .int 0, .int 0, .ref (g 12), .ref (g 13), .int 0, .ref (g 14), .ref (g 15), .long 0, .int 0, .int 0, .int 0, .ref (g 16), .ref (g 17)])), ((g 7), .inl (cI, 35, .inl (fun _ => 0))), ((g 6), .inl (cI, 5, .inl (fun _ => 0)))] U.heap ∧ va_K (dC, dI) vwCl (tyL cB cI cJ cZ cL) U ∧ va_D (fun _ => True) [((g 0), .inr (9, [.int 0, .ref (g 1), .ref (g 2), .ref (g 3), .ref (g 4), .ref (g 5), .int 0, .int 0, .int 0, .int 0, .int 0, .long 0, .int 0, .int 0, .int 0, .int (-1), .ref (g 6), .ref (g 7), .ref (g 8), .ref (g 9), .ref (g 10), .ref (g 11), .int 0, .int 0, .int 0, .int 0, .int 0, .ref (g 12), .ref (g 13), .int 0, .ref (g 14), .ref (g 15), .long 0, .int 0, .int 0, .int 0, .ref (g 16), .ref (g 17)])), ((g 7), .inl (cI, 35, .inl (fun _ => 0))), ((g 6), .inl (cI, 5, .inl (fun _ => 0)))])) (va_Qi (fun r _ => r = (-2)) (fun (_ : Unit) _ => True) (va_A [((g 0), .inr (9, [.int 0, .ref (g 1), .ref (g 2), .ref (g 3), .ref (g 4), .ref (g 5), .int 0, .int 0, .int 0, .int 0, .int 0, .long 0, .int 0, .int 0, .int 0, .int (-1), .ref (g 6), .ref (g 7), .ref (g 8), .ref (g 9), .ref (g 10), .ref (g 11), .int 0, .int 0, .int 0, .int 0, .int 0, .ref (g 12), .ref (g 13), .int 0, .ref (g 14), .ref (g 15), .long 0, .int 0, .int 0, .int 0, .ref (g 16), .ref (g 17)])), ((g 7), .inl (cI, 35, .inl (fun _ => 0))), ((g 6), .inl (cI, 5, .inl (fun _ => 0)))] sz)) 0 0 (va_A [((g 0), .inr (9, [.int 0, .ref (g 1), .ref (g 2), .ref (g 3), .ref (g 4), .ref (g 5), .int 0, .int 0, .int 0, .int 0, .int 0, .long 0, .int 0, .int 0, .int 0, .int (-1), .ref (g 6), .ref (g 7), .ref (g 8), .ref (g 9), .ref (g 10), .ref (g 11), .int 0, .int 0, .int 0, .int 0, .int 0, .ref (g 12), .ref (g 13), .int 0, .ref (g 14), .ref (g 15), .long 0, .int 0, .int 0, .int 0, .ref (g 16), .ref (g 17)])), ((g 7), .inl (cI, 35, .inl (fun _ => 0))), ((g 6), .inl (cI, 5, .inl (fun _ => 0)))] sz) := by
  refine Met.ofW (cc := cX9_undo) (maxL := 1) (ret := (some .int)) (by decide) rfl ?_
  intro p e s m args below meth c s₁ B hml hv
  obtain ⟨rfl, hsz, hP, hK, hD0⟩ := hv
  have hx := B.exec
  have hb := B.bytes
  have hr := B.returns
  have ht : ∀ w ∈ lw_ok, w.before _ s = true := fun w h => atoms_spec (ws := wy yX9_undo cX9_undo 1 (some .int)) B.pre w (List.mem_cons_of_mem _ h)
  have hown : s.vm.findClass RX9 = some m.cls := findClass_of_methodNamed B.named
  have hlocks := B.notSynchronized
  subst hsz
  have hD := hD0.self (sz := s.heap.size)
  generalize hAe : va_A [((g 0), .inr (9, [.int 0, .ref (g 1), .ref (g 2), .ref (g 3), .ref (g 4), .ref (g 5), .int 0, .int 0, .int 0, .int 0, .int 0, .long 0, .int 0, .int 0, .int 0, .int (-1), .ref (g 6), .ref (g 7), .ref (g 8), .ref (g 9), .ref (g 10), .ref (g 11), .int 0, .int 0, .int 0, .int 0, .int 0, .ref (g 12), .ref (g 13), .int 0, .ref (g 14), .ref (g 15), .long 0, .int 0, .int 0, .int 0, .ref (g 16), .ref (g 17)])), ((g 7), .inl (cI, 35, .inl (fun _ => 0))), ((g 6), .inl (cI, 5, .inl (fun _ => 0)))] s.heap.size = A at hD ⊢
  have hA : ∀ q : Nat, s.heap.size ≤ q → A q := fun q h => by rw [← hAe]; exact Or.inr h
  have hS : va_S A s.heap s.heap [] := va_S.rf
  have hl := lv_entry ([.ref (g 0)]) (n := 1) (Nat.le_of_ble_eq_true rfl)
  rw [lg_entry_eq]
  generalize (lg_sl ([.ref (g 0)]) ++ List.replicate (1 - (lg_sl ([.ref (g 0)])).length) Slot.unset).toArray = ls at hl ⊢
  have hl : lv_has ls 1 [(0, .ref (g 0))] := hl
  have hP : va_P (dC, dI) vwCl [((g 0), .inr (9, [.int 0, .ref (g 1), .ref (g 2), .ref (g 3), .ref (g 4), .ref (g 5), .int 0, .int 0, .int 0, .int 0, .int 0, .long 0, .int 0, .int 0, .int 0, .int (-1), .ref (g 6), .ref (g 7), .ref (g 8), .ref (g 9), .ref (g 10), .ref (g 11), .int 0, .int 0, .int 0, .int 0, .int 0, .ref (g 12), .ref (g 13), .int 0, .ref (g 14), .ref (g 15), .long 0, .int 0, .int 0, .int 0, .ref (g 16), .ref (g 17)])), ((g 7), .inl (cI, 35, .inl (fun _ => 0))), ((g 6), .inl (cI, 5, .inl (fun _ => 0)))] s.heap := hP
  have hD : va_D A [((g 0), .inr (9, [.int 0, .ref (g 1), .ref (g 2), .ref (g 3), .ref (g 4), .ref (g 5), .int 0, .int 0, .int 0, .int 0, .int 0, .long 0, .int 0, .int 0, .int 0, .int (-1), .ref (g 6), .ref (g 7), .ref (g 8), .ref (g 9), .ref (g 10), .ref (g 11), .int 0, .int 0, .int 0, .int 0, .int 0, .ref (g 12), .ref (g 13), .int 0, .ref (g 14), .ref (g 15), .long 0, .int 0, .int 0, .int 0, .ref (g 16), .ref (g 17)])), ((g 7), .inl (cI, 35, .inl (fun _ => 0))), ((g 6), .inl (cI, 5, .inl (fun _ => 0)))] := hD
  refine lv_aload_n hx hb dX9_undo_0 rfl (lv_at hl 0 rfl) ?_
  refine lv_iconst (v := 0) hx hb dX9_undo_1 (by decide) ?_
  refine va_put (D := (dC, dI)) (ci := 9) (v := .int 0) (ty := .int) (C := RX9) (T := TX9) (N := 38) hx hb ht iX9 tyX9 tyX9_ok nmX9 hown hK hP hD hS 0 rfl rfl 0 (by decide) (ht _ w_1262) (fun _ h9 => h9) rfl (by decide +kernel) rfl rfl (Nat.le_of_ble_eq_true rfl) dX9_undo_2 (fun H locs hP hD hS => ?_)
  have hP : va_P (dC, dI) vwCl [((g 0), .inr (9, [.int 0, .ref (g 1), .ref (g 2), .ref (g 3), .ref (g 4), .ref (g 5), .int 0, .int 0, .int 0, .int 0, .int 0, .long 0, .int 0, .int 0, .int 0, .int (-1), .ref (g 6), .ref (g 7), .ref (g 8), .ref (g 9), .ref (g 10), .ref (g 11), .int 0, .int 0, .int 0, .int 0, .int 0, .ref (g 12), .ref (g 13), .int 0, .ref (g 14), .ref (g 15), .long 0, .int 0, .int 0, .int 0, .ref (g 16), .ref (g 17)])), ((g 7), .inl (cI, 35, .inl (fun _ => 0))), ((g 6), .inl (cI, 5, .inl (fun _ => 0)))] H := hP
  have hD : va_D A [((g 0), .inr (9, [.int 0, .ref (g 1), .ref (g 2), .ref (g 3), .ref (g 4), .ref (g 5), .int 0, .int 0, .int 0, .int 0, .int 0, .long 0, .int 0, .int 0, .int 0, .int (-1), .ref (g 6), .ref (g 7), .ref (g 8), .ref (g 9), .ref (g 10), .ref (g 11), .int 0, .int 0, .int 0, .int 0, .int 0, .ref (g 12), .ref (g 13), .int 0, .ref (g 14), .ref (g 15), .long 0, .int 0, .int 0, .int 0, .ref (g 16), .ref (g 17)])), ((g 7), .inl (cI, 35, .inl (fun _ => 0))), ((g 6), .inl (cI, 5, .inl (fun _ => 0)))] := hD
  refine lv_aload_n hx hb dX9_undo_5 rfl (lv_at hl 0 rfl) ?_
  have hPc := hP.sub (ws' := [((g 0), .inr (9, [.int 0, .ref (g 1), .ref (g 2), .ref (g 3), .ref (g 4), .ref (g 5), .int 0, .int 0, .int 0, .int 0, .int 0, .long 0, .int 0, .int 0, .int 0, .int (-1), .ref (g 6), .ref (g 7), .ref (g 8), .ref (g 9), .ref (g 10), .ref (g 11), .int 0, .int 0, .int 0, .int 0, .int 0, .ref (g 12), .ref (g 13), .int 0, .ref (g 14), .ref (g 15), .long 0, .int 0, .int 0, .int 0, .ref (g 16), .ref (g 17)])), ((g 7), .inl (cI, 35, .inl (fun _ => 0))), ((g 6), .inl (cI, 5, .inl (fun _ => 0)))]) [0, 1, 2] rfl
  refine vp_callSi (W.runV (As := []) (rest := []) ⟨hx, hb, hml, hown, ht⟩ (k_X9_isWire l dC dI cB cI cJ cZ cL g) (cwV 0 ht (gV w_1530 w_1532 w_68 w_114 w_1533) rfl rfl rfl (by decide +kernel) ⟨Nat.le_of_ble_eq_true rfl, Nat.le_of_ble_eq_true rfl⟩) (pVS hK hPc (ci := 9) (q0 := 0) rfl rfl) rfl rfl hl.1 rfl (lv_room (Nat.le_of_ble_eq_true rfl)) dX9_undo_6 ⟨Nat.le_of_ble_eq_true rfl, Nat.le_of_ble_eq_true rfl⟩) (fun r_1 hw => ?_)
  subst hw
  refine lv_if_ne (tgt := 15) hx hb dX9_undo_9 (by decide) (fun c9 => by first | exact absurd c9 (by decide) | exact absurd (by decide) c9) (fun _ => ?_)
  refine lv_bipush (v := (-2)) hx hb dX9_undo_12 (by decide) ?_
  refine W.widen (k := 0) (n := 0) (Nat.le_of_ble_eq_true rfl) (Nat.le_of_ble_eq_true rfl) ?_
  exact W.iret (v := (-2)) hx hb hr (fun t ht hW => ⟨⟨(-2), (), rfl, rfl, trivial⟩, hS.F ht⟩) hS.2.2 dX9_undo_14
set_option maxHeartbeats 4000000 in
set_option maxRecDepth 100000 in
theorem k_X9_anew (l : Launch) (dC : Nat → ClassId) (dI : Nat → Nat → Nat) (cB cI cJ cZ cL : ClassId) (sz : Nat) (g : Nat → Nat)  : Met l yX9_anew (wy yX9_anew cX9_anew 2 (some .int)) ({ frames := 1, cells := 0, slots := 0, locals := 40 }) (va_Pc [.ref (g 0)] (fun U => U.heap.size = sz ∧ va_P (dC, dI) vwCl [((g 0), .inr (9, [.int 0, .ref (g 1), .ref (g 2), .ref (g 3), .ref (g 4), .ref (g 5), .int 0, .int 0, .int 0, .int 0, .int 0, .long 0, .int 0, .int 0, .int 0, .int (-1), .ref (g 6), .ref (g 7), .ref (g 8), .ref (g 9), .ref (g 10), .ref (g 11), .int 0, .int 0, .int 0, .int 0, .int 0, .ref (g 12), .ref (g 13), .int 0, .ref (g 14), .ref (g 15), .long 0, .int 0, .int 0, .int 0, .ref (g 16), .ref (g 17)])), ((g 7), .inl (cI, 35, .inl (fun _ => 0))), ((g 6), .inl (cI, 5, .inl (fun _ => 0)))] U.heap ∧ va_K (dC, dI) vwCl (tyL cB cI cJ cZ cL) U ∧ va_D (fun _ => True) [((g 0), .inr (9, [.int 0, .ref (g 1), .ref (g 2), .ref (g 3), .ref (g 4), .ref (g 5), .int 0, .int 0, .int 0, .int 0, .int 0, .long 0, .int 0, .int 0, .int 0, .int (-1), .ref (g 6), .ref (g 7), .ref (g 8), .ref (g 9), .ref (g 10), .ref (g 11), .int 0, .int 0, .int 0, .int 0, .int 0, .ref (g 12), .ref (g 13), .int 0, .ref (g 14), .ref (g 15), .long 0, .int 0, .int 0, .int 0, .ref (g 16), .ref (g 17)])), ((g 7), .inl (cI, 35, .inl (fun _ => 0))), ((g 6), .inl (cI, 5, .inl (fun _ => 0)))])) (va_Qi (fun r _ => r = (-2)) (fun (_ : Unit) _ => True) (va_A [((g 0), .inr (9, [.int 0, .ref (g 1), .ref (g 2), .ref (g 3), .ref (g 4), .ref (g 5), .int 0, .int 0, .int 0, .int 0, .int 0, .long 0, .int 0, .int 0, .int 0, .int (-1), .ref (g 6), .ref (g 7), .ref (g 8), .ref (g 9), .ref (g 10), .ref (g 11), .int 0, .int 0, .int 0, .int 0, .int 0, .ref (g 12), .ref (g 13), .int 0, .ref (g 14), .ref (g 15), .long 0, .int 0, .int 0, .int 0, .ref (g 16), .ref (g 17)])), ((g 7), .inl (cI, 35, .inl (fun _ => 0))), ((g 6), .inl (cI, 5, .inl (fun _ => 0)))] sz)) 0 0 (va_A [((g 0), .inr (9, [.int 0, .ref (g 1), .ref (g 2), .ref (g 3), .ref (g 4), .ref (g 5), .int 0, .int 0, .int 0, .int 0, .int 0, .long 0, .int 0, .int 0, .int 0, .int (-1), .ref (g 6), .ref (g 7), .ref (g 8), .ref (g 9), .ref (g 10), .ref (g 11), .int 0, .int 0, .int 0, .int 0, .int 0, .ref (g 12), .ref (g 13), .int 0, .ref (g 14), .ref (g 15), .long 0, .int 0, .int 0, .int 0, .ref (g 16), .ref (g 17)])), ((g 7), .inl (cI, 35, .inl (fun _ => 0))), ((g 6), .inl (cI, 5, .inl (fun _ => 0)))] sz) := by
  refine Met.ofW (cc := cX9_anew) (maxL := 2) (ret := (some .int)) (by decide) rfl ?_
  intro p e s m args below meth c s₁ B hml hv
  obtain ⟨rfl, hsz, hP, hK, hD0⟩ := hv
  have hx := B.exec
  have hb := B.bytes
  have hr := B.returns
  have ht : ∀ w ∈ lw_ok, w.before _ s = true := fun w h => atoms_spec (ws := wy yX9_anew cX9_anew 2 (some .int)) B.pre w (List.mem_cons_of_mem _ h)
  have hown : s.vm.findClass RX9 = some m.cls := findClass_of_methodNamed B.named
  have hlocks := B.notSynchronized
  subst hsz
  have hD := hD0.self (sz := s.heap.size)
  generalize hAe : va_A [((g 0), .inr (9, [.int 0, .ref (g 1), .ref (g 2), .ref (g 3), .ref (g 4), .ref (g 5), .int 0, .int 0, .int 0, .int 0, .int 0, .long 0, .int 0, .int 0, .int 0, .int (-1), .ref (g 6), .ref (g 7), .ref (g 8), .ref (g 9), .ref (g 10), .ref (g 11), .int 0, .int 0, .int 0, .int 0, .int 0, .ref (g 12), .ref (g 13), .int 0, .ref (g 14), .ref (g 15), .long 0, .int 0, .int 0, .int 0, .ref (g 16), .ref (g 17)])), ((g 7), .inl (cI, 35, .inl (fun _ => 0))), ((g 6), .inl (cI, 5, .inl (fun _ => 0)))] s.heap.size = A at hD ⊢
  have hA : ∀ q : Nat, s.heap.size ≤ q → A q := fun q h => by rw [← hAe]; exact Or.inr h
  have hS : va_S A s.heap s.heap [] := va_S.rf
  have hl := lv_entry ([.ref (g 0)]) (n := 2) (Nat.le_of_ble_eq_true rfl)
  rw [lg_entry_eq]
  generalize (lg_sl ([.ref (g 0)]) ++ List.replicate (2 - (lg_sl ([.ref (g 0)])).length) Slot.unset).toArray = ls at hl ⊢
  have hl : lv_has ls 2 [(0, .ref (g 0))] := hl
  have hP : va_P (dC, dI) vwCl [((g 0), .inr (9, [.int 0, .ref (g 1), .ref (g 2), .ref (g 3), .ref (g 4), .ref (g 5), .int 0, .int 0, .int 0, .int 0, .int 0, .long 0, .int 0, .int 0, .int 0, .int (-1), .ref (g 6), .ref (g 7), .ref (g 8), .ref (g 9), .ref (g 10), .ref (g 11), .int 0, .int 0, .int 0, .int 0, .int 0, .ref (g 12), .ref (g 13), .int 0, .ref (g 14), .ref (g 15), .long 0, .int 0, .int 0, .int 0, .ref (g 16), .ref (g 17)])), ((g 7), .inl (cI, 35, .inl (fun _ => 0))), ((g 6), .inl (cI, 5, .inl (fun _ => 0)))] s.heap := hP
  have hD : va_D A [((g 0), .inr (9, [.int 0, .ref (g 1), .ref (g 2), .ref (g 3), .ref (g 4), .ref (g 5), .int 0, .int 0, .int 0, .int 0, .int 0, .long 0, .int 0, .int 0, .int 0, .int (-1), .ref (g 6), .ref (g 7), .ref (g 8), .ref (g 9), .ref (g 10), .ref (g 11), .int 0, .int 0, .int 0, .int 0, .int 0, .ref (g 12), .ref (g 13), .int 0, .ref (g 14), .ref (g 15), .long 0, .int 0, .int 0, .int 0, .ref (g 16), .ref (g 17)])), ((g 7), .inl (cI, 35, .inl (fun _ => 0))), ((g 6), .inl (cI, 5, .inl (fun _ => 0)))] := hD
  refine lv_aload_n hx hb dX9_anew_0 rfl (lv_at hl 0 rfl) ?_
  refine lv_iconst (v := 0) hx hb dX9_anew_1 (by decide) ?_
  refine va_put (D := (dC, dI)) (ci := 9) (v := .int 0) (ty := .int) (C := RX9) (T := TX9) (N := 38) hx hb ht iX9 tyX9 tyX9_ok nmX9 hown hK hP hD hS 0 rfl rfl 0 (by decide) (ht _ w_1262) (fun _ h9 => h9) rfl (by decide +kernel) rfl rfl (Nat.le_of_ble_eq_true rfl) dX9_anew_2 (fun H locs hP hD hS => ?_)
  have hP : va_P (dC, dI) vwCl [((g 0), .inr (9, [.int 0, .ref (g 1), .ref (g 2), .ref (g 3), .ref (g 4), .ref (g 5), .int 0, .int 0, .int 0, .int 0, .int 0, .long 0, .int 0, .int 0, .int 0, .int (-1), .ref (g 6), .ref (g 7), .ref (g 8), .ref (g 9), .ref (g 10), .ref (g 11), .int 0, .int 0, .int 0, .int 0, .int 0, .ref (g 12), .ref (g 13), .int 0, .ref (g 14), .ref (g 15), .long 0, .int 0, .int 0, .int 0, .ref (g 16), .ref (g 17)])), ((g 7), .inl (cI, 35, .inl (fun _ => 0))), ((g 6), .inl (cI, 5, .inl (fun _ => 0)))] H := hP
  have hD : va_D A [((g 0), .inr (9, [.int 0, .ref (g 1), .ref (g 2), .ref (g 3), .ref (g 4), .ref (g 5), .int 0, .int 0, .int 0, .int 0, .int 0, .long 0, .int 0, .int 0, .int 0, .int (-1), .ref (g 6), .ref (g 7), .ref (g 8), .ref (g 9), .ref (g 10), .ref (g 11), .int 0, .int 0, .int 0, .int 0, .int 0, .ref (g 12), .ref (g 13), .int 0, .ref (g 14), .ref (g 15), .long 0, .int 0, .int 0, .int 0, .ref (g 16), .ref (g 17)])), ((g 7), .inl (cI, 35, .inl (fun _ => 0))), ((g 6), .inl (cI, 5, .inl (fun _ => 0)))] := hD
  refine lv_aload_n hx hb dX9_anew_5 rfl (lv_at hl 0 rfl) ?_
  have hPc := hP.sub (ws' := [((g 0), .inr (9, [.int 0, .ref (g 1), .ref (g 2), .ref (g 3), .ref (g 4), .ref (g 5), .int 0, .int 0, .int 0, .int 0, .int 0, .long 0, .int 0, .int 0, .int 0, .int (-1), .ref (g 6), .ref (g 7), .ref (g 8), .ref (g 9), .ref (g 10), .ref (g 11), .int 0, .int 0, .int 0, .int 0, .int 0, .ref (g 12), .ref (g 13), .int 0, .ref (g 14), .ref (g 15), .long 0, .int 0, .int 0, .int 0, .ref (g 16), .ref (g 17)])), ((g 7), .inl (cI, 35, .inl (fun _ => 0))), ((g 6), .inl (cI, 5, .inl (fun _ => 0)))]) [0, 1, 2] rfl
  refine vp_callSi (W.runV (As := []) (rest := []) ⟨hx, hb, hml, hown, ht⟩ (k_X9_isWire l dC dI cB cI cJ cZ cL g) (cwV 0 ht (gV w_1530 w_1532 w_68 w_114 w_1533) rfl rfl rfl (by decide +kernel) ⟨Nat.le_of_ble_eq_true rfl, Nat.le_of_ble_eq_true rfl⟩) (pVS hK hPc (ci := 9) (q0 := 0) rfl rfl) rfl rfl hl.1 rfl (lv_room (Nat.le_of_ble_eq_true rfl)) dX9_anew_6 ⟨Nat.le_of_ble_eq_true rfl, Nat.le_of_ble_eq_true rfl⟩) (fun r_1 hw => ?_)
  subst hw
  refine lv_if_ne (tgt := 15) hx hb dX9_anew_9 (by decide) (fun c9 => by first | exact absurd c9 (by decide) | exact absurd (by decide) c9) (fun _ => ?_)
  refine lv_bipush (v := (-2)) hx hb dX9_anew_12 (by decide) ?_
  refine W.widen (k := 0) (n := 0) (Nat.le_of_ble_eq_true rfl) (Nat.le_of_ble_eq_true rfl) ?_
  exact W.iret (v := (-2)) hx hb hr (fun t ht hW => ⟨⟨(-2), (), rfl, rfl, trivial⟩, hS.F ht⟩) hS.2.2 dX9_anew_14
set_option maxHeartbeats 4000000 in
set_option maxRecDepth 100000 in
theorem k_X9_drawn (l : Launch) (dC : Nat → ClassId) (dI : Nat → Nat → Nat) (cB cI cJ cZ cL : ClassId) (sz : Nat) (g : Nat → Nat) (p0 : Int32) (p1 : Int32) : Met l yX9_drawn (wy yX9_drawn cX9_drawn 3 (some .int)) ({ frames := 1, cells := 0, slots := 0, locals := 40 }) (va_Pc [.ref (g 0), .int p0, .int p1] (fun U => U.heap.size = sz ∧ va_P (dC, dI) vwCl [((g 0), .inr (9, [.int 0, .ref (g 1), .ref (g 2), .ref (g 3), .ref (g 4), .ref (g 5), .int 0, .int 0, .int 0, .int 0, .int 0, .long 0, .int 0, .int 0, .int 0, .int (-1), .ref (g 6), .ref (g 7), .ref (g 8), .ref (g 9), .ref (g 10), .ref (g 11), .int 0, .int 0, .int 0, .int 0, .int 0, .ref (g 12), .ref (g 13), .int 0, .ref (g 14), .ref (g 15), .long 0, .int 0, .int 0, .int 0, .ref (g 16), .ref (g 17)])), ((g 7), .inl (cI, 35, .inl (fun _ => 0))), ((g 6), .inl (cI, 5, .inl (fun _ => 0)))] U.heap ∧ va_K (dC, dI) vwCl (tyL cB cI cJ cZ cL) U ∧ va_D (fun _ => True) [((g 0), .inr (9, [.int 0, .ref (g 1), .ref (g 2), .ref (g 3), .ref (g 4), .ref (g 5), .int 0, .int 0, .int 0, .int 0, .int 0, .long 0, .int 0, .int 0, .int 0, .int (-1), .ref (g 6), .ref (g 7), .ref (g 8), .ref (g 9), .ref (g 10), .ref (g 11), .int 0, .int 0, .int 0, .int 0, .int 0, .ref (g 12), .ref (g 13), .int 0, .ref (g 14), .ref (g 15), .long 0, .int 0, .int 0, .int 0, .ref (g 16), .ref (g 17)])), ((g 7), .inl (cI, 35, .inl (fun _ => 0))), ((g 6), .inl (cI, 5, .inl (fun _ => 0)))])) (va_Qi (fun r _ => r = (-2)) (fun (_ : Unit) _ => True) (va_A [((g 0), .inr (9, [.int 0, .ref (g 1), .ref (g 2), .ref (g 3), .ref (g 4), .ref (g 5), .int 0, .int 0, .int 0, .int 0, .int 0, .long 0, .int 0, .int 0, .int 0, .int (-1), .ref (g 6), .ref (g 7), .ref (g 8), .ref (g 9), .ref (g 10), .ref (g 11), .int 0, .int 0, .int 0, .int 0, .int 0, .ref (g 12), .ref (g 13), .int 0, .ref (g 14), .ref (g 15), .long 0, .int 0, .int 0, .int 0, .ref (g 16), .ref (g 17)])), ((g 7), .inl (cI, 35, .inl (fun _ => 0))), ((g 6), .inl (cI, 5, .inl (fun _ => 0)))] sz)) 0 0 (va_A [((g 0), .inr (9, [.int 0, .ref (g 1), .ref (g 2), .ref (g 3), .ref (g 4), .ref (g 5), .int 0, .int 0, .int 0, .int 0, .int 0, .long 0, .int 0, .int 0, .int 0, .int (-1), .ref (g 6), .ref (g 7), .ref (g 8), .ref (g 9), .ref (g 10), .ref (g 11), .int 0, .int 0, .int 0, .int 0, .int 0, .ref (g 12), .ref (g 13), .int 0, .ref (g 14), .ref (g 15), .long 0, .int 0, .int 0, .int 0, .ref (g 16), .ref (g 17)])), ((g 7), .inl (cI, 35, .inl (fun _ => 0))), ((g 6), .inl (cI, 5, .inl (fun _ => 0)))] sz) := by
  refine Met.ofW (cc := cX9_drawn) (maxL := 3) (ret := (some .int)) (by decide) rfl ?_
  intro p e s m args below meth c s₁ B hml hv
  obtain ⟨rfl, hsz, hP, hK, hD0⟩ := hv
  have hx := B.exec
  have hb := B.bytes
  have hr := B.returns
  have ht : ∀ w ∈ lw_ok, w.before _ s = true := fun w h => atoms_spec (ws := wy yX9_drawn cX9_drawn 3 (some .int)) B.pre w (List.mem_cons_of_mem _ h)
  have hown : s.vm.findClass RX9 = some m.cls := findClass_of_methodNamed B.named
  have hlocks := B.notSynchronized
  subst hsz
  have hD := hD0.self (sz := s.heap.size)
  generalize hAe : va_A [((g 0), .inr (9, [.int 0, .ref (g 1), .ref (g 2), .ref (g 3), .ref (g 4), .ref (g 5), .int 0, .int 0, .int 0, .int 0, .int 0, .long 0, .int 0, .int 0, .int 0, .int (-1), .ref (g 6), .ref (g 7), .ref (g 8), .ref (g 9), .ref (g 10), .ref (g 11), .int 0, .int 0, .int 0, .int 0, .int 0, .ref (g 12), .ref (g 13), .int 0, .ref (g 14), .ref (g 15), .long 0, .int 0, .int 0, .int 0, .ref (g 16), .ref (g 17)])), ((g 7), .inl (cI, 35, .inl (fun _ => 0))), ((g 6), .inl (cI, 5, .inl (fun _ => 0)))] s.heap.size = A at hD ⊢
  have hA : ∀ q : Nat, s.heap.size ≤ q → A q := fun q h => by rw [← hAe]; exact Or.inr h
  have hS : va_S A s.heap s.heap [] := va_S.rf
  have hl := lv_entry ([.ref (g 0), .int p0, .int p1]) (n := 3) (Nat.le_of_ble_eq_true rfl)
  rw [lg_entry_eq]
  generalize (lg_sl ([.ref (g 0), .int p0, .int p1]) ++ List.replicate (3 - (lg_sl ([.ref (g 0), .int p0, .int p1])).length) Slot.unset).toArray = ls at hl ⊢
  have hl : lv_has ls 3 [(0, .ref (g 0)), (1, .int p0), (2, .int p1)] := hl
  have hP : va_P (dC, dI) vwCl [((g 0), .inr (9, [.int 0, .ref (g 1), .ref (g 2), .ref (g 3), .ref (g 4), .ref (g 5), .int 0, .int 0, .int 0, .int 0, .int 0, .long 0, .int 0, .int 0, .int 0, .int (-1), .ref (g 6), .ref (g 7), .ref (g 8), .ref (g 9), .ref (g 10), .ref (g 11), .int 0, .int 0, .int 0, .int 0, .int 0, .ref (g 12), .ref (g 13), .int 0, .ref (g 14), .ref (g 15), .long 0, .int 0, .int 0, .int 0, .ref (g 16), .ref (g 17)])), ((g 7), .inl (cI, 35, .inl (fun _ => 0))), ((g 6), .inl (cI, 5, .inl (fun _ => 0)))] s.heap := hP
  have hD : va_D A [((g 0), .inr (9, [.int 0, .ref (g 1), .ref (g 2), .ref (g 3), .ref (g 4), .ref (g 5), .int 0, .int 0, .int 0, .int 0, .int 0, .long 0, .int 0, .int 0, .int 0, .int (-1), .ref (g 6), .ref (g 7), .ref (g 8), .ref (g 9), .ref (g 10), .ref (g 11), .int 0, .int 0, .int 0, .int 0, .int 0, .ref (g 12), .ref (g 13), .int 0, .ref (g 14), .ref (g 15), .long 0, .int 0, .int 0, .int 0, .ref (g 16), .ref (g 17)])), ((g 7), .inl (cI, 35, .inl (fun _ => 0))), ((g 6), .inl (cI, 5, .inl (fun _ => 0)))] := hD
  refine lv_aload_n hx hb dX9_drawn_0 rfl (lv_at hl 0 rfl) ?_
  refine lv_iconst (v := 0) hx hb dX9_drawn_1 (by decide) ?_
  refine va_put (D := (dC, dI)) (ci := 9) (v := .int 0) (ty := .int) (C := RX9) (T := TX9) (N := 38) hx hb ht iX9 tyX9 tyX9_ok nmX9 hown hK hP hD hS 0 rfl rfl 0 (by decide) (ht _ w_1262) (fun _ h9 => h9) rfl (by decide +kernel) rfl rfl (Nat.le_of_ble_eq_true rfl) dX9_drawn_2 (fun H locs hP hD hS => ?_)
  have hP : va_P (dC, dI) vwCl [((g 0), .inr (9, [.int 0, .ref (g 1), .ref (g 2), .ref (g 3), .ref (g 4), .ref (g 5), .int 0, .int 0, .int 0, .int 0, .int 0, .long 0, .int 0, .int 0, .int 0, .int (-1), .ref (g 6), .ref (g 7), .ref (g 8), .ref (g 9), .ref (g 10), .ref (g 11), .int 0, .int 0, .int 0, .int 0, .int 0, .ref (g 12), .ref (g 13), .int 0, .ref (g 14), .ref (g 15), .long 0, .int 0, .int 0, .int 0, .ref (g 16), .ref (g 17)])), ((g 7), .inl (cI, 35, .inl (fun _ => 0))), ((g 6), .inl (cI, 5, .inl (fun _ => 0)))] H := hP
  have hD : va_D A [((g 0), .inr (9, [.int 0, .ref (g 1), .ref (g 2), .ref (g 3), .ref (g 4), .ref (g 5), .int 0, .int 0, .int 0, .int 0, .int 0, .long 0, .int 0, .int 0, .int 0, .int (-1), .ref (g 6), .ref (g 7), .ref (g 8), .ref (g 9), .ref (g 10), .ref (g 11), .int 0, .int 0, .int 0, .int 0, .int 0, .ref (g 12), .ref (g 13), .int 0, .ref (g 14), .ref (g 15), .long 0, .int 0, .int 0, .int 0, .ref (g 16), .ref (g 17)])), ((g 7), .inl (cI, 35, .inl (fun _ => 0))), ((g 6), .inl (cI, 5, .inl (fun _ => 0)))] := hD
  refine lv_aload_n hx hb dX9_drawn_5 rfl (lv_at hl 0 rfl) ?_
  have hPc := hP.sub (ws' := [((g 0), .inr (9, [.int 0, .ref (g 1), .ref (g 2), .ref (g 3), .ref (g 4), .ref (g 5), .int 0, .int 0, .int 0, .int 0, .int 0, .long 0, .int 0, .int 0, .int 0, .int (-1), .ref (g 6), .ref (g 7), .ref (g 8), .ref (g 9), .ref (g 10), .ref (g 11), .int 0, .int 0, .int 0, .int 0, .int 0, .ref (g 12), .ref (g 13), .int 0, .ref (g 14), .ref (g 15), .long 0, .int 0, .int 0, .int 0, .ref (g 16), .ref (g 17)])), ((g 7), .inl (cI, 35, .inl (fun _ => 0))), ((g 6), .inl (cI, 5, .inl (fun _ => 0)))]) [0, 1, 2] rfl
  refine vp_callSi (W.runV (As := []) (rest := []) ⟨hx, hb, hml, hown, ht⟩ (k_X9_isWire l dC dI cB cI cJ cZ cL g) (cwV 0 ht (gV w_1530 w_1532 w_68 w_114 w_1533) rfl rfl rfl (by decide +kernel) ⟨Nat.le_of_ble_eq_true rfl, Nat.le_of_ble_eq_true rfl⟩) (pVS hK hPc (ci := 9) (q0 := 0) rfl rfl) rfl rfl hl.1 rfl (lv_room (Nat.le_of_ble_eq_true rfl)) dX9_drawn_6 ⟨Nat.le_of_ble_eq_true rfl, Nat.le_of_ble_eq_true rfl⟩) (fun r_1 hw => ?_)
  subst hw
  refine lv_if_eq (tgt := 26) hx hb dX9_drawn_9 (by decide) (fun _ => ?_) (fun c9 => by first | exact absurd (by decide) c9 | exact absurd c9 (by decide))
  refine lv_bipush (v := (-2)) hx hb dX9_drawn_26 (by decide) ?_
  refine W.widen (k := 0) (n := 0) (Nat.le_of_ble_eq_true rfl) (Nat.le_of_ble_eq_true rfl) ?_
  exact W.iret (v := (-2)) hx hb hr (fun t ht hW => ⟨⟨(-2), (), rfl, rfl, trivial⟩, hS.F ht⟩) hS.2.2 dX9_drawn_28
set_option maxHeartbeats 4000000 in
set_option maxRecDepth 100000 in
theorem k_X9_luck (l : Launch) (dC : Nat → ClassId) (dI : Nat → Nat → Nat) (cB cI cJ cZ cL : ClassId) (sz : Nat) (g : Nat → Nat) (p0 : Int32) (p1 : Int32) (p2 : Int32) : Met l yX9_luck (wy yX9_luck cX9_luck 6 (some .int)) ({ frames := 3, cells := 0, slots := 0, locals := 120 }) (va_Pc [.ref (g 0), .int p0, .int p1, .int p2] (fun U => U.heap.size = sz ∧ va_P (dC, dI) vwCl [((g 0), .inr (9, [.int 0, .ref (g 1), .ref (g 2), .ref (g 3), .ref (g 4), .ref (g 5), .int 0, .int 0, .int 0, .int 0, .int 0, .long 0, .int 0, .int 0, .int 0, .int (-1), .ref (g 6), .ref (g 7), .ref (g 8), .ref (g 9), .ref (g 10), .ref (g 11), .int 0, .int 0, .int 0, .int 0, .int 0, .ref (g 12), .ref (g 13), .int 0, .ref (g 14), .ref (g 15), .long 0, .int 0, .int 0, .int 0, .ref (g 16), .ref (g 17)])), ((g 7), .inl (cI, 35, .inl (fun _ => 0))), ((g 6), .inl (cI, 5, .inl (fun _ => 0)))] U.heap ∧ va_K (dC, dI) vwCl (tyL cB cI cJ cZ cL) U ∧ va_D (fun _ => True) [((g 0), .inr (9, [.int 0, .ref (g 1), .ref (g 2), .ref (g 3), .ref (g 4), .ref (g 5), .int 0, .int 0, .int 0, .int 0, .int 0, .long 0, .int 0, .int 0, .int 0, .int (-1), .ref (g 6), .ref (g 7), .ref (g 8), .ref (g 9), .ref (g 10), .ref (g 11), .int 0, .int 0, .int 0, .int 0, .int 0, .ref (g 12), .ref (g 13), .int 0, .ref (g 14), .ref (g 15), .long 0, .int 0, .int 0, .int 0, .ref (g 16), .ref (g 17)])), ((g 7), .inl (cI, 35, .inl (fun _ => 0))), ((g 6), .inl (cI, 5, .inl (fun _ => 0)))])) (va_Qi (fun r _ => r = (-2)) (fun (_ : Unit) _ => True) (va_A [((g 0), .inr (9, [.int 0, .ref (g 1), .ref (g 2), .ref (g 3), .ref (g 4), .ref (g 5), .int 0, .int 0, .int 0, .int 0, .int 0, .long 0, .int 0, .int 0, .int 0, .int (-1), .ref (g 6), .ref (g 7), .ref (g 8), .ref (g 9), .ref (g 10), .ref (g 11), .int 0, .int 0, .int 0, .int 0, .int 0, .ref (g 12), .ref (g 13), .int 0, .ref (g 14), .ref (g 15), .long 0, .int 0, .int 0, .int 0, .ref (g 16), .ref (g 17)])), ((g 7), .inl (cI, 35, .inl (fun _ => 0))), ((g 6), .inl (cI, 5, .inl (fun _ => 0)))] sz)) 0 0 (va_A [((g 0), .inr (9, [.int 0, .ref (g 1), .ref (g 2), .ref (g 3), .ref (g 4), .ref (g 5), .int 0, .int 0, .int 0, .int 0, .int 0, .long 0, .int 0, .int 0, .int 0, .int (-1), .ref (g 6), .ref (g 7), .ref (g 8), .ref (g 9), .ref (g 10), .ref (g 11), .int 0, .int 0, .int 0, .int 0, .int 0, .ref (g 12), .ref (g 13), .int 0, .ref (g 14), .ref (g 15), .long 0, .int 0, .int 0, .int 0, .ref (g 16), .ref (g 17)])), ((g 7), .inl (cI, 35, .inl (fun _ => 0))), ((g 6), .inl (cI, 5, .inl (fun _ => 0)))] sz) := by
  refine Met.ofW (cc := cX9_luck) (maxL := 6) (ret := (some .int)) (by decide) rfl ?_
  intro p e s m args below meth c s₁ B hml hv
  obtain ⟨rfl, hsz, hP, hK, hD0⟩ := hv
  have hx := B.exec
  have hb := B.bytes
  have hr := B.returns
  have ht : ∀ w ∈ lw_ok, w.before _ s = true := fun w h => atoms_spec (ws := wy yX9_luck cX9_luck 6 (some .int)) B.pre w (List.mem_cons_of_mem _ h)
  have hown : s.vm.findClass RX9 = some m.cls := findClass_of_methodNamed B.named
  have hlocks := B.notSynchronized
  subst hsz
  have hD := hD0.self (sz := s.heap.size)
  generalize hAe : va_A [((g 0), .inr (9, [.int 0, .ref (g 1), .ref (g 2), .ref (g 3), .ref (g 4), .ref (g 5), .int 0, .int 0, .int 0, .int 0, .int 0, .long 0, .int 0, .int 0, .int 0, .int (-1), .ref (g 6), .ref (g 7), .ref (g 8), .ref (g 9), .ref (g 10), .ref (g 11), .int 0, .int 0, .int 0, .int 0, .int 0, .ref (g 12), .ref (g 13), .int 0, .ref (g 14), .ref (g 15), .long 0, .int 0, .int 0, .int 0, .ref (g 16), .ref (g 17)])), ((g 7), .inl (cI, 35, .inl (fun _ => 0))), ((g 6), .inl (cI, 5, .inl (fun _ => 0)))] s.heap.size = A at hD ⊢
  have hA : ∀ q : Nat, s.heap.size ≤ q → A q := fun q h => by rw [← hAe]; exact Or.inr h
  have hS : va_S A s.heap s.heap [] := va_S.rf
  have hl := lv_entry ([.ref (g 0), .int p0, .int p1, .int p2]) (n := 6) (Nat.le_of_ble_eq_true rfl)
  rw [lg_entry_eq]
  generalize (lg_sl ([.ref (g 0), .int p0, .int p1, .int p2]) ++ List.replicate (6 - (lg_sl ([.ref (g 0), .int p0, .int p1, .int p2])).length) Slot.unset).toArray = ls at hl ⊢
  have hl : lv_has ls 6 [(0, .ref (g 0)), (1, .int p0), (2, .int p1), (3, .int p2)] := hl
  have hP : va_P (dC, dI) vwCl [((g 0), .inr (9, [.int 0, .ref (g 1), .ref (g 2), .ref (g 3), .ref (g 4), .ref (g 5), .int 0, .int 0, .int 0, .int 0, .int 0, .long 0, .int 0, .int 0, .int 0, .int (-1), .ref (g 6), .ref (g 7), .ref (g 8), .ref (g 9), .ref (g 10), .ref (g 11), .int 0, .int 0, .int 0, .int 0, .int 0, .ref (g 12), .ref (g 13), .int 0, .ref (g 14), .ref (g 15), .long 0, .int 0, .int 0, .int 0, .ref (g 16), .ref (g 17)])), ((g 7), .inl (cI, 35, .inl (fun _ => 0))), ((g 6), .inl (cI, 5, .inl (fun _ => 0)))] s.heap := hP
  have hD : va_D A [((g 0), .inr (9, [.int 0, .ref (g 1), .ref (g 2), .ref (g 3), .ref (g 4), .ref (g 5), .int 0, .int 0, .int 0, .int 0, .int 0, .long 0, .int 0, .int 0, .int 0, .int (-1), .ref (g 6), .ref (g 7), .ref (g 8), .ref (g 9), .ref (g 10), .ref (g 11), .int 0, .int 0, .int 0, .int 0, .int 0, .ref (g 12), .ref (g 13), .int 0, .ref (g 14), .ref (g 15), .long 0, .int 0, .int 0, .int 0, .ref (g 16), .ref (g 17)])), ((g 7), .inl (cI, 35, .inl (fun _ => 0))), ((g 6), .inl (cI, 5, .inl (fun _ => 0)))] := hD
  refine lv_aload_n hx hb dX9_luck_0 rfl (lv_at hl 0 rfl) ?_
  refine lv_iconst (v := 0) hx hb dX9_luck_1 (by decide) ?_
  refine va_put (D := (dC, dI)) (ci := 9) (v := .int 0) (ty := .int) (C := RX9) (T := TX9) (N := 38) hx hb ht iX9 tyX9 tyX9_ok nmX9 hown hK hP hD hS 0 rfl rfl 0 (by decide) (ht _ w_1262) (fun _ h9 => h9) rfl (by decide +kernel) rfl rfl (Nat.le_of_ble_eq_true rfl) dX9_luck_2 (fun H locs hP hD hS => ?_)
  have hP : va_P (dC, dI) vwCl [((g 0), .inr (9, [.int 0, .ref (g 1), .ref (g 2), .ref (g 3), .ref (g 4), .ref (g 5), .int 0, .int 0, .int 0, .int 0, .int 0, .long 0, .int 0, .int 0, .int 0, .int (-1), .ref (g 6), .ref (g 7), .ref (g 8), .ref (g 9), .ref (g 10), .ref (g 11), .int 0, .int 0, .int 0, .int 0, .int 0, .ref (g 12), .ref (g 13), .int 0, .ref (g 14), .ref (g 15), .long 0, .int 0, .int 0, .int 0, .ref (g 16), .ref (g 17)])), ((g 7), .inl (cI, 35, .inl (fun _ => 0))), ((g 6), .inl (cI, 5, .inl (fun _ => 0)))] H := hP
  have hD : va_D A [((g 0), .inr (9, [.int 0, .ref (g 1), .ref (g 2), .ref (g 3), .ref (g 4), .ref (g 5), .int 0, .int 0, .int 0, .int 0, .int 0, .long 0, .int 0, .int 0, .int 0, .int (-1), .ref (g 6), .ref (g 7), .ref (g 8), .ref (g 9), .ref (g 10), .ref (g 11), .int 0, .int 0, .int 0, .int 0, .int 0, .ref (g 12), .ref (g 13), .int 0, .ref (g 14), .ref (g 15), .long 0, .int 0, .int 0, .int 0, .ref (g 16), .ref (g 17)])), ((g 7), .inl (cI, 35, .inl (fun _ => 0))), ((g 6), .inl (cI, 5, .inl (fun _ => 0)))] := hD
  refine lv_iload_n hx hb dX9_luck_5 rfl (lv_at hl 1 rfl) ?_
  have hPc := hP.sub (ws' := []) [] rfl
  refine vp_callSi (W.runS (As := [.int p0]) (rest := []) ⟨hx, hb, hml, hown, ht⟩ (k_X9_isSeed l dC dI cB cI cJ cZ cL p0) (va_cwS 1 ht (gQ w_1965 w_1966 w_114 w_1967) rfl rfl rfl (by decide +kernel) ⟨Nat.le_of_ble_eq_true rfl, Nat.le_of_ble_eq_true rfl⟩) (pSS hK hPc) rfl rfl hl.1 rfl (lv_room (Nat.le_of_ble_eq_true rfl)) dX9_luck_6 ⟨Nat.le_of_ble_eq_true rfl, Nat.le_of_ble_eq_true rfl⟩) (fun r_1 hw => ?_)
  rcases hw with ⟨hw, c_2⟩ | ⟨hw, c_2⟩
  · subst hw
    refine lv_if_eq (tgt := 32) hx hb dX9_luck_9 (by decide) (fun c9 => by first | exact absurd c9 (by decide) | exact absurd (by decide) c9) (fun _ => ?_)
    refine lv_iload_n hx hb dX9_luck_12 rfl (lv_at hl 2 rfl) ?_
    refine lv_i2l (v := (Int32.toInt64 p1)) hx hb dX9_luck_13 (by first | rfl | decide) ?_
    refine lv_lconst (v := 1) hx hb dX9_luck_14 (by decide) ?_
    refine lv_ldc2 hx hb hown (ht _ w_1981) dX9_luck_15 ?_
    have hPc := hP.sub (ws' := []) [] rfl
    refine vp_callSi (W.runS (As := [.long (Int32.toInt64 p1), .long 1, .long 20]) (rest := []) ⟨hx, hb, hml, hown, ht⟩ (k_X9_in l dC dI cB cI cJ cZ cL (Int32.toInt64 p1) 1 20) (va_cwS 3 ht (gQ w_1386 w_1387 w_114 w_1388) rfl rfl rfl (by decide +kernel) ⟨Nat.le_of_ble_eq_true rfl, Nat.le_of_ble_eq_true rfl⟩) (pSS hK hPc) rfl rfl hl.1 rfl (lv_room (Nat.le_of_ble_eq_true rfl)) dX9_luck_18 ⟨Nat.le_of_ble_eq_true rfl, Nat.le_of_ble_eq_true rfl⟩) (fun r_3 hw => ?_)
    rcases hw with ⟨hw, c_4⟩ | ⟨hw, c_4⟩
    · subst hw
      refine lv_if_eq (tgt := 32) hx hb dX9_luck_21 (by decide) (fun c9 => by first | exact absurd c9 (by decide) | exact absurd (by decide) c9) (fun _ => ?_)
      refine lv_aload_n hx hb dX9_luck_24 rfl (lv_at hl 0 rfl) ?_
      refine lv_iload_n hx hb dX9_luck_25 rfl (lv_at hl 3 rfl) ?_
      have hPc := hP.sub (ws' := [((g 0), .inr (9, [.int 0, .ref (g 1), .ref (g 2), .ref (g 3), .ref (g 4), .ref (g 5), .int 0, .int 0, .int 0, .int 0, .int 0, .long 0, .int 0, .int 0, .int 0, .int (-1), .ref (g 6), .ref (g 7), .ref (g 8), .ref (g 9), .ref (g 10), .ref (g 11), .int 0, .int 0, .int 0, .int 0, .int 0, .ref (g 12), .ref (g 13), .int 0, .ref (g 14), .ref (g 15), .long 0, .int 0, .int 0, .int 0, .ref (g 16), .ref (g 17)])), ((g 7), .inl (cI, 35, .inl (fun _ => 0))), ((g 6), .inl (cI, 5, .inl (fun _ => 0)))]) [0, 1, 2] rfl
      refine vp_callSi (W.runV (As := [.int p2]) (rest := []) ⟨hx, hb, hml, hown, ht⟩ (k_X9_isStation l dC dI cB cI cJ cZ cL g p2) (cwV 1 ht (gV w_1538 w_1540 w_70 w_114 w_1541) rfl rfl rfl (by decide +kernel) ⟨Nat.le_of_ble_eq_true rfl, Nat.le_of_ble_eq_true rfl⟩) (pVS hK hPc (ci := 9) (q0 := 0) rfl rfl) rfl rfl hl.1 rfl (lv_room (Nat.le_of_ble_eq_true rfl)) dX9_luck_26 ⟨Nat.le_of_ble_eq_true rfl, Nat.le_of_ble_eq_true rfl⟩) (fun r_5 hw => ?_)
      subst hw
      refine lv_if_ne (tgt := 35) hx hb dX9_luck_29 (by decide) (fun c9 => by first | exact absurd c9 (by decide) | exact absurd (by decide) c9) (fun _ => ?_)
      refine lv_bipush (v := (-2)) hx hb dX9_luck_32 (by decide) ?_
      refine W.widen (k := 0) (n := 0) (Nat.le_of_ble_eq_true rfl) (Nat.le_of_ble_eq_true rfl) ?_
      exact W.iret (v := (-2)) hx hb hr (fun t ht hW => ⟨⟨(-2), (), rfl, rfl, trivial⟩, hS.F ht⟩) hS.2.2 dX9_luck_34
    · subst hw
      refine lv_if_eq (tgt := 32) hx hb dX9_luck_21 (by decide) (fun _ => ?_) (fun c9 => by first | exact absurd (by decide) c9 | exact absurd c9 (by decide))
      refine lv_bipush (v := (-2)) hx hb dX9_luck_32 (by decide) ?_
      refine W.widen (k := 0) (n := 0) (Nat.le_of_ble_eq_true rfl) (Nat.le_of_ble_eq_true rfl) ?_
      exact W.iret (v := (-2)) hx hb hr (fun t ht hW => ⟨⟨(-2), (), rfl, rfl, trivial⟩, hS.F ht⟩) hS.2.2 dX9_luck_34
  · subst hw
    refine lv_if_eq (tgt := 32) hx hb dX9_luck_9 (by decide) (fun _ => ?_) (fun c9 => by first | exact absurd (by decide) c9 | exact absurd c9 (by decide))
    refine lv_bipush (v := (-2)) hx hb dX9_luck_32 (by decide) ?_
    refine W.widen (k := 0) (n := 0) (Nat.le_of_ble_eq_true rfl) (Nat.le_of_ble_eq_true rfl) ?_
    exact W.iret (v := (-2)) hx hb hr (fun t ht hW => ⟨⟨(-2), (), rfl, rfl, trivial⟩, hS.F ht⟩) hS.2.2 dX9_luck_34
set_option maxHeartbeats 4000000 in
set_option maxRecDepth 100000 in
theorem k_X9_rate (l : Launch) (dC : Nat → ClassId) (dI : Nat → Nat → Nat) (cB cI cJ cZ cL : ClassId) (sz : Nat) (g : Nat → Nat) (p0 : Int32) (p1 : Int32) : Met l yX9_rate (wy yX9_rate cX9_rate 4 (some .int)) ({ frames := 3, cells := 0, slots := 0, locals := 120 }) (va_Pc [.ref (g 0), .int p0, .int p1] (fun U => U.heap.size = sz ∧ va_P (dC, dI) vwCl [((g 0), .inr (9, [.int 0, .ref (g 1), .ref (g 2), .ref (g 3), .ref (g 4), .ref (g 5), .int 0, .int 0, .int 0, .int 0, .int 0, .long 0, .int 0, .int 0, .int 0, .int (-1), .ref (g 6), .ref (g 7), .ref (g 8), .ref (g 9), .ref (g 10), .ref (g 11), .int 0, .int 0, .int 0, .int 0, .int 0, .ref (g 12), .ref (g 13), .int 0, .ref (g 14), .ref (g 15), .long 0, .int 0, .int 0, .int 0, .ref (g 16), .ref (g 17)])), ((g 7), .inl (cI, 35, .inl (fun _ => 0))), ((g 6), .inl (cI, 5, .inl (fun _ => 0)))] U.heap ∧ va_K (dC, dI) vwCl (tyL cB cI cJ cZ cL) U ∧ va_D (fun _ => True) [((g 0), .inr (9, [.int 0, .ref (g 1), .ref (g 2), .ref (g 3), .ref (g 4), .ref (g 5), .int 0, .int 0, .int 0, .int 0, .int 0, .long 0, .int 0, .int 0, .int 0, .int (-1), .ref (g 6), .ref (g 7), .ref (g 8), .ref (g 9), .ref (g 10), .ref (g 11), .int 0, .int 0, .int 0, .int 0, .int 0, .ref (g 12), .ref (g 13), .int 0, .ref (g 14), .ref (g 15), .long 0, .int 0, .int 0, .int 0, .ref (g 16), .ref (g 17)])), ((g 7), .inl (cI, 35, .inl (fun _ => 0))), ((g 6), .inl (cI, 5, .inl (fun _ => 0)))])) (va_Qi (fun r _ => r = (-2)) (fun (_ : Unit) _ => True) (va_A [((g 0), .inr (9, [.int 0, .ref (g 1), .ref (g 2), .ref (g 3), .ref (g 4), .ref (g 5), .int 0, .int 0, .int 0, .int 0, .int 0, .long 0, .int 0, .int 0, .int 0, .int (-1), .ref (g 6), .ref (g 7), .ref (g 8), .ref (g 9), .ref (g 10), .ref (g 11), .int 0, .int 0, .int 0, .int 0, .int 0, .ref (g 12), .ref (g 13), .int 0, .ref (g 14), .ref (g 15), .long 0, .int 0, .int 0, .int 0, .ref (g 16), .ref (g 17)])), ((g 7), .inl (cI, 35, .inl (fun _ => 0))), ((g 6), .inl (cI, 5, .inl (fun _ => 0)))] sz)) 0 0 (va_A [((g 0), .inr (9, [.int 0, .ref (g 1), .ref (g 2), .ref (g 3), .ref (g 4), .ref (g 5), .int 0, .int 0, .int 0, .int 0, .int 0, .long 0, .int 0, .int 0, .int 0, .int (-1), .ref (g 6), .ref (g 7), .ref (g 8), .ref (g 9), .ref (g 10), .ref (g 11), .int 0, .int 0, .int 0, .int 0, .int 0, .ref (g 12), .ref (g 13), .int 0, .ref (g 14), .ref (g 15), .long 0, .int 0, .int 0, .int 0, .ref (g 16), .ref (g 17)])), ((g 7), .inl (cI, 35, .inl (fun _ => 0))), ((g 6), .inl (cI, 5, .inl (fun _ => 0)))] sz) := by
  refine Met.ofW (cc := cX9_rate) (maxL := 4) (ret := (some .int)) (by decide) rfl ?_
  intro p e s m args below meth c s₁ B hml hv
  obtain ⟨rfl, hsz, hP, hK, hD0⟩ := hv
  have hx := B.exec
  have hb := B.bytes
  have hr := B.returns
  have ht : ∀ w ∈ lw_ok, w.before _ s = true := fun w h => atoms_spec (ws := wy yX9_rate cX9_rate 4 (some .int)) B.pre w (List.mem_cons_of_mem _ h)
  have hown : s.vm.findClass RX9 = some m.cls := findClass_of_methodNamed B.named
  have hlocks := B.notSynchronized
  subst hsz
  have hD := hD0.self (sz := s.heap.size)
  generalize hAe : va_A [((g 0), .inr (9, [.int 0, .ref (g 1), .ref (g 2), .ref (g 3), .ref (g 4), .ref (g 5), .int 0, .int 0, .int 0, .int 0, .int 0, .long 0, .int 0, .int 0, .int 0, .int (-1), .ref (g 6), .ref (g 7), .ref (g 8), .ref (g 9), .ref (g 10), .ref (g 11), .int 0, .int 0, .int 0, .int 0, .int 0, .ref (g 12), .ref (g 13), .int 0, .ref (g 14), .ref (g 15), .long 0, .int 0, .int 0, .int 0, .ref (g 16), .ref (g 17)])), ((g 7), .inl (cI, 35, .inl (fun _ => 0))), ((g 6), .inl (cI, 5, .inl (fun _ => 0)))] s.heap.size = A at hD ⊢
  have hA : ∀ q : Nat, s.heap.size ≤ q → A q := fun q h => by rw [← hAe]; exact Or.inr h
  have hS : va_S A s.heap s.heap [] := va_S.rf
  have hl := lv_entry ([.ref (g 0), .int p0, .int p1]) (n := 4) (Nat.le_of_ble_eq_true rfl)
  rw [lg_entry_eq]
  generalize (lg_sl ([.ref (g 0), .int p0, .int p1]) ++ List.replicate (4 - (lg_sl ([.ref (g 0), .int p0, .int p1])).length) Slot.unset).toArray = ls at hl ⊢
  have hl : lv_has ls 4 [(0, .ref (g 0)), (1, .int p0), (2, .int p1)] := hl
  have hP : va_P (dC, dI) vwCl [((g 0), .inr (9, [.int 0, .ref (g 1), .ref (g 2), .ref (g 3), .ref (g 4), .ref (g 5), .int 0, .int 0, .int 0, .int 0, .int 0, .long 0, .int 0, .int 0, .int 0, .int (-1), .ref (g 6), .ref (g 7), .ref (g 8), .ref (g 9), .ref (g 10), .ref (g 11), .int 0, .int 0, .int 0, .int 0, .int 0, .ref (g 12), .ref (g 13), .int 0, .ref (g 14), .ref (g 15), .long 0, .int 0, .int 0, .int 0, .ref (g 16), .ref (g 17)])), ((g 7), .inl (cI, 35, .inl (fun _ => 0))), ((g 6), .inl (cI, 5, .inl (fun _ => 0)))] s.heap := hP
  have hD : va_D A [((g 0), .inr (9, [.int 0, .ref (g 1), .ref (g 2), .ref (g 3), .ref (g 4), .ref (g 5), .int 0, .int 0, .int 0, .int 0, .int 0, .long 0, .int 0, .int 0, .int 0, .int (-1), .ref (g 6), .ref (g 7), .ref (g 8), .ref (g 9), .ref (g 10), .ref (g 11), .int 0, .int 0, .int 0, .int 0, .int 0, .ref (g 12), .ref (g 13), .int 0, .ref (g 14), .ref (g 15), .long 0, .int 0, .int 0, .int 0, .ref (g 16), .ref (g 17)])), ((g 7), .inl (cI, 35, .inl (fun _ => 0))), ((g 6), .inl (cI, 5, .inl (fun _ => 0)))] := hD
  refine lv_aload_n hx hb dX9_rate_0 rfl (lv_at hl 0 rfl) ?_
  refine lv_iconst (v := 0) hx hb dX9_rate_1 (by decide) ?_
  refine va_put (D := (dC, dI)) (ci := 9) (v := .int 0) (ty := .int) (C := RX9) (T := TX9) (N := 38) hx hb ht iX9 tyX9 tyX9_ok nmX9 hown hK hP hD hS 0 rfl rfl 0 (by decide) (ht _ w_1262) (fun _ h9 => h9) rfl (by decide +kernel) rfl rfl (Nat.le_of_ble_eq_true rfl) dX9_rate_2 (fun H locs hP hD hS => ?_)
  have hP : va_P (dC, dI) vwCl [((g 0), .inr (9, [.int 0, .ref (g 1), .ref (g 2), .ref (g 3), .ref (g 4), .ref (g 5), .int 0, .int 0, .int 0, .int 0, .int 0, .long 0, .int 0, .int 0, .int 0, .int (-1), .ref (g 6), .ref (g 7), .ref (g 8), .ref (g 9), .ref (g 10), .ref (g 11), .int 0, .int 0, .int 0, .int 0, .int 0, .ref (g 12), .ref (g 13), .int 0, .ref (g 14), .ref (g 15), .long 0, .int 0, .int 0, .int 0, .ref (g 16), .ref (g 17)])), ((g 7), .inl (cI, 35, .inl (fun _ => 0))), ((g 6), .inl (cI, 5, .inl (fun _ => 0)))] H := hP
  have hD : va_D A [((g 0), .inr (9, [.int 0, .ref (g 1), .ref (g 2), .ref (g 3), .ref (g 4), .ref (g 5), .int 0, .int 0, .int 0, .int 0, .int 0, .long 0, .int 0, .int 0, .int 0, .int (-1), .ref (g 6), .ref (g 7), .ref (g 8), .ref (g 9), .ref (g 10), .ref (g 11), .int 0, .int 0, .int 0, .int 0, .int 0, .ref (g 12), .ref (g 13), .int 0, .ref (g 14), .ref (g 15), .long 0, .int 0, .int 0, .int 0, .ref (g 16), .ref (g 17)])), ((g 7), .inl (cI, 35, .inl (fun _ => 0))), ((g 6), .inl (cI, 5, .inl (fun _ => 0)))] := hD
  refine lv_aload_n hx hb dX9_rate_5 rfl (lv_at hl 0 rfl) ?_
  refine lv_iload_n hx hb dX9_rate_6 rfl (lv_at hl 1 rfl) ?_
  have hPc := hP.sub (ws' := [((g 0), .inr (9, [.int 0, .ref (g 1), .ref (g 2), .ref (g 3), .ref (g 4), .ref (g 5), .int 0, .int 0, .int 0, .int 0, .int 0, .long 0, .int 0, .int 0, .int 0, .int (-1), .ref (g 6), .ref (g 7), .ref (g 8), .ref (g 9), .ref (g 10), .ref (g 11), .int 0, .int 0, .int 0, .int 0, .int 0, .ref (g 12), .ref (g 13), .int 0, .ref (g 14), .ref (g 15), .long 0, .int 0, .int 0, .int 0, .ref (g 16), .ref (g 17)])), ((g 7), .inl (cI, 35, .inl (fun _ => 0))), ((g 6), .inl (cI, 5, .inl (fun _ => 0)))]) [0, 1, 2] rfl
  refine vp_callSi (W.runV (As := [.int p0]) (rest := []) ⟨hx, hb, hml, hown, ht⟩ (k_X9_isStation l dC dI cB cI cJ cZ cL g p0) (cwV 1 ht (gV w_1538 w_1540 w_70 w_114 w_1541) rfl rfl rfl (by decide +kernel) ⟨Nat.le_of_ble_eq_true rfl, Nat.le_of_ble_eq_true rfl⟩) (pVS hK hPc (ci := 9) (q0 := 0) rfl rfl) rfl rfl hl.1 rfl (lv_room (Nat.le_of_ble_eq_true rfl)) dX9_rate_7 ⟨Nat.le_of_ble_eq_true rfl, Nat.le_of_ble_eq_true rfl⟩) (fun r_1 hw => ?_)
  subst hw
  refine lv_if_eq (tgt := 25) hx hb dX9_rate_10 (by decide) (fun _ => ?_) (fun c9 => by first | exact absurd (by decide) c9 | exact absurd c9 (by decide))
  refine lv_bipush (v := (-2)) hx hb dX9_rate_25 (by decide) ?_
  refine W.widen (k := 0) (n := 0) (Nat.le_of_ble_eq_true rfl) (Nat.le_of_ble_eq_true rfl) ?_
  exact W.iret (v := (-2)) hx hb hr (fun t ht hW => ⟨⟨(-2), (), rfl, rfl, trivial⟩, hS.F ht⟩) hS.2.2 dX9_rate_27
set_option maxHeartbeats 4000000 in
set_option maxRecDepth 100000 in
theorem k_X8_isSlot (l : Launch) (dC : Nat → ClassId) (dI : Nat → Nat → Nat) (cB cI cJ cZ cL : ClassId)  (p0 : Int32) : Met l yX8_isSlot (wy yX8_isSlot cX8_isSlot 1 (some .boolean)) ({ frames := 0, cells := 0, slots := 0, locals := 0 }) (va_Pc [.int p0] (fun U => va_P (dC, dI) vwCl [] U.heap ∧ va_K (dC, dI) vwCl (tyL cB cI cJ cZ cL) U)) (vp_Si (fun r => (r = 1 ∧ (0 ≤ Int32.toInt p0 ∧ Int32.toInt p0 ≤ 3)) ∨ (r = 0 ∧ ¬ (0 ≤ Int32.toInt p0 ∧ Int32.toInt p0 ≤ 3)))) 0 0 (fun _ => False) := by
  refine Met.ofW (cc := cX8_isSlot) (maxL := 1) (ret := (some .boolean)) (by decide) rfl ?_
  intro p e s m args below meth c s₁ B hml hv
  obtain ⟨rfl, hP, hK⟩ := hv
  have hx := B.exec
  have hb := B.bytes
  have hr := B.returns
  have ht : ∀ w ∈ lw_ok, w.before _ s = true := fun w h => atoms_spec (ws := wy yX8_isSlot cX8_isSlot 1 (some .boolean)) B.pre w (List.mem_cons_of_mem _ h)
  have hown : s.vm.findClass RX8 = some m.cls := findClass_of_methodNamed B.named
  have hlocks := B.notSynchronized
  have hl := lv_entry ([.int p0]) (n := 1) (Nat.le_of_ble_eq_true rfl)
  rw [lg_entry_eq]
  generalize (lg_sl ([.int p0]) ++ List.replicate (1 - (lg_sl ([.int p0])).length) Slot.unset).toArray = ls at hl ⊢
  have hl : lv_has ls 1 [(0, .int p0)] := hl
  have hP : va_P (dC, dI) vwCl [] s.heap := hP
  refine lv_iload_n hx hb dX8_isSlot_0 rfl (lv_at hl 0 rfl) ?_
  refine lv_if_lt (tgt := 13) hx hb dX8_isSlot_1 (by decide) (fun c_1 => ?_) (fun c_1 => ?_)
  · refine lv_iconst (v := 0) hx hb dX8_isSlot_13 (by decide) ?_
    exact W.zret (v := 0) hx hb hr rfl (fun t ht hW => ⟨0, rfl, (by (try simp only [i_lt, i_le, i_eq, l_lt, l_le, l_wd, T0, T1, T2, T3, T4, T5, T6, T7, T8, T9, T60, Tm1, L0, L1, L2, L3, L6, Lm1, L20, L60, L2e9] at c_1); first | exact Or.inl ⟨rfl, by omega⟩ | exact Or.inr ⟨rfl, by omega⟩), ht⟩) (fun q h => absurd h List.not_mem_nil) dX8_isSlot_14
  · refine lv_iload_n hx hb dX8_isSlot_4 rfl (lv_at hl 0 rfl) ?_
    refine lv_iconst (v := 4) hx hb dX8_isSlot_5 (by decide) ?_
    refine lv_icmp_ge (tgt := 13) hx hb dX8_isSlot_6 (by decide) (fun c_2 => ?_) (fun c_2 => ?_)
    · refine lv_iconst (v := 0) hx hb dX8_isSlot_13 (by decide) ?_
      exact W.zret (v := 0) hx hb hr rfl (fun t ht hW => ⟨0, rfl, (by (try simp only [i_lt, i_le, i_eq, l_lt, l_le, l_wd, T0, T1, T2, T3, T4, T5, T6, T7, T8, T9, T60, Tm1, L0, L1, L2, L3, L6, Lm1, L20, L60, L2e9] at c_1 c_2); first | exact Or.inl ⟨rfl, by omega⟩ | exact Or.inr ⟨rfl, by omega⟩), ht⟩) (fun q h => absurd h List.not_mem_nil) dX8_isSlot_14
    · refine lv_iconst (v := 1) hx hb dX8_isSlot_9 (by decide) ?_
      refine lv_goto (tgt := 14) hx hb dX8_isSlot_10 (by decide) ?_
      exact W.zret (v := 1) hx hb hr rfl (fun t ht hW => ⟨1, rfl, (by (try simp only [i_lt, i_le, i_eq, l_lt, l_le, l_wd, T0, T1, T2, T3, T4, T5, T6, T7, T8, T9, T60, Tm1, L0, L1, L2, L3, L6, Lm1, L20, L60, L2e9] at c_1 c_2); first | exact Or.inl ⟨rfl, by omega⟩ | exact Or.inr ⟨rfl, by omega⟩), ht⟩) (fun q h => absurd h List.not_mem_nil) dX8_isSlot_14
set_option maxHeartbeats 4000000 in
set_option maxRecDepth 100000 in
theorem k_X3_has (l : Launch) (dC : Nat → ClassId) (dI : Nat → Nat → Nat) (cB cI cJ cZ cL : ClassId) (a : Nat → Nat) (fz : Nat → Int32) (p0 : Int32) (hfz : ∀ j, j < 4 → fz j = -1) (hp : 0 ≤ Int32.toInt p0 ∧ Int32.toInt p0 < 4): Met l yX3_has (wy yX3_has cX3_has 2 (some .boolean)) ({ frames := 0, cells := 0, slots := 0, locals := 0 }) (va_Pc [.ref (a 7), .int p0] (fun U => va_P (dC, dI) vwCl [((a 7), .inr (3, [.ref (a 35), .ref (a 36), .ref (a 37)])), ((a 37), .inl (cI, 4, .inl fz))] U.heap ∧ va_K (dC, dI) vwCl (tyL cB cI cJ cZ cL) U)) (vp_Si (fun r => r = 0)) 0 0 (fun _ => False) := by
  refine Met.ofW (cc := cX3_has) (maxL := 2) (ret := (some .boolean)) (by decide) rfl ?_
  intro p e s m args below meth c s₁ B hml hv
  obtain ⟨rfl, hP, hK⟩ := hv
  have hx := B.exec
  have hb := B.bytes
  have hr := B.returns
  have ht : ∀ w ∈ lw_ok, w.before _ s = true := fun w h => atoms_spec (ws := wy yX3_has cX3_has 2 (some .boolean)) B.pre w (List.mem_cons_of_mem _ h)
  have hown : s.vm.findClass RX3 = some m.cls := findClass_of_methodNamed B.named
  have hlocks := B.notSynchronized
  have hl := lv_entry ([.ref (a 7), .int p0]) (n := 2) (Nat.le_of_ble_eq_true rfl)
  rw [lg_entry_eq]
  generalize (lg_sl ([.ref (a 7), .int p0]) ++ List.replicate (2 - (lg_sl ([.ref (a 7), .int p0])).length) Slot.unset).toArray = ls at hl ⊢
  have hl : lv_has ls 2 [(0, .ref (a 7)), (1, .int p0)] := hl
  have hP : va_P (dC, dI) vwCl [((a 7), .inr (3, [.ref (a 35), .ref (a 36), .ref (a 37)])), ((a 37), .inl (cI, 4, .inl fz))] s.heap := hP
  refine lv_aload_n hx hb dX3_has_0 rfl (lv_at hl 0 rfl) ?_
  refine va_get (D := (dC, dI)) (ci := 3) (v := .ref (a 37)) (C := RX3) (T := TX3) (N := 3) hx hb ht iX3 hown hK hP 0 rfl rfl 2 (by decide) (ht _ w_292) (fun _ h9 => h9) rfl dX3_has_1 ?_
  refine lv_iload_n hx hb dX3_has_4 rfl (lv_at hl 1 rfl) ?_
  refine va_iald hx hb hK hP 1 1 rfl rfl (vp_in_iff.mpr (by skip; omega)) dX3_has_5 ?_
  refine lv_topi (fun y_1 ey_1 => ?_)
  obtain rfl : y_1 = (-1) := ey_1.trans (hfz _ (Nat.not_le.mp (fun q => (vp_in_iff.mpr (by skip; omega) : vp_in p0 4) (Or.inr q))))
  refine lv_iconst (v := (-1)) hx hb dX3_has_6 (by decide) ?_
  refine lv_icmp_eq (tgt := 14) hx hb dX3_has_7 (by decide) (fun _ => ?_) (fun c9 => by first | exact absurd (by decide) c9 | exact absurd c9 (by decide))
  refine lv_iconst (v := 0) hx hb dX3_has_14 (by decide) ?_
  exact W.zret (v := 0) hx hb hr rfl (fun t ht hW => ⟨0, rfl, rfl, ht⟩) (fun q h => absurd h List.not_mem_nil) dX3_has_15
set_option maxHeartbeats 4000000 in
set_option maxRecDepth 100000 in
theorem k_X3_used (l : Launch) (dC : Nat → ClassId) (dI : Nat → Nat → Nat) (cB cI cJ cZ cL : ClassId) (a : Nat → Nat) (fz : Nat → Int32)  (hfz : ∀ j, j < 4 → fz j = -1): Met l yX3_used (wy yX3_used cX3_used 3 (some .int)) ({ frames := 1, cells := 0, slots := 0, locals := 40 }) (va_Pc [.ref (a 7)] (fun U => va_P (dC, dI) vwCl [((a 7), .inr (3, [.ref (a 35), .ref (a 36), .ref (a 37)])), ((a 37), .inl (cI, 4, .inl fz))] U.heap ∧ va_K (dC, dI) vwCl (tyL cB cI cJ cZ cL) U)) (vp_Si (fun r => r = 0)) 0 0 (fun _ => False) := by
  refine Met.ofW (cc := cX3_used) (maxL := 3) (ret := (some .int)) (by decide) rfl ?_
  intro p e s m args below meth c s₁ B hml hv
  obtain ⟨rfl, hP, hK⟩ := hv
  have hx := B.exec
  have hb := B.bytes
  have hr := B.returns
  have ht : ∀ w ∈ lw_ok, w.before _ s = true := fun w h => atoms_spec (ws := wy yX3_used cX3_used 3 (some .int)) B.pre w (List.mem_cons_of_mem _ h)
  have hown : s.vm.findClass RX3 = some m.cls := findClass_of_methodNamed B.named
  have hlocks := B.notSynchronized
  have hl := lv_entry ([.ref (a 7)]) (n := 3) (Nat.le_of_ble_eq_true rfl)
  rw [lg_entry_eq]
  generalize (lg_sl ([.ref (a 7)]) ++ List.replicate (3 - (lg_sl ([.ref (a 7)])).length) Slot.unset).toArray = ls at hl ⊢
  have hl : lv_has ls 3 [(0, .ref (a 7))] := hl
  have hP : va_P (dC, dI) vwCl [((a 7), .inr (3, [.ref (a 35), .ref (a 36), .ref (a 37)])), ((a 37), .inl (cI, 4, .inl fz))] s.heap := hP
  refine lv_iconst (v := 0) hx hb dX3_used_0 (by decide) ?_
  refine lv_istore_n (lv' := [(1, .int 0), (0, .ref (a 7))]) hx hb dX3_used_1 rfl hl (by decide) rfl (fun ls hl => ?_)
  refine lv_iconst (v := 0) hx hb dX3_used_2 (by decide) ?_
  refine lv_istore_n (lv' := [(2, .int 0), (1, .int 0), (0, .ref (a 7))]) hx hb dX3_used_3 rfl hl (by decide) rfl (fun ls hl => ?_)
  refine lv_iload_n hx hb dX3_used_4 rfl (lv_at hl 0 rfl) ?_
  refine lv_iconst (v := 4) hx hb dX3_used_5 (by decide) ?_
  refine lv_icmp_ge (tgt := 26) hx hb dX3_used_6 (by decide) (fun c9 => by first | exact absurd c9 (by decide) | exact absurd (by decide) c9) (fun _ => ?_)
  refine lv_aload_n hx hb dX3_used_9 rfl (lv_at hl 2 rfl) ?_
  refine lv_iload_n hx hb dX3_used_10 rfl (lv_at hl 0 rfl) ?_
  have hPc := hP.sub (ws' := [((a 7), .inr (3, [.ref (a 35), .ref (a 36), .ref (a 37)])), ((a 37), .inl (cI, 4, .inl fz))]) [0, 1] rfl
  refine vp_callSi (W.runV (As := [.int 0]) (rest := []) ⟨hx, hb, hml, hown, ht⟩ (k_X3_has l dC dI cB cI cJ cZ cL a fz 0 hfz (by decide)) (cwV 1 ht (gV w_1209 w_1034 w_1035 w_110 w_1036) rfl rfl rfl (by decide +kernel) ⟨Nat.le_of_ble_eq_true rfl, Nat.le_of_ble_eq_true rfl⟩) (pVS hK hPc (ci := 3) (q0 := 0) rfl rfl) rfl rfl hl.1 rfl (lv_room (Nat.le_of_ble_eq_true rfl)) dX3_used_11 ⟨Nat.le_of_ble_eq_true rfl, Nat.le_of_ble_eq_true rfl⟩) (fun r_1 hw => ?_)
  subst hw
  refine lv_if_eq (tgt := 20) hx hb dX3_used_14 (by decide) (fun _ => ?_) (fun c9 => by first | exact absurd (by decide) c9 | exact absurd c9 (by decide))
  refine lv_iinc (v := 1) (lv' := [(2, .int 1), (1, .int 0), (0, .ref (a 7))]) hx hb dX3_used_20 hl (k := 0) rfl (by decide) (by decide) rfl (fun ls hl => ?_)
  refine lv_goto (tgt := 4) hx hb dX3_used_23 (by decide) ?_
  refine lv_iload_n hx hb dX3_used_4 rfl (lv_at hl 0 rfl) ?_
  refine lv_iconst (v := 4) hx hb dX3_used_5 (by decide) ?_
  refine lv_icmp_ge (tgt := 26) hx hb dX3_used_6 (by decide) (fun c9 => by first | exact absurd c9 (by decide) | exact absurd (by decide) c9) (fun _ => ?_)
  refine lv_aload_n hx hb dX3_used_9 rfl (lv_at hl 2 rfl) ?_
  refine lv_iload_n hx hb dX3_used_10 rfl (lv_at hl 0 rfl) ?_
  have hPc := hP.sub (ws' := [((a 7), .inr (3, [.ref (a 35), .ref (a 36), .ref (a 37)])), ((a 37), .inl (cI, 4, .inl fz))]) [0, 1] rfl
  refine vp_callSi (W.runV (As := [.int 1]) (rest := []) ⟨hx, hb, hml, hown, ht⟩ (k_X3_has l dC dI cB cI cJ cZ cL a fz 1 hfz (by decide)) (cwV 1 ht (gV w_1209 w_1034 w_1035 w_110 w_1036) rfl rfl rfl (by decide +kernel) ⟨Nat.le_of_ble_eq_true rfl, Nat.le_of_ble_eq_true rfl⟩) (pVS hK hPc (ci := 3) (q0 := 0) rfl rfl) rfl rfl hl.1 rfl (lv_room (Nat.le_of_ble_eq_true rfl)) dX3_used_11 ⟨Nat.le_of_ble_eq_true rfl, Nat.le_of_ble_eq_true rfl⟩) (fun r_2 hw => ?_)
  subst hw
  refine lv_if_eq (tgt := 20) hx hb dX3_used_14 (by decide) (fun _ => ?_) (fun c9 => by first | exact absurd (by decide) c9 | exact absurd c9 (by decide))
  refine lv_iinc (v := 2) (lv' := [(2, .int 2), (1, .int 0), (0, .ref (a 7))]) hx hb dX3_used_20 hl (k := 0) rfl (by decide) (by decide) rfl (fun ls hl => ?_)
  refine lv_goto (tgt := 4) hx hb dX3_used_23 (by decide) ?_
  refine lv_iload_n hx hb dX3_used_4 rfl (lv_at hl 0 rfl) ?_
  refine lv_iconst (v := 4) hx hb dX3_used_5 (by decide) ?_
  refine lv_icmp_ge (tgt := 26) hx hb dX3_used_6 (by decide) (fun c9 => by first | exact absurd c9 (by decide) | exact absurd (by decide) c9) (fun _ => ?_)
  refine lv_aload_n hx hb dX3_used_9 rfl (lv_at hl 2 rfl) ?_
  refine lv_iload_n hx hb dX3_used_10 rfl (lv_at hl 0 rfl) ?_
  have hPc := hP.sub (ws' := [((a 7), .inr (3, [.ref (a 35), .ref (a 36), .ref (a 37)])), ((a 37), .inl (cI, 4, .inl fz))]) [0, 1] rfl
  refine vp_callSi (W.runV (As := [.int 2]) (rest := []) ⟨hx, hb, hml, hown, ht⟩ (k_X3_has l dC dI cB cI cJ cZ cL a fz 2 hfz (by decide)) (cwV 1 ht (gV w_1209 w_1034 w_1035 w_110 w_1036) rfl rfl rfl (by decide +kernel) ⟨Nat.le_of_ble_eq_true rfl, Nat.le_of_ble_eq_true rfl⟩) (pVS hK hPc (ci := 3) (q0 := 0) rfl rfl) rfl rfl hl.1 rfl (lv_room (Nat.le_of_ble_eq_true rfl)) dX3_used_11 ⟨Nat.le_of_ble_eq_true rfl, Nat.le_of_ble_eq_true rfl⟩) (fun r_3 hw => ?_)
  subst hw
  refine lv_if_eq (tgt := 20) hx hb dX3_used_14 (by decide) (fun _ => ?_) (fun c9 => by first | exact absurd (by decide) c9 | exact absurd c9 (by decide))
  refine lv_iinc (v := 3) (lv' := [(2, .int 3), (1, .int 0), (0, .ref (a 7))]) hx hb dX3_used_20 hl (k := 0) rfl (by decide) (by decide) rfl (fun ls hl => ?_)
  refine lv_goto (tgt := 4) hx hb dX3_used_23 (by decide) ?_
  refine lv_iload_n hx hb dX3_used_4 rfl (lv_at hl 0 rfl) ?_
  refine lv_iconst (v := 4) hx hb dX3_used_5 (by decide) ?_
  refine lv_icmp_ge (tgt := 26) hx hb dX3_used_6 (by decide) (fun c9 => by first | exact absurd c9 (by decide) | exact absurd (by decide) c9) (fun _ => ?_)
  refine lv_aload_n hx hb dX3_used_9 rfl (lv_at hl 2 rfl) ?_
  refine lv_iload_n hx hb dX3_used_10 rfl (lv_at hl 0 rfl) ?_
  have hPc := hP.sub (ws' := [((a 7), .inr (3, [.ref (a 35), .ref (a 36), .ref (a 37)])), ((a 37), .inl (cI, 4, .inl fz))]) [0, 1] rfl
  refine vp_callSi (W.runV (As := [.int 3]) (rest := []) ⟨hx, hb, hml, hown, ht⟩ (k_X3_has l dC dI cB cI cJ cZ cL a fz 3 hfz (by decide)) (cwV 1 ht (gV w_1209 w_1034 w_1035 w_110 w_1036) rfl rfl rfl (by decide +kernel) ⟨Nat.le_of_ble_eq_true rfl, Nat.le_of_ble_eq_true rfl⟩) (pVS hK hPc (ci := 3) (q0 := 0) rfl rfl) rfl rfl hl.1 rfl (lv_room (Nat.le_of_ble_eq_true rfl)) dX3_used_11 ⟨Nat.le_of_ble_eq_true rfl, Nat.le_of_ble_eq_true rfl⟩) (fun r_4 hw => ?_)
  subst hw
  refine lv_if_eq (tgt := 20) hx hb dX3_used_14 (by decide) (fun _ => ?_) (fun c9 => by first | exact absurd (by decide) c9 | exact absurd c9 (by decide))
  refine lv_iinc (v := 4) (lv' := [(2, .int 4), (1, .int 0), (0, .ref (a 7))]) hx hb dX3_used_20 hl (k := 0) rfl (by decide) (by decide) rfl (fun ls hl => ?_)
  refine lv_goto (tgt := 4) hx hb dX3_used_23 (by decide) ?_
  refine lv_iload_n hx hb dX3_used_4 rfl (lv_at hl 0 rfl) ?_
  refine lv_iconst (v := 4) hx hb dX3_used_5 (by decide) ?_
  refine lv_icmp_ge (tgt := 26) hx hb dX3_used_6 (by decide) (fun _ => ?_) (fun c9 => by first | exact absurd (by decide) c9 | exact absurd c9 (by decide))
  refine lv_iload_n hx hb dX3_used_26 rfl (lv_at hl 1 rfl) ?_
  exact W.iret (v := 0) hx hb hr (fun t ht hW => ⟨0, rfl, rfl, ht⟩) (fun q h => absurd h List.not_mem_nil) dX3_used_27
set_option maxHeartbeats 4000000 in
set_option maxRecDepth 100000 in
theorem k_X8_fault (l : Launch) (dC : Nat → ClassId) (dI : Nat → Nat → Nat) (cB cI cJ cZ cL : ClassId) (a : Nat → Nat) (p0 : Int32) : Met l yX8_fault (wy yX8_fault cX8_fault 2 (some .int)) ({ frames := 0, cells := 0, slots := 0, locals := 0 }) (va_Pc [.ref (a 0), .int p0] (fun U => va_P (dC, dI) vwCl [((a 0), .inr (8, [.ref (a 1), .ref (a 2), .ref (a 3), .ref (a 4), .ref (a 5), .ref (a 6), .ref (a 7), .ref (a 8), .ref (a 9), .ref (a 10), .ref (a 11), .ref (a 12), .ref (a 13), .ref (a 14), .int 0, .int (-1)]))] U.heap ∧ va_K (dC, dI) vwCl (tyL cB cI cJ cZ cL) U)) (vp_Si (fun r => PEnd (Int32.toInt p0) r)) 0 0 (fun _ => False) := by
  refine Met.ofW (cc := cX8_fault) (maxL := 2) (ret := (some .int)) (by decide) rfl ?_
  intro p e s m args below meth c s₁ B hml hv
  obtain ⟨rfl, hP, hK⟩ := hv
  have hx := B.exec
  have hb := B.bytes
  have hr := B.returns
  have ht : ∀ w ∈ lw_ok, w.before _ s = true := fun w h => atoms_spec (ws := wy yX8_fault cX8_fault 2 (some .int)) B.pre w (List.mem_cons_of_mem _ h)
  have hown : s.vm.findClass RX8 = some m.cls := findClass_of_methodNamed B.named
  have hlocks := B.notSynchronized
  have hl := lv_entry ([.ref (a 0), .int p0]) (n := 2) (Nat.le_of_ble_eq_true rfl)
  rw [lg_entry_eq]
  generalize (lg_sl ([.ref (a 0), .int p0]) ++ List.replicate (2 - (lg_sl ([.ref (a 0), .int p0])).length) Slot.unset).toArray = ls at hl ⊢
  have hl : lv_has ls 2 [(0, .ref (a 0)), (1, .int p0)] := hl
  have hP : va_P (dC, dI) vwCl [((a 0), .inr (8, [.ref (a 1), .ref (a 2), .ref (a 3), .ref (a 4), .ref (a 5), .ref (a 6), .ref (a 7), .ref (a 8), .ref (a 9), .ref (a 10), .ref (a 11), .ref (a 12), .ref (a 13), .ref (a 14), .int 0, .int (-1)]))] s.heap := hP
  refine lv_iload_n hx hb dX8_fault_0 rfl (lv_at hl 1 rfl) ?_
  refine lv_if_ne (tgt := 9) hx hb dX8_fault_1 (by decide) (fun c_1 => ?_) (fun c_1 => ?_)
  · refine lv_iload_n hx hb dX8_fault_9 rfl (lv_at hl 1 rfl) ?_
    refine lv_iconst (v := 1) hx hb dX8_fault_10 (by decide) ?_
    refine lv_icmp_ne (tgt := 21) hx hb dX8_fault_11 (by decide) (fun c_2 => ?_) (fun c_2 => ?_)
    · refine lv_iconst (v := (-1)) hx hb dX8_fault_21 (by decide) ?_
      exact W.iret (v := (-1)) hx hb hr (fun t ht hW => ⟨(-1), rfl, (by (try simp only [i_lt, i_le, i_eq, l_lt, l_le, l_wd, T0, T1, T2, T3, T4, T5, T6, T7, T8, T9, T60, Tm1, L0, L1, L2, L3, L6, Lm1, L20, L60, L2e9] at c_1 c_2); first | exact Or.inl ⟨rfl, by omega⟩ | exact Or.inr ⟨rfl, by omega⟩), ht⟩) (fun q h => absurd h List.not_mem_nil) dX8_fault_22
    · refine lv_aload_n hx hb dX8_fault_14 rfl (lv_at hl 0 rfl) ?_
      refine va_get (D := (dC, dI)) (ci := 8) (v := .int (-1)) (C := RX8) (T := TX8) (N := 16) hx hb ht iX8 hown hK hP 0 rfl rfl 15 (by decide) (ht _ w_390) (fun _ h9 => h9) rfl dX8_fault_15 ?_
      refine lv_goto (tgt := 22) hx hb dX8_fault_18 (by decide) ?_
      exact W.iret (v := (-1)) hx hb hr (fun t ht hW => ⟨(-1), rfl, (by (try simp only [i_lt, i_le, i_eq, l_lt, l_le, l_wd, T0, T1, T2, T3, T4, T5, T6, T7, T8, T9, T60, Tm1, L0, L1, L2, L3, L6, Lm1, L20, L60, L2e9] at c_1 c_2); first | exact Or.inl ⟨rfl, by omega⟩ | exact Or.inr ⟨rfl, by omega⟩), ht⟩) (fun q h => absurd h List.not_mem_nil) dX8_fault_22
  · refine lv_aload_n hx hb dX8_fault_4 rfl (lv_at hl 0 rfl) ?_
    refine va_get (D := (dC, dI)) (ci := 8) (v := .int 0) (C := RX8) (T := TX8) (N := 16) hx hb ht iX8 hown hK hP 0 rfl rfl 14 (by decide) (ht _ w_389) (fun _ h9 => h9) rfl dX8_fault_5 ?_
    exact W.iret (v := 0) hx hb hr (fun t ht hW => ⟨0, rfl, (by (try simp only [i_lt, i_le, i_eq, l_lt, l_le, l_wd, T0, T1, T2, T3, T4, T5, T6, T7, T8, T9, T60, Tm1, L0, L1, L2, L3, L6, Lm1, L20, L60, L2e9] at c_1); first | exact Or.inl ⟨rfl, by omega⟩ | exact Or.inr ⟨rfl, by omega⟩), ht⟩) (fun q h => absurd h List.not_mem_nil) dX8_fault_8
set_option maxHeartbeats 4000000 in
set_option maxRecDepth 100000 in
theorem k_X8_back (l : Launch) (dC : Nat → ClassId) (dI : Nat → Nat → Nat) (cB cI cJ cZ cL : ClassId) (a : Nat → Nat) (p0 : Int32) : Met l yX8_back (wy yX8_back cX8_back 3 (some .int)) ({ frames := 0, cells := 0, slots := 0, locals := 0 }) (va_Pc [.ref (a 0), .int p0] (fun U => va_P (dC, dI) vwCl [((a 0), .inr (8, [.ref (a 1), .ref (a 2), .ref (a 3), .ref (a 4), .ref (a 5), .ref (a 6), .ref (a 7), .ref (a 8), .ref (a 9), .ref (a 10), .ref (a 11), .ref (a 12), .ref (a 13), .ref (a 14), .int 0, .int (-1)])), ((a 6), .inl (cL, 3, .inr (.inr (.inr (.inr (fun _ => none))))))] U.heap ∧ va_K (dC, dI) vwCl (tyL cB cI cJ cZ cL) U)) (vp_Si (fun r => PBck (Int32.toInt p0) r)) 0 0 (fun _ => False) := by
  refine Met.ofW (cc := cX8_back) (maxL := 3) (ret := (some .int)) (by decide) rfl ?_
  intro p e s m args below meth c s₁ B hml hv
  obtain ⟨rfl, hP, hK⟩ := hv
  have hx := B.exec
  have hb := B.bytes
  have hr := B.returns
  have ht : ∀ w ∈ lw_ok, w.before _ s = true := fun w h => atoms_spec (ws := wy yX8_back cX8_back 3 (some .int)) B.pre w (List.mem_cons_of_mem _ h)
  have hown : s.vm.findClass RX8 = some m.cls := findClass_of_methodNamed B.named
  have hlocks := B.notSynchronized
  have hl := lv_entry ([.ref (a 0), .int p0]) (n := 3) (Nat.le_of_ble_eq_true rfl)
  rw [lg_entry_eq]
  generalize (lg_sl ([.ref (a 0), .int p0]) ++ List.replicate (3 - (lg_sl ([.ref (a 0), .int p0])).length) Slot.unset).toArray = ls at hl ⊢
  have hl : lv_has ls 3 [(0, .ref (a 0)), (1, .int p0)] := hl
  have hP : va_P (dC, dI) vwCl [((a 0), .inr (8, [.ref (a 1), .ref (a 2), .ref (a 3), .ref (a 4), .ref (a 5), .ref (a 6), .ref (a 7), .ref (a 8), .ref (a 9), .ref (a 10), .ref (a 11), .ref (a 12), .ref (a 13), .ref (a 14), .int 0, .int (-1)])), ((a 6), .inl (cL, 3, .inr (.inr (.inr (.inr (fun _ => none))))))] s.heap := hP
  refine lv_iload_n hx hb dX8_back_0 rfl (lv_at hl 1 rfl) ?_
  refine lv_if_lt (tgt := 13) hx hb dX8_back_1 (by decide) (fun c_1 => ?_) (fun c_1 => ?_)
  · refine lv_bipush (v := (-2)) hx hb dX8_back_13 (by decide) ?_
    exact W.iret (v := (-2)) hx hb hr (fun t ht hW => ⟨(-2), rfl, (by (try simp only [i_lt, i_le, i_eq, l_lt, l_le, l_wd, T0, T1, T2, T3, T4, T5, T6, T7, T8, T9, T60, Tm1, L0, L1, L2, L3, L6, Lm1, L20, L60, L2e9] at c_1); first | exact Or.inl ⟨rfl, by omega⟩ | exact Or.inr ⟨rfl, by omega⟩), ht⟩) (fun q h => absurd h List.not_mem_nil) dX8_back_15
  · refine lv_iload_n hx hb dX8_back_4 rfl (lv_at hl 1 rfl) ?_
    refine lv_aload_n hx hb dX8_back_5 rfl (lv_at hl 0 rfl) ?_
    refine va_get (D := (dC, dI)) (ci := 8) (v := .ref (a 6)) (C := RX8) (T := TX8) (N := 16) hx hb ht iX8 hown hK hP 0 rfl rfl 5 (by decide) (ht _ w_380) (fun _ h9 => h9) rfl dX8_back_6 ?_
    refine va_alen (v := 3) hx hb hK hP 1 4 rfl rfl (by decide) dX8_back_9 ?_
    refine lv_icmp_lt (tgt := 16) hx hb dX8_back_10 (by decide) (fun c_2 => ?_) (fun c_2 => ?_)
    · refine lv_aload_n hx hb dX8_back_16 rfl (lv_at hl 0 rfl) ?_
      refine va_get (D := (dC, dI)) (ci := 8) (v := .ref (a 6)) (C := RX8) (T := TX8) (N := 16) hx hb ht iX8 hown hK hP 0 rfl rfl 5 (by decide) (ht _ w_380) (fun _ h9 => h9) rfl dX8_back_17 ?_
      refine lv_iload_n hx hb dX8_back_20 rfl (lv_at hl 1 rfl) ?_
      refine va_aldq hx hb hK hP 1 4 rfl rfl (vp_in_iff.mpr (by (try simp only [i_lt, i_le, i_eq, l_lt, l_le, l_wd, T0, T1, T2, T3, T4, T5, T6, T7, T8, T9, T60, Tm1, L0, L1, L2, L3, L6, Lm1, L20, L60, L2e9] at c_1 c_2); omega)) dX8_back_21 ?_
      refine W.eq (g2 := F0 m 22 ls (.null :: [])) rfl ?_
      refine lv_astore_nN (lv' := [(2, .null), (0, .ref (a 0)), (1, .int p0)]) hx hb dX8_back_22 rfl hl (by decide) rfl (fun ls hl => ?_)
      refine lv_aload_nN hx hb dX8_back_23 rfl (lv_at hl 0 rfl) ?_
      refine lv_ifnonnullN hx hb dX8_back_24 ?_
      refine lv_bipush (v := (-6)) hx hb dX8_back_27 (by decide) ?_
      exact W.iret (v := (-6)) hx hb hr (fun t ht hW => ⟨(-6), rfl, (by (try simp only [i_lt, i_le, i_eq, l_lt, l_le, l_wd, T0, T1, T2, T3, T4, T5, T6, T7, T8, T9, T60, Tm1, L0, L1, L2, L3, L6, Lm1, L20, L60, L2e9] at c_1 c_2); first | exact Or.inl ⟨rfl, by omega⟩ | exact Or.inr ⟨rfl, by omega⟩), ht⟩) (fun q h => absurd h List.not_mem_nil) dX8_back_29
    · refine lv_bipush (v := (-2)) hx hb dX8_back_13 (by decide) ?_
      exact W.iret (v := (-2)) hx hb hr (fun t ht hW => ⟨(-2), rfl, (by (try simp only [i_lt, i_le, i_eq, l_lt, l_le, l_wd, T0, T1, T2, T3, T4, T5, T6, T7, T8, T9, T60, Tm1, L0, L1, L2, L3, L6, Lm1, L20, L60, L2e9] at c_1 c_2); first | exact Or.inl ⟨rfl, by omega⟩ | exact Or.inr ⟨rfl, by omega⟩), ht⟩) (fun q h => absurd h List.not_mem_nil) dX8_back_15
set_option maxHeartbeats 4000000 in
set_option maxRecDepth 100000 in
theorem k_X8_count (l : Launch) (dC : Nat → ClassId) (dI : Nat → Nat → Nat) (cB cI cJ cZ cL : ClassId) (a : Nat → Nat) (fz : Nat → Int32) (p0 : Int32) (hfz : ∀ j, j < 4 → fz j = -1): Met l yX8_count (wy yX8_count cX8_count 2 (some .int)) ({ frames := 2, cells := 0, slots := 0, locals := 80 }) (va_Pc [.ref (a 0), .int p0] (fun U => va_P (dC, dI) vwCl [((a 0), .inr (8, [.ref (a 1), .ref (a 2), .ref (a 3), .ref (a 4), .ref (a 5), .ref (a 6), .ref (a 7), .ref (a 8), .ref (a 9), .ref (a 10), .ref (a 11), .ref (a 12), .ref (a 13), .ref (a 14), .int 0, .int (-1)])), ((a 4), .inr (2, [.int 0, .int 0, .int 0, .int 0, .int 0, .int 0, .int 0, .int 0, .int 0, .ref (a 19), .ref (a 20), .ref (a 21), .ref (a 22), .ref (a 23), .ref (a 24), .ref (a 25), .ref (a 26)])), ((a 1), .inr (5, [.ref (a 15), .int 0])), ((a 7), .inr (3, [.ref (a 35), .ref (a 36), .ref (a 37)])), ((a 37), .inl (cI, 4, .inl fz))] U.heap ∧ va_K (dC, dI) vwCl (tyL cB cI cJ cZ cL) U)) (vp_Si (fun r => PCnt (Int32.toInt p0) r)) 0 0 (fun _ => False) := by
  refine Met.ofW (cc := cX8_count) (maxL := 2) (ret := (some .int)) (by decide) rfl ?_
  intro p e s m args below meth c s₁ B hml hv
  obtain ⟨rfl, hP, hK⟩ := hv
  have hx := B.exec
  have hb := B.bytes
  have hr := B.returns
  have ht : ∀ w ∈ lw_ok, w.before _ s = true := fun w h => atoms_spec (ws := wy yX8_count cX8_count 2 (some .int)) B.pre w (List.mem_cons_of_mem _ h)
  have hown : s.vm.findClass RX8 = some m.cls := findClass_of_methodNamed B.named
  have hlocks := B.notSynchronized
  have hl := lv_entry ([.ref (a 0), .int p0]) (n := 2) (Nat.le_of_ble_eq_true rfl)
  rw [lg_entry_eq]
  generalize (lg_sl ([.ref (a 0), .int p0]) ++ List.replicate (2 - (lg_sl ([.ref (a 0), .int p0])).length) Slot.unset).toArray = ls at hl ⊢
  have hl : lv_has ls 2 [(0, .ref (a 0)), (1, .int p0)] := hl
  have hP : va_P (dC, dI) vwCl [((a 0), .inr (8, [.ref (a 1), .ref (a 2), .ref (a 3), .ref (a 4), .ref (a 5), .ref (a 6), .ref (a 7), .ref (a 8), .ref (a 9), .ref (a 10), .ref (a 11), .ref (a 12), .ref (a 13), .ref (a 14), .int 0, .int (-1)])), ((a 4), .inr (2, [.int 0, .int 0, .int 0, .int 0, .int 0, .int 0, .int 0, .int 0, .int 0, .ref (a 19), .ref (a 20), .ref (a 21), .ref (a 22), .ref (a 23), .ref (a 24), .ref (a 25), .ref (a 26)])), ((a 1), .inr (5, [.ref (a 15), .int 0])), ((a 7), .inr (3, [.ref (a 35), .ref (a 36), .ref (a 37)])), ((a 37), .inl (cI, 4, .inl fz))] s.heap := hP
  refine lv_iload_n hx hb dX8_count_0 rfl (lv_at hl 1 rfl) ?_
  by_cases c_1 : p0 = 0
  · refine lv_topi (fun y_2 ey_2 => ?_)
    obtain rfl : y_2 = 0 := ey_2.trans c_1
    refine lv_tableIn (off := 55) (tgt := 56) hx hb dX8_count_1 (by decide) (by decide) (by decide) (by decide) ?_
    refine lv_aload_n hx hb dX8_count_56 rfl (lv_at hl 0 rfl) ?_
    refine va_get (D := (dC, dI)) (ci := 8) (v := .ref (a 4)) (C := RX8) (T := TX8) (N := 16) hx hb ht iX8 hown hK hP 0 rfl rfl 3 (by decide) (ht _ w_378) (fun _ h9 => h9) rfl dX8_count_57 ?_
    refine va_get (D := (dC, dI)) (ci := 2) (v := .int 0) (C := RX2) (T := TX2) (N := 17) hx hb ht iX2 hown hK hP 1 rfl rfl 1 (by decide) (ht _ w_206) (fun _ h9 => h9) rfl dX8_count_60 ?_
    exact W.iret (v := 0) hx hb hr (fun t ht hW => ⟨0, rfl, (by (try simp only [i_lt, i_le, i_eq, l_lt, l_le, l_wd, T0, T1, T2, T3, T4, T5, T6, T7, T8, T9, T60, Tm1, L0, L1, L2, L3, L6, Lm1, L20, L60, L2e9] at c_1); first | exact Or.inl ⟨rfl, by omega⟩ | exact Or.inr ⟨rfl, by omega⟩), ht⟩) (fun q h => absurd h List.not_mem_nil) dX8_count_63
  by_cases c_3 : p0 = 1
  · refine lv_topi (fun y_4 ey_4 => ?_)
    obtain rfl : y_4 = 1 := ey_4.trans c_3
    refine lv_tableIn (off := 63) (tgt := 64) hx hb dX8_count_1 (by decide) (by decide) (by decide) (by decide) ?_
    refine lv_aload_n hx hb dX8_count_64 rfl (lv_at hl 0 rfl) ?_
    refine va_get (D := (dC, dI)) (ci := 8) (v := .ref (a 4)) (C := RX8) (T := TX8) (N := 16) hx hb ht iX8 hown hK hP 0 rfl rfl 3 (by decide) (ht _ w_378) (fun _ h9 => h9) rfl dX8_count_65 ?_
    refine va_get (D := (dC, dI)) (ci := 2) (v := .int 0) (C := RX2) (T := TX2) (N := 17) hx hb ht iX2 hown hK hP 1 rfl rfl 2 (by decide) (ht _ w_210) (fun _ h9 => h9) rfl dX8_count_68 ?_
    exact W.iret (v := 0) hx hb hr (fun t ht hW => ⟨0, rfl, (by (try simp only [i_lt, i_le, i_eq, l_lt, l_le, l_wd, T0, T1, T2, T3, T4, T5, T6, T7, T8, T9, T60, Tm1, L0, L1, L2, L3, L6, Lm1, L20, L60, L2e9] at c_1 c_3); first | exact Or.inl ⟨rfl, by omega⟩ | exact Or.inr ⟨rfl, by omega⟩), ht⟩) (fun q h => absurd h List.not_mem_nil) dX8_count_71
  by_cases c_5 : p0 = 2
  · refine lv_topi (fun y_6 ey_6 => ?_)
    obtain rfl : y_6 = 2 := ey_6.trans c_5
    refine lv_tableIn (off := 71) (tgt := 72) hx hb dX8_count_1 (by decide) (by decide) (by decide) (by decide) ?_
    refine lv_aload_n hx hb dX8_count_72 rfl (lv_at hl 0 rfl) ?_
    refine va_get (D := (dC, dI)) (ci := 8) (v := .ref (a 4)) (C := RX8) (T := TX8) (N := 16) hx hb ht iX8 hown hK hP 0 rfl rfl 3 (by decide) (ht _ w_378) (fun _ h9 => h9) rfl dX8_count_73 ?_
    refine va_get (D := (dC, dI)) (ci := 2) (v := .int 0) (C := RX2) (T := TX2) (N := 17) hx hb ht iX2 hown hK hP 1 rfl rfl 3 (by decide) (ht _ w_213) (fun _ h9 => h9) rfl dX8_count_76 ?_
    exact W.iret (v := 0) hx hb hr (fun t ht hW => ⟨0, rfl, (by (try simp only [i_lt, i_le, i_eq, l_lt, l_le, l_wd, T0, T1, T2, T3, T4, T5, T6, T7, T8, T9, T60, Tm1, L0, L1, L2, L3, L6, Lm1, L20, L60, L2e9] at c_1 c_3 c_5); first | exact Or.inl ⟨rfl, by omega⟩ | exact Or.inr ⟨rfl, by omega⟩), ht⟩) (fun q h => absurd h List.not_mem_nil) dX8_count_79
  by_cases c_7 : p0 = 3
  · refine lv_topi (fun y_8 ey_8 => ?_)
    obtain rfl : y_8 = 3 := ey_8.trans c_7
    refine lv_tableIn (off := 79) (tgt := 80) hx hb dX8_count_1 (by decide) (by decide) (by decide) (by decide) ?_
    refine lv_aload_n hx hb dX8_count_80 rfl (lv_at hl 0 rfl) ?_
    refine va_get (D := (dC, dI)) (ci := 8) (v := .ref (a 4)) (C := RX8) (T := TX8) (N := 16) hx hb ht iX8 hown hK hP 0 rfl rfl 3 (by decide) (ht _ w_378) (fun _ h9 => h9) rfl dX8_count_81 ?_
    refine va_get (D := (dC, dI)) (ci := 2) (v := .int 0) (C := RX2) (T := TX2) (N := 17) hx hb ht iX2 hown hK hP 1 rfl rfl 4 (by decide) (ht _ w_216) (fun _ h9 => h9) rfl dX8_count_84 ?_
    exact W.iret (v := 0) hx hb hr (fun t ht hW => ⟨0, rfl, (by (try simp only [i_lt, i_le, i_eq, l_lt, l_le, l_wd, T0, T1, T2, T3, T4, T5, T6, T7, T8, T9, T60, Tm1, L0, L1, L2, L3, L6, Lm1, L20, L60, L2e9] at c_1 c_3 c_5 c_7); first | exact Or.inl ⟨rfl, by omega⟩ | exact Or.inr ⟨rfl, by omega⟩), ht⟩) (fun q h => absurd h List.not_mem_nil) dX8_count_87
  by_cases c_9 : p0 = 4
  · refine lv_topi (fun y_10 ey_10 => ?_)
    obtain rfl : y_10 = 4 := ey_10.trans c_9
    refine lv_tableIn (off := 87) (tgt := 88) hx hb dX8_count_1 (by decide) (by decide) (by decide) (by decide) ?_
    refine lv_aload_n hx hb dX8_count_88 rfl (lv_at hl 0 rfl) ?_
    refine va_get (D := (dC, dI)) (ci := 8) (v := .ref (a 4)) (C := RX8) (T := TX8) (N := 16) hx hb ht iX8 hown hK hP 0 rfl rfl 3 (by decide) (ht _ w_378) (fun _ h9 => h9) rfl dX8_count_89 ?_
    refine va_get (D := (dC, dI)) (ci := 2) (v := .int 0) (C := RX2) (T := TX2) (N := 17) hx hb ht iX2 hown hK hP 1 rfl rfl 5 (by decide) (ht _ w_221) (fun _ h9 => h9) rfl dX8_count_92 ?_
    exact W.iret (v := 0) hx hb hr (fun t ht hW => ⟨0, rfl, (by (try simp only [i_lt, i_le, i_eq, l_lt, l_le, l_wd, T0, T1, T2, T3, T4, T5, T6, T7, T8, T9, T60, Tm1, L0, L1, L2, L3, L6, Lm1, L20, L60, L2e9] at c_1 c_3 c_5 c_7 c_9); first | exact Or.inl ⟨rfl, by omega⟩ | exact Or.inr ⟨rfl, by omega⟩), ht⟩) (fun q h => absurd h List.not_mem_nil) dX8_count_95
  by_cases c_11 : p0 = 5
  · refine lv_topi (fun y_12 ey_12 => ?_)
    obtain rfl : y_12 = 5 := ey_12.trans c_11
    refine lv_tableIn (off := 95) (tgt := 96) hx hb dX8_count_1 (by decide) (by decide) (by decide) (by decide) ?_
    refine lv_aload_n hx hb dX8_count_96 rfl (lv_at hl 0 rfl) ?_
    refine va_get (D := (dC, dI)) (ci := 8) (v := .ref (a 4)) (C := RX8) (T := TX8) (N := 16) hx hb ht iX8 hown hK hP 0 rfl rfl 3 (by decide) (ht _ w_378) (fun _ h9 => h9) rfl dX8_count_97 ?_
    refine va_get (D := (dC, dI)) (ci := 2) (v := .int 0) (C := RX2) (T := TX2) (N := 17) hx hb ht iX2 hown hK hP 1 rfl rfl 6 (by decide) (ht _ w_224) (fun _ h9 => h9) rfl dX8_count_100 ?_
    exact W.iret (v := 0) hx hb hr (fun t ht hW => ⟨0, rfl, (by (try simp only [i_lt, i_le, i_eq, l_lt, l_le, l_wd, T0, T1, T2, T3, T4, T5, T6, T7, T8, T9, T60, Tm1, L0, L1, L2, L3, L6, Lm1, L20, L60, L2e9] at c_1 c_3 c_5 c_7 c_9 c_11); first | exact Or.inl ⟨rfl, by omega⟩ | exact Or.inr ⟨rfl, by omega⟩), ht⟩) (fun q h => absurd h List.not_mem_nil) dX8_count_103
  by_cases c_13 : p0 = 6
  · refine lv_topi (fun y_14 ey_14 => ?_)
    obtain rfl : y_14 = 6 := ey_14.trans c_13
    refine lv_tableIn (off := 103) (tgt := 104) hx hb dX8_count_1 (by decide) (by decide) (by decide) (by decide) ?_
    refine lv_aload_n hx hb dX8_count_104 rfl (lv_at hl 0 rfl) ?_
    refine va_get (D := (dC, dI)) (ci := 8) (v := .ref (a 4)) (C := RX8) (T := TX8) (N := 16) hx hb ht iX8 hown hK hP 0 rfl rfl 3 (by decide) (ht _ w_378) (fun _ h9 => h9) rfl dX8_count_105 ?_
    refine va_get (D := (dC, dI)) (ci := 2) (v := .int 0) (C := RX2) (T := TX2) (N := 17) hx hb ht iX2 hown hK hP 1 rfl rfl 8 (by decide) (ht _ w_230) (fun _ h9 => h9) rfl dX8_count_108 ?_
    exact W.iret (v := 0) hx hb hr (fun t ht hW => ⟨0, rfl, (by (try simp only [i_lt, i_le, i_eq, l_lt, l_le, l_wd, T0, T1, T2, T3, T4, T5, T6, T7, T8, T9, T60, Tm1, L0, L1, L2, L3, L6, Lm1, L20, L60, L2e9] at c_1 c_3 c_5 c_7 c_9 c_11 c_13); first | exact Or.inl ⟨rfl, by omega⟩ | exact Or.inr ⟨rfl, by omega⟩), ht⟩) (fun q h => absurd h List.not_mem_nil) dX8_count_111
  by_cases c_15 : p0 = 7
  · refine lv_topi (fun y_16 ey_16 => ?_)
    obtain rfl : y_16 = 7 := ey_16.trans c_15
    refine lv_tableIn (off := 111) (tgt := 112) hx hb dX8_count_1 (by decide) (by decide) (by decide) (by decide) ?_
    refine lv_aload_n hx hb dX8_count_112 rfl (lv_at hl 0 rfl) ?_
    refine va_get (D := (dC, dI)) (ci := 8) (v := .ref (a 4)) (C := RX8) (T := TX8) (N := 16) hx hb ht iX8 hown hK hP 0 rfl rfl 3 (by decide) (ht _ w_378) (fun _ h9 => h9) rfl dX8_count_113 ?_
    refine va_get (D := (dC, dI)) (ci := 2) (v := .int 0) (C := RX2) (T := TX2) (N := 17) hx hb ht iX2 hown hK hP 1 rfl rfl 0 (by decide) (ht _ w_203) (fun _ h9 => h9) rfl dX8_count_116 ?_
    exact W.iret (v := 0) hx hb hr (fun t ht hW => ⟨0, rfl, (by (try simp only [i_lt, i_le, i_eq, l_lt, l_le, l_wd, T0, T1, T2, T3, T4, T5, T6, T7, T8, T9, T60, Tm1, L0, L1, L2, L3, L6, Lm1, L20, L60, L2e9] at c_1 c_3 c_5 c_7 c_9 c_11 c_13 c_15); first | exact Or.inl ⟨rfl, by omega⟩ | exact Or.inr ⟨rfl, by omega⟩), ht⟩) (fun q h => absurd h List.not_mem_nil) dX8_count_119
  by_cases c_17 : p0 = 8
  · refine lv_topi (fun y_18 ey_18 => ?_)
    obtain rfl : y_18 = 8 := ey_18.trans c_17
    refine lv_tableIn (off := 119) (tgt := 120) hx hb dX8_count_1 (by decide) (by decide) (by decide) (by decide) ?_
    refine lv_aload_n hx hb dX8_count_120 rfl (lv_at hl 0 rfl) ?_
    refine va_get (D := (dC, dI)) (ci := 8) (v := .ref (a 1)) (C := RX8) (T := TX8) (N := 16) hx hb ht iX8 hown hK hP 0 rfl rfl 0 (by decide) (ht _ w_375) (fun _ h9 => h9) rfl dX8_count_121 ?_
    refine va_get (D := (dC, dI)) (ci := 5) (v := .int 0) (C := RX5) (T := TX5) (N := 2) hx hb ht iX5 hown hK hP 2 rfl rfl 1 (by decide) (ht _ w_139) (fun _ h9 => h9) rfl dX8_count_124 ?_
    exact W.iret (v := 0) hx hb hr (fun t ht hW => ⟨0, rfl, (by (try simp only [i_lt, i_le, i_eq, l_lt, l_le, l_wd, T0, T1, T2, T3, T4, T5, T6, T7, T8, T9, T60, Tm1, L0, L1, L2, L3, L6, Lm1, L20, L60, L2e9] at c_1 c_3 c_5 c_7 c_9 c_11 c_13 c_15 c_17); first | exact Or.inl ⟨rfl, by omega⟩ | exact Or.inr ⟨rfl, by omega⟩), ht⟩) (fun q h => absurd h List.not_mem_nil) dX8_count_127
  by_cases c_19 : p0 = 9
  · refine lv_topi (fun y_20 ey_20 => ?_)
    obtain rfl : y_20 = 9 := ey_20.trans c_19
    refine lv_tableIn (off := 127) (tgt := 128) hx hb dX8_count_1 (by decide) (by decide) (by decide) (by decide) ?_
    refine lv_aload_n hx hb dX8_count_128 rfl (lv_at hl 0 rfl) ?_
    refine va_get (D := (dC, dI)) (ci := 8) (v := .ref (a 7)) (C := RX8) (T := TX8) (N := 16) hx hb ht iX8 hown hK hP 0 rfl rfl 6 (by decide) (ht _ w_381) (fun _ h9 => h9) rfl dX8_count_129 ?_
    have hPc := hP.sub (ws' := [((a 7), .inr (3, [.ref (a 35), .ref (a 36), .ref (a 37)])), ((a 37), .inl (cI, 4, .inl fz))]) [3, 4] rfl
    refine vp_callSi (W.runV (As := []) (rest := []) ⟨hx, hb, hml, hown, ht⟩ (k_X3_used l dC dI cB cI cJ cZ cL a fz hfz) (cwV 0 ht (gV w_1205 w_1206 w_1207 w_110 w_1208) rfl rfl rfl (by decide +kernel) ⟨Nat.le_of_ble_eq_true rfl, Nat.le_of_ble_eq_true rfl⟩) (pVS hK hPc (ci := 3) (q0 := 0) rfl rfl) rfl rfl hl.1 rfl (lv_room (Nat.le_of_ble_eq_true rfl)) dX8_count_132 ⟨Nat.le_of_ble_eq_true rfl, Nat.le_of_ble_eq_true rfl⟩) (fun r_21 hw => ?_)
    subst hw
    exact W.iret (v := 0) hx hb hr (fun t ht hW => ⟨0, rfl, (by (try simp only [i_lt, i_le, i_eq, l_lt, l_le, l_wd, T0, T1, T2, T3, T4, T5, T6, T7, T8, T9, T60, Tm1, L0, L1, L2, L3, L6, Lm1, L20, L60, L2e9] at c_1 c_3 c_5 c_7 c_9 c_11 c_13 c_15 c_17 c_19); first | exact Or.inl ⟨rfl, by omega⟩ | exact Or.inr ⟨rfl, by omega⟩), ht⟩) (fun q h => absurd h List.not_mem_nil) dX8_count_135
  refine lv_tableOut (tgt := 136) hx hb dX8_count_1 (by (try simp only [i_lt, i_le, i_eq, l_lt, l_le, l_wd, T0, T1, T2, T3, T4, T5, T6, T7, T8, T9, T60, Tm1, L0, L1, L2, L3, L6, Lm1, L20, L60, L2e9] at c_1 c_3 c_5 c_7 c_9 c_11 c_13 c_15 c_17 c_19); omega) (by decide) ?_
  refine lv_iconst (v := (-1)) hx hb dX8_count_136 (by decide) ?_
  exact W.iret (v := (-1)) hx hb hr (fun t ht hW => ⟨(-1), rfl, (by (try simp only [i_lt, i_le, i_eq, l_lt, l_le, l_wd, T0, T1, T2, T3, T4, T5, T6, T7, T8, T9, T60, Tm1, L0, L1, L2, L3, L6, Lm1, L20, L60, L2e9] at c_1 c_3 c_5 c_7 c_9 c_11 c_13 c_15 c_17 c_19); first | exact Or.inl ⟨rfl, by omega⟩ | exact Or.inr ⟨rfl, by omega⟩), ht⟩) (fun q h => absurd h List.not_mem_nil) dX8_count_137
set_option maxHeartbeats 4000000 in
set_option maxRecDepth 100000 in
theorem k_X8_write (l : Launch) (dC : Nat → ClassId) (dI : Nat → Nat → Nat) (cB cI cJ cZ cL : ClassId) (a : Nat → Nat) (fz : Nat → Int32) (p0 : Int32) (p1 : Int32) (v : Int64) (hfz : ∀ j, j < 4 → fz j = -1): Met l yX8_write (wy yX8_write cX8_write 5 (some .int)) ({ frames := 1, cells := 0, slots := 0, locals := 40 }) (va_Pc [.ref (a 0), .int p0, .int p1, .long v] (fun U => va_P (dC, dI) vwCl [((a 0), .inr (8, [.ref (a 1), .ref (a 2), .ref (a 3), .ref (a 4), .ref (a 5), .ref (a 6), .ref (a 7), .ref (a 8), .ref (a 9), .ref (a 10), .ref (a 11), .ref (a 12), .ref (a 13), .ref (a 14), .int 0, .int (-1)])), ((a 7), .inr (3, [.ref (a 35), .ref (a 36), .ref (a 37)])), ((a 37), .inl (cI, 4, .inl fz))] U.heap ∧ va_K (dC, dI) vwCl (tyL cB cI cJ cZ cL) U)) (vp_Si (fun r => PWri (Int32.toInt p0) r)) 0 0 (fun _ => False) := by
  refine Met.ofW (cc := cX8_write) (maxL := 5) (ret := (some .int)) (by decide) rfl ?_
  intro p e s m args below meth c s₁ B hml hv
  obtain ⟨rfl, hP, hK⟩ := hv
  have hx := B.exec
  have hb := B.bytes
  have hr := B.returns
  have ht : ∀ w ∈ lw_ok, w.before _ s = true := fun w h => atoms_spec (ws := wy yX8_write cX8_write 5 (some .int)) B.pre w (List.mem_cons_of_mem _ h)
  have hown : s.vm.findClass RX8 = some m.cls := findClass_of_methodNamed B.named
  have hlocks := B.notSynchronized
  have hl := lv_entry ([.ref (a 0), .int p0, .int p1, .long v]) (n := 5) (Nat.le_of_ble_eq_true rfl)
  rw [lg_entry_eq]
  generalize (lg_sl ([.ref (a 0), .int p0, .int p1, .long v]) ++ List.replicate (5 - (lg_sl ([.ref (a 0), .int p0, .int p1, .long v])).length) Slot.unset).toArray = ls at hl ⊢
  have hl : lv_has ls 5 [(0, .ref (a 0)), (1, .int p0), (2, .int p1), (3, .long v)] := hl
  have hP : va_P (dC, dI) vwCl [((a 0), .inr (8, [.ref (a 1), .ref (a 2), .ref (a 3), .ref (a 4), .ref (a 5), .ref (a 6), .ref (a 7), .ref (a 8), .ref (a 9), .ref (a 10), .ref (a 11), .ref (a 12), .ref (a 13), .ref (a 14), .int 0, .int (-1)])), ((a 7), .inr (3, [.ref (a 35), .ref (a 36), .ref (a 37)])), ((a 37), .inl (cI, 4, .inl fz))] s.heap := hP
  refine lv_iload_n hx hb dX8_write_0 rfl (lv_at hl 1 rfl) ?_
  have hPc := hP.sub (ws' := []) [] rfl
  refine vp_callSi (W.runS (As := [.int p0]) (rest := []) ⟨hx, hb, hml, hown, ht⟩ (k_X8_isSlot l dC dI cB cI cJ cZ cL p0) (va_cwS 1 ht (gQ w_1030 w_1031 w_105 w_1032) rfl rfl rfl (by decide +kernel) ⟨Nat.le_of_ble_eq_true rfl, Nat.le_of_ble_eq_true rfl⟩) (pSS hK hPc) rfl rfl hl.1 rfl (lv_room (Nat.le_of_ble_eq_true rfl)) dX8_write_1 ⟨Nat.le_of_ble_eq_true rfl, Nat.le_of_ble_eq_true rfl⟩) (fun r_1 hw => ?_)
  rcases hw with ⟨hw, c_2⟩ | ⟨hw, c_2⟩
  · subst hw
    refine lv_if_ne (tgt := 10) hx hb dX8_write_4 (by decide) (fun _ => ?_) (fun c9 => by first | exact absurd (by decide) c9 | exact absurd c9 (by decide))
    refine lv_aload_n hx hb dX8_write_10 rfl (lv_at hl 0 rfl) ?_
    refine va_get (D := (dC, dI)) (ci := 8) (v := .ref (a 7)) (C := RX8) (T := TX8) (N := 16) hx hb ht iX8 hown hK hP 0 rfl rfl 6 (by decide) (ht _ w_381) (fun _ h9 => h9) rfl dX8_write_11 ?_
    refine lv_iload_n hx hb dX8_write_14 rfl (lv_at hl 1 rfl) ?_
    have hPc := hP.sub (ws' := [((a 7), .inr (3, [.ref (a 35), .ref (a 36), .ref (a 37)])), ((a 37), .inl (cI, 4, .inl fz))]) [1, 2] rfl
    refine vp_callSi (W.runV (As := [.int p0]) (rest := []) ⟨hx, hb, hml, hown, ht⟩ (k_X3_has l dC dI cB cI cJ cZ cL a fz p0 hfz (by (try simp only [i_lt, i_le, i_eq, l_lt, l_le, l_wd, T0, T1, T2, T3, T4, T5, T6, T7, T8, T9, T60, Tm1, L0, L1, L2, L3, L6, Lm1, L20, L60, L2e9] at c_2); omega)) (cwV 1 ht (gV w_1033 w_1034 w_1035 w_110 w_1036) rfl rfl rfl (by decide +kernel) ⟨Nat.le_of_ble_eq_true rfl, Nat.le_of_ble_eq_true rfl⟩) (pVS hK hPc (ci := 3) (q0 := 0) rfl rfl) rfl rfl hl.1 rfl (lv_room (Nat.le_of_ble_eq_true rfl)) dX8_write_15 ⟨Nat.le_of_ble_eq_true rfl, Nat.le_of_ble_eq_true rfl⟩) (fun r_3 hw => ?_)
    subst hw
    refine lv_if_ne (tgt := 24) hx hb dX8_write_18 (by decide) (fun c9 => by first | exact absurd c9 (by decide) | exact absurd (by decide) c9) (fun _ => ?_)
    refine lv_bipush (v := (-6)) hx hb dX8_write_21 (by decide) ?_
    exact W.iret (v := (-6)) hx hb hr (fun t ht hW => ⟨(-6), rfl, (by (try simp only [i_lt, i_le, i_eq, l_lt, l_le, l_wd, T0, T1, T2, T3, T4, T5, T6, T7, T8, T9, T60, Tm1, L0, L1, L2, L3, L6, Lm1, L20, L60, L2e9] at c_2); first | exact Or.inl ⟨rfl, by omega⟩ | exact Or.inr ⟨rfl, by omega⟩), ht⟩) (fun q h => absurd h List.not_mem_nil) dX8_write_23
  · subst hw
    refine lv_if_ne (tgt := 10) hx hb dX8_write_4 (by decide) (fun c9 => by first | exact absurd c9 (by decide) | exact absurd (by decide) c9) (fun _ => ?_)
    refine lv_bipush (v := (-2)) hx hb dX8_write_7 (by decide) ?_
    exact W.iret (v := (-2)) hx hb hr (fun t ht hW => ⟨(-2), rfl, (by (try simp only [i_lt, i_le, i_eq, l_lt, l_le, l_wd, T0, T1, T2, T3, T4, T5, T6, T7, T8, T9, T60, Tm1, L0, L1, L2, L3, L6, Lm1, L20, L60, L2e9] at c_2); first | exact Or.inl ⟨rfl, by omega⟩ | exact Or.inr ⟨rfl, by omega⟩), ht⟩) (fun q h => absurd h List.not_mem_nil) dX8_write_9
set_option maxHeartbeats 4000000 in
set_option maxRecDepth 100000 in
theorem k_X8_paste (l : Launch) (dC : Nat → ClassId) (dI : Nat → Nat → Nat) (cB cI cJ cZ cL : ClassId) (a : Nat → Nat) (fz : Nat → Int32) (p0 : Int32) (p1 : Int32) (p2 : Int32) (p3 : Int32) (p4 : Int32) (hfz : ∀ j, j < 4 → fz j = -1): Met l yX8_paste (wy yX8_paste cX8_paste 6 (some .int)) ({ frames := 1, cells := 0, slots := 0, locals := 40 }) (va_Pc [.ref (a 0), .int p0, .int p1, .int p2, .int p3, .int p4] (fun U => va_P (dC, dI) vwCl [((a 0), .inr (8, [.ref (a 1), .ref (a 2), .ref (a 3), .ref (a 4), .ref (a 5), .ref (a 6), .ref (a 7), .ref (a 8), .ref (a 9), .ref (a 10), .ref (a 11), .ref (a 12), .ref (a 13), .ref (a 14), .int 0, .int (-1)])), ((a 7), .inr (3, [.ref (a 35), .ref (a 36), .ref (a 37)])), ((a 37), .inl (cI, 4, .inl fz))] U.heap ∧ va_K (dC, dI) vwCl (tyL cB cI cJ cZ cL) U)) (vp_Si (fun r => PPas (Int32.toInt p0) (Int32.toInt p2) r)) 0 0 (fun _ => False) := by
  refine Met.ofW (cc := cX8_paste) (maxL := 6) (ret := (some .int)) (by decide) rfl ?_
  intro p e s m args below meth c s₁ B hml hv
  obtain ⟨rfl, hP, hK⟩ := hv
  have hx := B.exec
  have hb := B.bytes
  have hr := B.returns
  have ht : ∀ w ∈ lw_ok, w.before _ s = true := fun w h => atoms_spec (ws := wy yX8_paste cX8_paste 6 (some .int)) B.pre w (List.mem_cons_of_mem _ h)
  have hown : s.vm.findClass RX8 = some m.cls := findClass_of_methodNamed B.named
  have hlocks := B.notSynchronized
  have hl := lv_entry ([.ref (a 0), .int p0, .int p1, .int p2, .int p3, .int p4]) (n := 6) (Nat.le_of_ble_eq_true rfl)
  rw [lg_entry_eq]
  generalize (lg_sl ([.ref (a 0), .int p0, .int p1, .int p2, .int p3, .int p4]) ++ List.replicate (6 - (lg_sl ([.ref (a 0), .int p0, .int p1, .int p2, .int p3, .int p4])).length) Slot.unset).toArray = ls at hl ⊢
  have hl : lv_has ls 6 [(0, .ref (a 0)), (1, .int p0), (2, .int p1), (3, .int p2), (4, .int p3), (5, .int p4)] := hl
  have hP : va_P (dC, dI) vwCl [((a 0), .inr (8, [.ref (a 1), .ref (a 2), .ref (a 3), .ref (a 4), .ref (a 5), .ref (a 6), .ref (a 7), .ref (a 8), .ref (a 9), .ref (a 10), .ref (a 11), .ref (a 12), .ref (a 13), .ref (a 14), .int 0, .int (-1)])), ((a 7), .inr (3, [.ref (a 35), .ref (a 36), .ref (a 37)])), ((a 37), .inl (cI, 4, .inl fz))] s.heap := hP
  refine lv_iload_n hx hb dX8_paste_0 rfl (lv_at hl 1 rfl) ?_
  have hPc := hP.sub (ws' := []) [] rfl
  refine vp_callSi (W.runS (As := [.int p0]) (rest := []) ⟨hx, hb, hml, hown, ht⟩ (k_X8_isSlot l dC dI cB cI cJ cZ cL p0) (va_cwS 1 ht (gQ w_1030 w_1031 w_105 w_1032) rfl rfl rfl (by decide +kernel) ⟨Nat.le_of_ble_eq_true rfl, Nat.le_of_ble_eq_true rfl⟩) (pSS hK hPc) rfl rfl hl.1 rfl (lv_room (Nat.le_of_ble_eq_true rfl)) dX8_paste_1 ⟨Nat.le_of_ble_eq_true rfl, Nat.le_of_ble_eq_true rfl⟩) (fun r_1 hw => ?_)
  rcases hw with ⟨hw, c_2⟩ | ⟨hw, c_2⟩
  · subst hw
    refine lv_if_eq (tgt := 14) hx hb dX8_paste_4 (by decide) (fun c9 => by first | exact absurd c9 (by decide) | exact absurd (by decide) c9) (fun _ => ?_)
    refine lv_iload_n hx hb dX8_paste_7 rfl (lv_at hl 3 rfl) ?_
    have hPc := hP.sub (ws' := []) [] rfl
    refine vp_callSi (W.runS (As := [.int p2]) (rest := []) ⟨hx, hb, hml, hown, ht⟩ (k_X8_isSlot l dC dI cB cI cJ cZ cL p2) (va_cwS 1 ht (gQ w_1030 w_1031 w_105 w_1032) rfl rfl rfl (by decide +kernel) ⟨Nat.le_of_ble_eq_true rfl, Nat.le_of_ble_eq_true rfl⟩) (pSS hK hPc) rfl rfl hl.1 rfl (lv_room (Nat.le_of_ble_eq_true rfl)) dX8_paste_8 ⟨Nat.le_of_ble_eq_true rfl, Nat.le_of_ble_eq_true rfl⟩) (fun r_3 hw => ?_)
    rcases hw with ⟨hw, c_4⟩ | ⟨hw, c_4⟩
    · subst hw
      refine lv_if_ne (tgt := 17) hx hb dX8_paste_11 (by decide) (fun _ => ?_) (fun c9 => by first | exact absurd (by decide) c9 | exact absurd c9 (by decide))
      refine lv_aload_n hx hb dX8_paste_17 rfl (lv_at hl 0 rfl) ?_
      refine va_get (D := (dC, dI)) (ci := 8) (v := .ref (a 7)) (C := RX8) (T := TX8) (N := 16) hx hb ht iX8 hown hK hP 0 rfl rfl 6 (by decide) (ht _ w_381) (fun _ h9 => h9) rfl dX8_paste_18 ?_
      refine lv_iload_n hx hb dX8_paste_21 rfl (lv_at hl 1 rfl) ?_
      have hPc := hP.sub (ws' := [((a 7), .inr (3, [.ref (a 35), .ref (a 36), .ref (a 37)])), ((a 37), .inl (cI, 4, .inl fz))]) [1, 2] rfl
      refine vp_callSi (W.runV (As := [.int p0]) (rest := []) ⟨hx, hb, hml, hown, ht⟩ (k_X3_has l dC dI cB cI cJ cZ cL a fz p0 hfz (by (try simp only [i_lt, i_le, i_eq, l_lt, l_le, l_wd, T0, T1, T2, T3, T4, T5, T6, T7, T8, T9, T60, Tm1, L0, L1, L2, L3, L6, Lm1, L20, L60, L2e9] at c_2 c_4); omega)) (cwV 1 ht (gV w_1033 w_1034 w_1035 w_110 w_1036) rfl rfl rfl (by decide +kernel) ⟨Nat.le_of_ble_eq_true rfl, Nat.le_of_ble_eq_true rfl⟩) (pVS hK hPc (ci := 3) (q0 := 0) rfl rfl) rfl rfl hl.1 rfl (lv_room (Nat.le_of_ble_eq_true rfl)) dX8_paste_22 ⟨Nat.le_of_ble_eq_true rfl, Nat.le_of_ble_eq_true rfl⟩) (fun r_5 hw => ?_)
      subst hw
      refine lv_if_eq (tgt := 39) hx hb dX8_paste_25 (by decide) (fun _ => ?_) (fun c9 => by first | exact absurd (by decide) c9 | exact absurd c9 (by decide))
      refine lv_bipush (v := (-6)) hx hb dX8_paste_39 (by decide) ?_
      exact W.iret (v := (-6)) hx hb hr (fun t ht hW => ⟨(-6), rfl, (by (try simp only [i_lt, i_le, i_eq, l_lt, l_le, l_wd, T0, T1, T2, T3, T4, T5, T6, T7, T8, T9, T60, Tm1, L0, L1, L2, L3, L6, Lm1, L20, L60, L2e9] at c_2 c_4); first | exact Or.inl ⟨rfl, by omega⟩ | exact Or.inr ⟨rfl, by omega⟩), ht⟩) (fun q h => absurd h List.not_mem_nil) dX8_paste_41
    · subst hw
      refine lv_if_ne (tgt := 17) hx hb dX8_paste_11 (by decide) (fun c9 => by first | exact absurd c9 (by decide) | exact absurd (by decide) c9) (fun _ => ?_)
      refine lv_bipush (v := (-2)) hx hb dX8_paste_14 (by decide) ?_
      exact W.iret (v := (-2)) hx hb hr (fun t ht hW => ⟨(-2), rfl, (by (try simp only [i_lt, i_le, i_eq, l_lt, l_le, l_wd, T0, T1, T2, T3, T4, T5, T6, T7, T8, T9, T60, Tm1, L0, L1, L2, L3, L6, Lm1, L20, L60, L2e9] at c_2 c_4); first | exact Or.inl ⟨rfl, by omega⟩ | exact Or.inr ⟨rfl, by omega⟩), ht⟩) (fun q h => absurd h List.not_mem_nil) dX8_paste_16
  · subst hw
    refine lv_if_eq (tgt := 14) hx hb dX8_paste_4 (by decide) (fun _ => ?_) (fun c9 => by first | exact absurd (by decide) c9 | exact absurd c9 (by decide))
    refine lv_bipush (v := (-2)) hx hb dX8_paste_14 (by decide) ?_
    exact W.iret (v := (-2)) hx hb hr (fun t ht hW => ⟨(-2), rfl, (by (try simp only [i_lt, i_le, i_eq, l_lt, l_le, l_wd, T0, T1, T2, T3, T4, T5, T6, T7, T8, T9, T60, Tm1, L0, L1, L2, L3, L6, Lm1, L20, L60, L2e9] at c_2); first | exact Or.inl ⟨rfl, by omega⟩ | exact Or.inr ⟨rfl, by omega⟩), ht⟩) (fun q h => absurd h List.not_mem_nil) dX8_paste_16
set_option maxHeartbeats 4000000 in
set_option maxRecDepth 100000 in
theorem k_X8_end (l : Launch) (dC : Nat → ClassId) (dI : Nat → Nat → Nat) (cB cI cJ cZ cL : ClassId) (sz : Nat) (a : Nat → Nat) (p0 : Int32) : Met l yX8_end (wy yX8_end cX8_end 2 (some .int)) ({ frames := 0, cells := 0, slots := 0, locals := 0 }) (va_Pc [.ref (a 0), .int p0] (fun U => U.heap.size = sz ∧ va_P (dC, dI) vwCl [((a 0), .inr (8, [.ref (a 1), .ref (a 2), .ref (a 3), .ref (a 4), .ref (a 5), .ref (a 6), .ref (a 7), .ref (a 8), .ref (a 9), .ref (a 10), .ref (a 11), .ref (a 12), .ref (a 13), .ref (a 14), .int 0, .int (-1)])), ((a 1), .inr (5, [.ref (a 15), .int 0]))] U.heap ∧ va_K (dC, dI) vwCl (tyL cB cI cJ cZ cL) U ∧ va_D (fun _ => True) [((a 0), .inr (8, [.ref (a 1), .ref (a 2), .ref (a 3), .ref (a 4), .ref (a 5), .ref (a 6), .ref (a 7), .ref (a 8), .ref (a 9), .ref (a 10), .ref (a 11), .ref (a 12), .ref (a 13), .ref (a 14), .int 0, .int (-1)])), ((a 1), .inr (5, [.ref (a 15), .int 0]))])) (va_Qi (fun r _ => PEnd (Int32.toInt p0) r) (fun (_ : Unit) _ => True) (va_A [((a 0), .inr (8, [.ref (a 1), .ref (a 2), .ref (a 3), .ref (a 4), .ref (a 5), .ref (a 6), .ref (a 7), .ref (a 8), .ref (a 9), .ref (a 10), .ref (a 11), .ref (a 12), .ref (a 13), .ref (a 14), .int 0, .int (-1)])), ((a 1), .inr (5, [.ref (a 15), .int 0]))] sz)) 0 0 (va_A [((a 0), .inr (8, [.ref (a 1), .ref (a 2), .ref (a 3), .ref (a 4), .ref (a 5), .ref (a 6), .ref (a 7), .ref (a 8), .ref (a 9), .ref (a 10), .ref (a 11), .ref (a 12), .ref (a 13), .ref (a 14), .int 0, .int (-1)])), ((a 1), .inr (5, [.ref (a 15), .int 0]))] sz) := by
  refine Met.ofW (cc := cX8_end) (maxL := 2) (ret := (some .int)) (by decide) rfl ?_
  intro p e s m args below meth c s₁ B hml hv
  obtain ⟨rfl, hsz, hP, hK, hD0⟩ := hv
  have hx := B.exec
  have hb := B.bytes
  have hr := B.returns
  have ht : ∀ w ∈ lw_ok, w.before _ s = true := fun w h => atoms_spec (ws := wy yX8_end cX8_end 2 (some .int)) B.pre w (List.mem_cons_of_mem _ h)
  have hown : s.vm.findClass RX8 = some m.cls := findClass_of_methodNamed B.named
  have hlocks := B.notSynchronized
  subst hsz
  have hD := hD0.self (sz := s.heap.size)
  generalize hAe : va_A [((a 0), .inr (8, [.ref (a 1), .ref (a 2), .ref (a 3), .ref (a 4), .ref (a 5), .ref (a 6), .ref (a 7), .ref (a 8), .ref (a 9), .ref (a 10), .ref (a 11), .ref (a 12), .ref (a 13), .ref (a 14), .int 0, .int (-1)])), ((a 1), .inr (5, [.ref (a 15), .int 0]))] s.heap.size = A at hD ⊢
  have hA : ∀ q : Nat, s.heap.size ≤ q → A q := fun q h => by rw [← hAe]; exact Or.inr h
  have hS : va_S A s.heap s.heap [] := va_S.rf
  have hl := lv_entry ([.ref (a 0), .int p0]) (n := 2) (Nat.le_of_ble_eq_true rfl)
  rw [lg_entry_eq]
  generalize (lg_sl ([.ref (a 0), .int p0]) ++ List.replicate (2 - (lg_sl ([.ref (a 0), .int p0])).length) Slot.unset).toArray = ls at hl ⊢
  have hl : lv_has ls 2 [(0, .ref (a 0)), (1, .int p0)] := hl
  have hP : va_P (dC, dI) vwCl [((a 0), .inr (8, [.ref (a 1), .ref (a 2), .ref (a 3), .ref (a 4), .ref (a 5), .ref (a 6), .ref (a 7), .ref (a 8), .ref (a 9), .ref (a 10), .ref (a 11), .ref (a 12), .ref (a 13), .ref (a 14), .int 0, .int (-1)])), ((a 1), .inr (5, [.ref (a 15), .int 0]))] s.heap := hP
  have hD : va_D A [((a 0), .inr (8, [.ref (a 1), .ref (a 2), .ref (a 3), .ref (a 4), .ref (a 5), .ref (a 6), .ref (a 7), .ref (a 8), .ref (a 9), .ref (a 10), .ref (a 11), .ref (a 12), .ref (a 13), .ref (a 14), .int 0, .int (-1)])), ((a 1), .inr (5, [.ref (a 15), .int 0]))] := hD
  refine lv_iload_n hx hb dX8_end_0 rfl (lv_at hl 1 rfl) ?_
  refine lv_if_lt (tgt := 15) hx hb dX8_end_1 (by decide) (fun c_1 => ?_) (fun c_1 => ?_)
  · refine lv_iconst (v := (-1)) hx hb dX8_end_15 (by decide) ?_
    refine W.widen (k := 0) (n := 0) (Nat.le_of_ble_eq_true rfl) (Nat.le_of_ble_eq_true rfl) ?_
    exact W.iret (v := (-1)) hx hb hr (fun t ht hW => ⟨⟨(-1), (), rfl, (by (try simp only [i_lt, i_le, i_eq, l_lt, l_le, l_wd, T0, T1, T2, T3, T4, T5, T6, T7, T8, T9, T60, Tm1, L0, L1, L2, L3, L6, Lm1, L20, L60, L2e9] at c_1); first | exact Or.inl ⟨rfl, by omega⟩ | exact Or.inr ⟨rfl, by omega⟩ | exact Or.inl ⟨by rw [i_eq, T0]; omega, by omega⟩), trivial⟩, hS.F ht⟩) hS.2.2 dX8_end_16
  · refine lv_iload_n hx hb dX8_end_4 rfl (lv_at hl 1 rfl) ?_
    refine lv_aload_n hx hb dX8_end_5 rfl (lv_at hl 0 rfl) ?_
    refine va_get (D := (dC, dI)) (ci := 8) (v := .ref (a 1)) (C := RX8) (T := TX8) (N := 16) hx hb ht iX8 hown hK hP 0 rfl rfl 0 (by decide) (ht _ w_375) (fun _ h9 => h9) rfl dX8_end_6 ?_
    refine va_get (D := (dC, dI)) (ci := 5) (v := .int 0) (C := RX5) (T := TX5) (N := 2) hx hb ht iX5 hown hK hP 1 rfl rfl 1 (by decide) (ht _ w_139) (fun _ h9 => h9) rfl dX8_end_9 ?_
    refine lv_icmp_le (tgt := 17) hx hb dX8_end_12 (by decide) (fun c_2 => ?_) (fun c_2 => ?_)
    · refine lv_aload_n hx hb dX8_end_17 rfl (lv_at hl 0 rfl) ?_
      refine va_get (D := (dC, dI)) (ci := 8) (v := .ref (a 1)) (C := RX8) (T := TX8) (N := 16) hx hb ht iX8 hown hK hP 0 rfl rfl 0 (by decide) (ht _ w_375) (fun _ h9 => h9) rfl dX8_end_18 ?_
      refine lv_iload_n hx hb dX8_end_21 rfl (lv_at hl 1 rfl) ?_
      refine va_put (D := (dC, dI)) (ci := 5) (v := .int p0) (ty := .int) (C := RX5) (T := TX5) (N := 2) hx hb ht iX5 tyX5 tyX5_ok nmX5 hown hK hP hD hS 1 rfl rfl 1 (by decide) (ht _ w_139) (fun _ h9 => h9) rfl (by decide +kernel) rfl rfl (Nat.le_of_ble_eq_true rfl) dX8_end_22 (fun H locs hP hD hS => ?_)
      have hP : va_P (dC, dI) vwCl [((a 0), .inr (8, [.ref (a 1), .ref (a 2), .ref (a 3), .ref (a 4), .ref (a 5), .ref (a 6), .ref (a 7), .ref (a 8), .ref (a 9), .ref (a 10), .ref (a 11), .ref (a 12), .ref (a 13), .ref (a 14), .int 0, .int (-1)])), ((a 1), .inr (5, [.ref (a 15), .int p0]))] H := hP
      have hD : va_D A [((a 0), .inr (8, [.ref (a 1), .ref (a 2), .ref (a 3), .ref (a 4), .ref (a 5), .ref (a 6), .ref (a 7), .ref (a 8), .ref (a 9), .ref (a 10), .ref (a 11), .ref (a 12), .ref (a 13), .ref (a 14), .int 0, .int (-1)])), ((a 1), .inr (5, [.ref (a 15), .int p0]))] := hD
      refine lv_iload_n hx hb dX8_end_25 rfl (lv_at hl 1 rfl) ?_
      refine W.widen (k := 0) (n := 0) (Nat.le_of_ble_eq_true rfl) (Nat.le_of_ble_eq_true rfl) ?_
      exact W.iret (v := p0) hx hb hr (fun t ht hW => ⟨⟨p0, (), rfl, (by (try simp only [i_lt, i_le, i_eq, l_lt, l_le, l_wd, T0, T1, T2, T3, T4, T5, T6, T7, T8, T9, T60, Tm1, L0, L1, L2, L3, L6, Lm1, L20, L60, L2e9] at c_1 c_2); first | exact Or.inl ⟨rfl, by omega⟩ | exact Or.inr ⟨rfl, by omega⟩ | exact Or.inl ⟨by rw [i_eq, T0]; omega, by omega⟩), trivial⟩, hS.F ht⟩) hS.2.2 dX8_end_26
    · refine lv_iconst (v := (-1)) hx hb dX8_end_15 (by decide) ?_
      refine W.widen (k := 0) (n := 0) (Nat.le_of_ble_eq_true rfl) (Nat.le_of_ble_eq_true rfl) ?_
      exact W.iret (v := (-1)) hx hb hr (fun t ht hW => ⟨⟨(-1), (), rfl, (by (try simp only [i_lt, i_le, i_eq, l_lt, l_le, l_wd, T0, T1, T2, T3, T4, T5, T6, T7, T8, T9, T60, Tm1, L0, L1, L2, L3, L6, Lm1, L20, L60, L2e9] at c_1 c_2); first | exact Or.inl ⟨rfl, by omega⟩ | exact Or.inr ⟨rfl, by omega⟩ | exact Or.inl ⟨by rw [i_eq, T0]; omega, by omega⟩), trivial⟩, hS.F ht⟩) hS.2.2 dX8_end_16
set_option maxHeartbeats 4000000 in
set_option maxRecDepth 100000 in
theorem k_X5_append_0 (l : Launch) (dC : Nat → ClassId) (dI : Nat → Nat → Nat) (cB cI cJ cZ cL : ClassId) (sz : Nat) (tA : Nat) (bA : Nat) (f : Nat → Int32) (p0 : Int32) : Met l yX5_append (wy yX5_append cX5_append 3 none) ({ frames := 0, cells := 0, slots := 0, locals := 0 }) (va_Pc [.ref tA, .int p0] (fun U => U.heap.size = sz ∧ va_P (dC, dI) vwCl [(tA, .inr (5, [.ref bA, .int 0])), (bA, .inl (cB, 500, .inl f))] U.heap ∧ va_K (dC, dI) vwCl (tyL cB cI cJ cZ cL) U ∧ va_D (fun _ => True) [(tA, .inr (5, [.ref bA, .int 0])), (bA, .inl (cB, 500, .inl f))])) (va_Qv (fun _ => True) (fun (u : Nat → Int32) t => va_P (dC, dI) vwCl [(tA, .inr (5, [.ref bA, .int 4])), (bA, .inl (cB, 500, .inl u))] t.heap ∧ va_D (va_A [(tA, .inr (5, [.ref bA, .int 0])), (bA, .inl (cB, 500, .inl f))] sz) [(tA, .inr (5, [.ref bA, .int 4])), (bA, .inl (cB, 500, .inl u))]) (va_A [(tA, .inr (5, [.ref bA, .int 0])), (bA, .inl (cB, 500, .inl f))] sz)) 0 0 (va_A [(tA, .inr (5, [.ref bA, .int 0])), (bA, .inl (cB, 500, .inl f))] sz) := by
  refine Met.ofW (cc := cX5_append) (maxL := 3) (ret := none) (by decide) rfl ?_
  intro p e s m args below meth c s₁ B hml hv
  obtain ⟨rfl, hsz, hP, hK, hD0⟩ := hv
  have hx := B.exec
  have hb := B.bytes
  have hr := B.returns
  have ht : ∀ w ∈ lw_ok, w.before _ s = true := fun w h => atoms_spec (ws := wy yX5_append cX5_append 3 none) B.pre w (List.mem_cons_of_mem _ h)
  have hown : s.vm.findClass RX5 = some m.cls := findClass_of_methodNamed B.named
  have hlocks := B.notSynchronized
  subst hsz
  have hD := hD0.self (sz := s.heap.size)
  generalize hAe : va_A [(tA, .inr (5, [.ref bA, .int 0])), (bA, .inl (cB, 500, .inl f))] s.heap.size = A at hD ⊢
  have hA : ∀ q : Nat, s.heap.size ≤ q → A q := fun q h => by rw [← hAe]; exact Or.inr h
  have hS : va_S A s.heap s.heap [] := va_S.rf
  have hl := lv_entry ([.ref tA, .int p0]) (n := 3) (Nat.le_of_ble_eq_true rfl)
  rw [lg_entry_eq]
  generalize (lg_sl ([.ref tA, .int p0]) ++ List.replicate (3 - (lg_sl ([.ref tA, .int p0])).length) Slot.unset).toArray = ls at hl ⊢
  have hl : lv_has ls 3 [(0, .ref tA), (1, .int p0)] := hl
  have hP : va_P (dC, dI) vwCl [(tA, .inr (5, [.ref bA, .int 0])), (bA, .inl (cB, 500, .inl f))] s.heap := hP
  have hD : va_D A [(tA, .inr (5, [.ref bA, .int 0])), (bA, .inl (cB, 500, .inl f))] := hD
  refine lv_bipush (v := 24) hx hb dX5_append_0 (by decide) ?_
  refine lv_istore_n (lv' := [(2, .int 24), (0, .ref tA), (1, .int p0)]) hx hb dX5_append_2 rfl hl (by decide) rfl (fun ls hl => ?_)
  refine lv_iload_n hx hb dX5_append_3 rfl (lv_at hl 0 rfl) ?_
  refine lv_if_lt (tgt := 46) hx hb dX5_append_4 (by decide) (fun c9 => by first | exact absurd c9 (by decide) | exact absurd (by decide) c9) (fun _ => ?_)
  refine lv_aload_n hx hb dX5_append_7 rfl (lv_at hl 1 rfl) ?_
  refine va_get (D := (dC, dI)) (ci := 5) (v := .int 0) (C := RX5) (T := TX5) (N := 2) hx hb ht iX5 hown hK hP 0 rfl rfl 1 (by decide) (ht _ w_138) (fun _ h9 => h9) rfl dX5_append_8 ?_
  refine lv_sipush (v := 500) hx hb dX5_append_11 (by decide) ?_
  refine lv_icmp_ge (tgt := 46) hx hb dX5_append_14 (by decide) (fun c9 => by first | exact absurd c9 (by decide) | exact absurd (by decide) c9) (fun _ => ?_)
  refine lv_aload_n hx hb dX5_append_17 rfl (lv_at hl 1 rfl) ?_
  refine va_get (D := (dC, dI)) (ci := 5) (v := .ref bA) (C := RX5) (T := TX5) (N := 2) hx hb ht iX5 hown hK hP 0 rfl rfl 0 (by decide) (ht _ w_137) (fun _ h9 => h9) rfl dX5_append_18 ?_
  refine lv_aload_n hx hb dX5_append_21 rfl (lv_at hl 1 rfl) ?_
  refine va_get (D := (dC, dI)) (ci := 5) (v := .int 0) (C := RX5) (T := TX5) (N := 2) hx hb ht iX5 hown hK hP 0 rfl rfl 1 (by decide) (ht _ w_138) (fun _ h9 => h9) rfl dX5_append_22 ?_
  refine lv_iload_n hx hb dX5_append_25 rfl (lv_at hl 2 rfl) ?_
  refine lv_iload_n hx hb dX5_append_26 rfl (lv_at hl 0 rfl) ?_
  refine lv_ishr hx hb dX5_append_27 ?_
  refine lv_i2b (v := (Int8.toInt32 (Int32.toInt8 (p0 >>> (24 &&& 31))))) hx hb dX5_append_28 rfl ?_
  refine va_bast hx hb hK hP hD hS 1 0 rfl rfl (by unfold vp_in; decide) dX5_append_29 (fun H locs hP hD hS => ?_)
  obtain ⟨f_1, ef_1⟩ : ∃ z : Nat → Int32, z = upd f (Int32.toNatClampNeg 0) (vp_nar .byte (Int8.toInt32 (Int32.toInt8 (p0 >>> (24 &&& 31))))) := ⟨_, rfl⟩
  rw [← ef_1] at hP hD
  have hP : va_P (dC, dI) vwCl [(tA, .inr (5, [.ref bA, .int 0])), (bA, .inl (cB, 500, .inl f_1))] H := hP
  have hD : va_D A [(tA, .inr (5, [.ref bA, .int 0])), (bA, .inl (cB, 500, .inl f_1))] := hD
  refine lv_aload_n hx hb dX5_append_30 rfl (lv_at hl 1 rfl) ?_
  refine lv_dup hx hb dX5_append_31 rfl ?_
  refine va_get (D := (dC, dI)) (ci := 5) (v := .int 0) (C := RX5) (T := TX5) (N := 2) hx hb ht iX5 hown hK hP 0 rfl rfl 1 (by decide) (ht _ w_138) (fun _ h9 => h9) rfl dX5_append_32 ?_
  refine lv_iconst (v := 1) hx hb dX5_append_35 (by decide) ?_
  refine lv_iadd hx hb dX5_append_36 ?_
  refine lv_topi (fun y_2 ey_2 => ?_)
  obtain rfl : y_2 = 1 := ey_2.trans (by decide)
  refine va_put (D := (dC, dI)) (ci := 5) (v := .int 1) (ty := .int) (C := RX5) (T := TX5) (N := 2) hx hb ht iX5 tyX5 tyX5_ok nmX5 hown hK hP hD hS 0 rfl rfl 1 (by decide) (ht _ w_138) (fun _ h9 => h9) rfl (by decide +kernel) rfl rfl (Nat.le_of_ble_eq_true rfl) dX5_append_37 (fun H locs hP hD hS => ?_)
  have hP : va_P (dC, dI) vwCl [(tA, .inr (5, [.ref bA, .int 1])), (bA, .inl (cB, 500, .inl f_1))] H := hP
  have hD : va_D A [(tA, .inr (5, [.ref bA, .int 1])), (bA, .inl (cB, 500, .inl f_1))] := hD
  refine lv_iinc (v := 16) (lv' := [(2, .int 16), (0, .ref tA), (1, .int p0)]) hx hb dX5_append_40 hl (k := 0) rfl (by decide) (by decide) rfl (fun ls hl => ?_)
  refine lv_goto (tgt := 3) hx hb dX5_append_43 (by decide) ?_
  refine lv_iload_n hx hb dX5_append_3 rfl (lv_at hl 0 rfl) ?_
  refine lv_if_lt (tgt := 46) hx hb dX5_append_4 (by decide) (fun c9 => by first | exact absurd c9 (by decide) | exact absurd (by decide) c9) (fun _ => ?_)
  refine lv_aload_n hx hb dX5_append_7 rfl (lv_at hl 1 rfl) ?_
  refine va_get (D := (dC, dI)) (ci := 5) (v := .int 1) (C := RX5) (T := TX5) (N := 2) hx hb ht iX5 hown hK hP 0 rfl rfl 1 (by decide) (ht _ w_138) (fun _ h9 => h9) rfl dX5_append_8 ?_
  refine lv_sipush (v := 500) hx hb dX5_append_11 (by decide) ?_
  refine lv_icmp_ge (tgt := 46) hx hb dX5_append_14 (by decide) (fun c9 => by first | exact absurd c9 (by decide) | exact absurd (by decide) c9) (fun _ => ?_)
  refine lv_aload_n hx hb dX5_append_17 rfl (lv_at hl 1 rfl) ?_
  refine va_get (D := (dC, dI)) (ci := 5) (v := .ref bA) (C := RX5) (T := TX5) (N := 2) hx hb ht iX5 hown hK hP 0 rfl rfl 0 (by decide) (ht _ w_137) (fun _ h9 => h9) rfl dX5_append_18 ?_
  refine lv_aload_n hx hb dX5_append_21 rfl (lv_at hl 1 rfl) ?_
  refine va_get (D := (dC, dI)) (ci := 5) (v := .int 1) (C := RX5) (T := TX5) (N := 2) hx hb ht iX5 hown hK hP 0 rfl rfl 1 (by decide) (ht _ w_138) (fun _ h9 => h9) rfl dX5_append_22 ?_
  refine lv_iload_n hx hb dX5_append_25 rfl (lv_at hl 2 rfl) ?_
  refine lv_iload_n hx hb dX5_append_26 rfl (lv_at hl 0 rfl) ?_
  refine lv_ishr hx hb dX5_append_27 ?_
  refine lv_i2b (v := (Int8.toInt32 (Int32.toInt8 (p0 >>> (16 &&& 31))))) hx hb dX5_append_28 rfl ?_
  refine va_bast hx hb hK hP hD hS 1 0 rfl rfl (by unfold vp_in; decide) dX5_append_29 (fun H locs hP hD hS => ?_)
  obtain ⟨f_3, ef_3⟩ : ∃ z : Nat → Int32, z = upd f_1 (Int32.toNatClampNeg 1) (vp_nar .byte (Int8.toInt32 (Int32.toInt8 (p0 >>> (16 &&& 31))))) := ⟨_, rfl⟩
  rw [← ef_3] at hP hD
  have hP : va_P (dC, dI) vwCl [(tA, .inr (5, [.ref bA, .int 1])), (bA, .inl (cB, 500, .inl f_3))] H := hP
  have hD : va_D A [(tA, .inr (5, [.ref bA, .int 1])), (bA, .inl (cB, 500, .inl f_3))] := hD
  refine lv_aload_n hx hb dX5_append_30 rfl (lv_at hl 1 rfl) ?_
  refine lv_dup hx hb dX5_append_31 rfl ?_
  refine va_get (D := (dC, dI)) (ci := 5) (v := .int 1) (C := RX5) (T := TX5) (N := 2) hx hb ht iX5 hown hK hP 0 rfl rfl 1 (by decide) (ht _ w_138) (fun _ h9 => h9) rfl dX5_append_32 ?_
  refine lv_iconst (v := 1) hx hb dX5_append_35 (by decide) ?_
  refine lv_iadd hx hb dX5_append_36 ?_
  refine lv_topi (fun y_4 ey_4 => ?_)
  obtain rfl : y_4 = 2 := ey_4.trans (by decide)
  refine va_put (D := (dC, dI)) (ci := 5) (v := .int 2) (ty := .int) (C := RX5) (T := TX5) (N := 2) hx hb ht iX5 tyX5 tyX5_ok nmX5 hown hK hP hD hS 0 rfl rfl 1 (by decide) (ht _ w_138) (fun _ h9 => h9) rfl (by decide +kernel) rfl rfl (Nat.le_of_ble_eq_true rfl) dX5_append_37 (fun H locs hP hD hS => ?_)
  have hP : va_P (dC, dI) vwCl [(tA, .inr (5, [.ref bA, .int 2])), (bA, .inl (cB, 500, .inl f_3))] H := hP
  have hD : va_D A [(tA, .inr (5, [.ref bA, .int 2])), (bA, .inl (cB, 500, .inl f_3))] := hD
  refine lv_iinc (v := 8) (lv' := [(2, .int 8), (0, .ref tA), (1, .int p0)]) hx hb dX5_append_40 hl (k := 0) rfl (by decide) (by decide) rfl (fun ls hl => ?_)
  refine lv_goto (tgt := 3) hx hb dX5_append_43 (by decide) ?_
  refine lv_iload_n hx hb dX5_append_3 rfl (lv_at hl 0 rfl) ?_
  refine lv_if_lt (tgt := 46) hx hb dX5_append_4 (by decide) (fun c9 => by first | exact absurd c9 (by decide) | exact absurd (by decide) c9) (fun _ => ?_)
  refine lv_aload_n hx hb dX5_append_7 rfl (lv_at hl 1 rfl) ?_
  refine va_get (D := (dC, dI)) (ci := 5) (v := .int 2) (C := RX5) (T := TX5) (N := 2) hx hb ht iX5 hown hK hP 0 rfl rfl 1 (by decide) (ht _ w_138) (fun _ h9 => h9) rfl dX5_append_8 ?_
  refine lv_sipush (v := 500) hx hb dX5_append_11 (by decide) ?_
  refine lv_icmp_ge (tgt := 46) hx hb dX5_append_14 (by decide) (fun c9 => by first | exact absurd c9 (by decide) | exact absurd (by decide) c9) (fun _ => ?_)
  refine lv_aload_n hx hb dX5_append_17 rfl (lv_at hl 1 rfl) ?_
  refine va_get (D := (dC, dI)) (ci := 5) (v := .ref bA) (C := RX5) (T := TX5) (N := 2) hx hb ht iX5 hown hK hP 0 rfl rfl 0 (by decide) (ht _ w_137) (fun _ h9 => h9) rfl dX5_append_18 ?_
  refine lv_aload_n hx hb dX5_append_21 rfl (lv_at hl 1 rfl) ?_
  refine va_get (D := (dC, dI)) (ci := 5) (v := .int 2) (C := RX5) (T := TX5) (N := 2) hx hb ht iX5 hown hK hP 0 rfl rfl 1 (by decide) (ht _ w_138) (fun _ h9 => h9) rfl dX5_append_22 ?_
  refine lv_iload_n hx hb dX5_append_25 rfl (lv_at hl 2 rfl) ?_
  refine lv_iload_n hx hb dX5_append_26 rfl (lv_at hl 0 rfl) ?_
  refine lv_ishr hx hb dX5_append_27 ?_
  refine lv_i2b (v := (Int8.toInt32 (Int32.toInt8 (p0 >>> (8 &&& 31))))) hx hb dX5_append_28 rfl ?_
  refine va_bast hx hb hK hP hD hS 1 0 rfl rfl (by unfold vp_in; decide) dX5_append_29 (fun H locs hP hD hS => ?_)
  obtain ⟨f_5, ef_5⟩ : ∃ z : Nat → Int32, z = upd f_3 (Int32.toNatClampNeg 2) (vp_nar .byte (Int8.toInt32 (Int32.toInt8 (p0 >>> (8 &&& 31))))) := ⟨_, rfl⟩
  rw [← ef_5] at hP hD
  have hP : va_P (dC, dI) vwCl [(tA, .inr (5, [.ref bA, .int 2])), (bA, .inl (cB, 500, .inl f_5))] H := hP
  have hD : va_D A [(tA, .inr (5, [.ref bA, .int 2])), (bA, .inl (cB, 500, .inl f_5))] := hD
  refine lv_aload_n hx hb dX5_append_30 rfl (lv_at hl 1 rfl) ?_
  refine lv_dup hx hb dX5_append_31 rfl ?_
  refine va_get (D := (dC, dI)) (ci := 5) (v := .int 2) (C := RX5) (T := TX5) (N := 2) hx hb ht iX5 hown hK hP 0 rfl rfl 1 (by decide) (ht _ w_138) (fun _ h9 => h9) rfl dX5_append_32 ?_
  refine lv_iconst (v := 1) hx hb dX5_append_35 (by decide) ?_
  refine lv_iadd hx hb dX5_append_36 ?_
  refine lv_topi (fun y_6 ey_6 => ?_)
  obtain rfl : y_6 = 3 := ey_6.trans (by decide)
  refine va_put (D := (dC, dI)) (ci := 5) (v := .int 3) (ty := .int) (C := RX5) (T := TX5) (N := 2) hx hb ht iX5 tyX5 tyX5_ok nmX5 hown hK hP hD hS 0 rfl rfl 1 (by decide) (ht _ w_138) (fun _ h9 => h9) rfl (by decide +kernel) rfl rfl (Nat.le_of_ble_eq_true rfl) dX5_append_37 (fun H locs hP hD hS => ?_)
  have hP : va_P (dC, dI) vwCl [(tA, .inr (5, [.ref bA, .int 3])), (bA, .inl (cB, 500, .inl f_5))] H := hP
  have hD : va_D A [(tA, .inr (5, [.ref bA, .int 3])), (bA, .inl (cB, 500, .inl f_5))] := hD
  refine lv_iinc (v := 0) (lv' := [(2, .int 0), (0, .ref tA), (1, .int p0)]) hx hb dX5_append_40 hl (k := 0) rfl (by decide) (by decide) rfl (fun ls hl => ?_)
  refine lv_goto (tgt := 3) hx hb dX5_append_43 (by decide) ?_
  refine lv_iload_n hx hb dX5_append_3 rfl (lv_at hl 0 rfl) ?_
  refine lv_if_lt (tgt := 46) hx hb dX5_append_4 (by decide) (fun c9 => by first | exact absurd c9 (by decide) | exact absurd (by decide) c9) (fun _ => ?_)
  refine lv_aload_n hx hb dX5_append_7 rfl (lv_at hl 1 rfl) ?_
  refine va_get (D := (dC, dI)) (ci := 5) (v := .int 3) (C := RX5) (T := TX5) (N := 2) hx hb ht iX5 hown hK hP 0 rfl rfl 1 (by decide) (ht _ w_138) (fun _ h9 => h9) rfl dX5_append_8 ?_
  refine lv_sipush (v := 500) hx hb dX5_append_11 (by decide) ?_
  refine lv_icmp_ge (tgt := 46) hx hb dX5_append_14 (by decide) (fun c9 => by first | exact absurd c9 (by decide) | exact absurd (by decide) c9) (fun _ => ?_)
  refine lv_aload_n hx hb dX5_append_17 rfl (lv_at hl 1 rfl) ?_
  refine va_get (D := (dC, dI)) (ci := 5) (v := .ref bA) (C := RX5) (T := TX5) (N := 2) hx hb ht iX5 hown hK hP 0 rfl rfl 0 (by decide) (ht _ w_137) (fun _ h9 => h9) rfl dX5_append_18 ?_
  refine lv_aload_n hx hb dX5_append_21 rfl (lv_at hl 1 rfl) ?_
  refine va_get (D := (dC, dI)) (ci := 5) (v := .int 3) (C := RX5) (T := TX5) (N := 2) hx hb ht iX5 hown hK hP 0 rfl rfl 1 (by decide) (ht _ w_138) (fun _ h9 => h9) rfl dX5_append_22 ?_
  refine lv_iload_n hx hb dX5_append_25 rfl (lv_at hl 2 rfl) ?_
  refine lv_iload_n hx hb dX5_append_26 rfl (lv_at hl 0 rfl) ?_
  refine lv_ishr hx hb dX5_append_27 ?_
  refine lv_i2b (v := (Int8.toInt32 (Int32.toInt8 (p0 >>> (0 &&& 31))))) hx hb dX5_append_28 rfl ?_
  refine va_bast hx hb hK hP hD hS 1 0 rfl rfl (by unfold vp_in; decide) dX5_append_29 (fun H locs hP hD hS => ?_)
  obtain ⟨f_7, ef_7⟩ : ∃ z : Nat → Int32, z = upd f_5 (Int32.toNatClampNeg 3) (vp_nar .byte (Int8.toInt32 (Int32.toInt8 (p0 >>> (0 &&& 31))))) := ⟨_, rfl⟩
  rw [← ef_7] at hP hD
  have hP : va_P (dC, dI) vwCl [(tA, .inr (5, [.ref bA, .int 3])), (bA, .inl (cB, 500, .inl f_7))] H := hP
  have hD : va_D A [(tA, .inr (5, [.ref bA, .int 3])), (bA, .inl (cB, 500, .inl f_7))] := hD
  refine lv_aload_n hx hb dX5_append_30 rfl (lv_at hl 1 rfl) ?_
  refine lv_dup hx hb dX5_append_31 rfl ?_
  refine va_get (D := (dC, dI)) (ci := 5) (v := .int 3) (C := RX5) (T := TX5) (N := 2) hx hb ht iX5 hown hK hP 0 rfl rfl 1 (by decide) (ht _ w_138) (fun _ h9 => h9) rfl dX5_append_32 ?_
  refine lv_iconst (v := 1) hx hb dX5_append_35 (by decide) ?_
  refine lv_iadd hx hb dX5_append_36 ?_
  refine lv_topi (fun y_8 ey_8 => ?_)
  obtain rfl : y_8 = 4 := ey_8.trans (by decide)
  refine va_put (D := (dC, dI)) (ci := 5) (v := .int 4) (ty := .int) (C := RX5) (T := TX5) (N := 2) hx hb ht iX5 tyX5 tyX5_ok nmX5 hown hK hP hD hS 0 rfl rfl 1 (by decide) (ht _ w_138) (fun _ h9 => h9) rfl (by decide +kernel) rfl rfl (Nat.le_of_ble_eq_true rfl) dX5_append_37 (fun H locs hP hD hS => ?_)
  have hP : va_P (dC, dI) vwCl [(tA, .inr (5, [.ref bA, .int 4])), (bA, .inl (cB, 500, .inl f_7))] H := hP
  have hD : va_D A [(tA, .inr (5, [.ref bA, .int 4])), (bA, .inl (cB, 500, .inl f_7))] := hD
  refine lv_iinc (v := (-8)) (lv' := [(2, .int (-8)), (0, .ref tA), (1, .int p0)]) hx hb dX5_append_40 hl (k := 0) rfl (by decide) (by decide) rfl (fun ls hl => ?_)
  refine lv_goto (tgt := 3) hx hb dX5_append_43 (by decide) ?_
  refine lv_iload_n hx hb dX5_append_3 rfl (lv_at hl 0 rfl) ?_
  refine lv_if_lt (tgt := 46) hx hb dX5_append_4 (by decide) (fun _ => ?_) (fun c9 => by first | exact absurd (by decide) c9 | exact absurd c9 (by decide))
  have hP9 := hP.sub (ws' := [(tA, .inr (5, [.ref bA, .int 4])), (bA, .inl (cB, 500, .inl f_7))]) [0, 1] rfl
  have hD9 := hD.sub (ws' := [(tA, .inr (5, [.ref bA, .int 4])), (bA, .inl (cB, 500, .inl f_7))]) [0, 1] (by decide) rfl
  refine W.widen (k := 0) (n := 0) (Nat.le_of_ble_eq_true rfl) (Nat.le_of_ble_eq_true rfl) ?_
  exact W.vret hx hb hr (fun t ht hW => ⟨⟨f_7, rfl, trivial, ⟨by rw [ht]; exact hP9, hD9⟩⟩, hS.F ht⟩) hS.2.2 dX5_append_46
set_option maxHeartbeats 4000000 in
set_option maxRecDepth 100000 in
theorem k_X5_append_4 (l : Launch) (dC : Nat → ClassId) (dI : Nat → Nat → Nat) (cB cI cJ cZ cL : ClassId) (sz : Nat) (tA : Nat) (bA : Nat) (f : Nat → Int32) (p0 : Int32) : Met l yX5_append (wy yX5_append cX5_append 3 none) ({ frames := 0, cells := 0, slots := 0, locals := 0 }) (va_Pc [.ref tA, .int p0] (fun U => U.heap.size = sz ∧ va_P (dC, dI) vwCl [(tA, .inr (5, [.ref bA, .int 4])), (bA, .inl (cB, 500, .inl f))] U.heap ∧ va_K (dC, dI) vwCl (tyL cB cI cJ cZ cL) U ∧ va_D (fun _ => True) [(tA, .inr (5, [.ref bA, .int 4])), (bA, .inl (cB, 500, .inl f))])) (va_Qv (fun _ => True) (fun (u : Nat → Int32) t => va_P (dC, dI) vwCl [(tA, .inr (5, [.ref bA, .int 8])), (bA, .inl (cB, 500, .inl u))] t.heap ∧ va_D (va_A [(tA, .inr (5, [.ref bA, .int 4])), (bA, .inl (cB, 500, .inl f))] sz) [(tA, .inr (5, [.ref bA, .int 8])), (bA, .inl (cB, 500, .inl u))]) (va_A [(tA, .inr (5, [.ref bA, .int 4])), (bA, .inl (cB, 500, .inl f))] sz)) 0 0 (va_A [(tA, .inr (5, [.ref bA, .int 4])), (bA, .inl (cB, 500, .inl f))] sz) := by
  refine Met.ofW (cc := cX5_append) (maxL := 3) (ret := none) (by decide) rfl ?_
  intro p e s m args below meth c s₁ B hml hv
  obtain ⟨rfl, hsz, hP, hK, hD0⟩ := hv
  have hx := B.exec
  have hb := B.bytes
  have hr := B.returns
  have ht : ∀ w ∈ lw_ok, w.before _ s = true := fun w h => atoms_spec (ws := wy yX5_append cX5_append 3 none) B.pre w (List.mem_cons_of_mem _ h)
  have hown : s.vm.findClass RX5 = some m.cls := findClass_of_methodNamed B.named
  have hlocks := B.notSynchronized
  subst hsz
  have hD := hD0.self (sz := s.heap.size)
  generalize hAe : va_A [(tA, .inr (5, [.ref bA, .int 4])), (bA, .inl (cB, 500, .inl f))] s.heap.size = A at hD ⊢
  have hA : ∀ q : Nat, s.heap.size ≤ q → A q := fun q h => by rw [← hAe]; exact Or.inr h
  have hS : va_S A s.heap s.heap [] := va_S.rf
  have hl := lv_entry ([.ref tA, .int p0]) (n := 3) (Nat.le_of_ble_eq_true rfl)
  rw [lg_entry_eq]
  generalize (lg_sl ([.ref tA, .int p0]) ++ List.replicate (3 - (lg_sl ([.ref tA, .int p0])).length) Slot.unset).toArray = ls at hl ⊢
  have hl : lv_has ls 3 [(0, .ref tA), (1, .int p0)] := hl
  have hP : va_P (dC, dI) vwCl [(tA, .inr (5, [.ref bA, .int 4])), (bA, .inl (cB, 500, .inl f))] s.heap := hP
  have hD : va_D A [(tA, .inr (5, [.ref bA, .int 4])), (bA, .inl (cB, 500, .inl f))] := hD
  refine lv_bipush (v := 24) hx hb dX5_append_0 (by decide) ?_
  refine lv_istore_n (lv' := [(2, .int 24), (0, .ref tA), (1, .int p0)]) hx hb dX5_append_2 rfl hl (by decide) rfl (fun ls hl => ?_)
  refine lv_iload_n hx hb dX5_append_3 rfl (lv_at hl 0 rfl) ?_
  refine lv_if_lt (tgt := 46) hx hb dX5_append_4 (by decide) (fun c9 => by first | exact absurd c9 (by decide) | exact absurd (by decide) c9) (fun _ => ?_)
  refine lv_aload_n hx hb dX5_append_7 rfl (lv_at hl 1 rfl) ?_
  refine va_get (D := (dC, dI)) (ci := 5) (v := .int 4) (C := RX5) (T := TX5) (N := 2) hx hb ht iX5 hown hK hP 0 rfl rfl 1 (by decide) (ht _ w_138) (fun _ h9 => h9) rfl dX5_append_8 ?_
  refine lv_sipush (v := 500) hx hb dX5_append_11 (by decide) ?_
  refine lv_icmp_ge (tgt := 46) hx hb dX5_append_14 (by decide) (fun c9 => by first | exact absurd c9 (by decide) | exact absurd (by decide) c9) (fun _ => ?_)
  refine lv_aload_n hx hb dX5_append_17 rfl (lv_at hl 1 rfl) ?_
  refine va_get (D := (dC, dI)) (ci := 5) (v := .ref bA) (C := RX5) (T := TX5) (N := 2) hx hb ht iX5 hown hK hP 0 rfl rfl 0 (by decide) (ht _ w_137) (fun _ h9 => h9) rfl dX5_append_18 ?_
  refine lv_aload_n hx hb dX5_append_21 rfl (lv_at hl 1 rfl) ?_
  refine va_get (D := (dC, dI)) (ci := 5) (v := .int 4) (C := RX5) (T := TX5) (N := 2) hx hb ht iX5 hown hK hP 0 rfl rfl 1 (by decide) (ht _ w_138) (fun _ h9 => h9) rfl dX5_append_22 ?_
  refine lv_iload_n hx hb dX5_append_25 rfl (lv_at hl 2 rfl) ?_
  refine lv_iload_n hx hb dX5_append_26 rfl (lv_at hl 0 rfl) ?_
  refine lv_ishr hx hb dX5_append_27 ?_
  refine lv_i2b (v := (Int8.toInt32 (Int32.toInt8 (p0 >>> (24 &&& 31))))) hx hb dX5_append_28 rfl ?_
  refine va_bast hx hb hK hP hD hS 1 0 rfl rfl (by unfold vp_in; decide) dX5_append_29 (fun H locs hP hD hS => ?_)
  obtain ⟨f_1, ef_1⟩ : ∃ z : Nat → Int32, z = upd f (Int32.toNatClampNeg 4) (vp_nar .byte (Int8.toInt32 (Int32.toInt8 (p0 >>> (24 &&& 31))))) := ⟨_, rfl⟩
  rw [← ef_1] at hP hD
  have hP : va_P (dC, dI) vwCl [(tA, .inr (5, [.ref bA, .int 4])), (bA, .inl (cB, 500, .inl f_1))] H := hP
  have hD : va_D A [(tA, .inr (5, [.ref bA, .int 4])), (bA, .inl (cB, 500, .inl f_1))] := hD
  refine lv_aload_n hx hb dX5_append_30 rfl (lv_at hl 1 rfl) ?_
  refine lv_dup hx hb dX5_append_31 rfl ?_
  refine va_get (D := (dC, dI)) (ci := 5) (v := .int 4) (C := RX5) (T := TX5) (N := 2) hx hb ht iX5 hown hK hP 0 rfl rfl 1 (by decide) (ht _ w_138) (fun _ h9 => h9) rfl dX5_append_32 ?_
  refine lv_iconst (v := 1) hx hb dX5_append_35 (by decide) ?_
  refine lv_iadd hx hb dX5_append_36 ?_
  refine lv_topi (fun y_2 ey_2 => ?_)
  obtain rfl : y_2 = 5 := ey_2.trans (by decide)
  refine va_put (D := (dC, dI)) (ci := 5) (v := .int 5) (ty := .int) (C := RX5) (T := TX5) (N := 2) hx hb ht iX5 tyX5 tyX5_ok nmX5 hown hK hP hD hS 0 rfl rfl 1 (by decide) (ht _ w_138) (fun _ h9 => h9) rfl (by decide +kernel) rfl rfl (Nat.le_of_ble_eq_true rfl) dX5_append_37 (fun H locs hP hD hS => ?_)
  have hP : va_P (dC, dI) vwCl [(tA, .inr (5, [.ref bA, .int 5])), (bA, .inl (cB, 500, .inl f_1))] H := hP
  have hD : va_D A [(tA, .inr (5, [.ref bA, .int 5])), (bA, .inl (cB, 500, .inl f_1))] := hD
  refine lv_iinc (v := 16) (lv' := [(2, .int 16), (0, .ref tA), (1, .int p0)]) hx hb dX5_append_40 hl (k := 0) rfl (by decide) (by decide) rfl (fun ls hl => ?_)
  refine lv_goto (tgt := 3) hx hb dX5_append_43 (by decide) ?_
  refine lv_iload_n hx hb dX5_append_3 rfl (lv_at hl 0 rfl) ?_
  refine lv_if_lt (tgt := 46) hx hb dX5_append_4 (by decide) (fun c9 => by first | exact absurd c9 (by decide) | exact absurd (by decide) c9) (fun _ => ?_)
  refine lv_aload_n hx hb dX5_append_7 rfl (lv_at hl 1 rfl) ?_
  refine va_get (D := (dC, dI)) (ci := 5) (v := .int 5) (C := RX5) (T := TX5) (N := 2) hx hb ht iX5 hown hK hP 0 rfl rfl 1 (by decide) (ht _ w_138) (fun _ h9 => h9) rfl dX5_append_8 ?_
  refine lv_sipush (v := 500) hx hb dX5_append_11 (by decide) ?_
  refine lv_icmp_ge (tgt := 46) hx hb dX5_append_14 (by decide) (fun c9 => by first | exact absurd c9 (by decide) | exact absurd (by decide) c9) (fun _ => ?_)
  refine lv_aload_n hx hb dX5_append_17 rfl (lv_at hl 1 rfl) ?_
  refine va_get (D := (dC, dI)) (ci := 5) (v := .ref bA) (C := RX5) (T := TX5) (N := 2) hx hb ht iX5 hown hK hP 0 rfl rfl 0 (by decide) (ht _ w_137) (fun _ h9 => h9) rfl dX5_append_18 ?_
  refine lv_aload_n hx hb dX5_append_21 rfl (lv_at hl 1 rfl) ?_
  refine va_get (D := (dC, dI)) (ci := 5) (v := .int 5) (C := RX5) (T := TX5) (N := 2) hx hb ht iX5 hown hK hP 0 rfl rfl 1 (by decide) (ht _ w_138) (fun _ h9 => h9) rfl dX5_append_22 ?_
  refine lv_iload_n hx hb dX5_append_25 rfl (lv_at hl 2 rfl) ?_
  refine lv_iload_n hx hb dX5_append_26 rfl (lv_at hl 0 rfl) ?_
  refine lv_ishr hx hb dX5_append_27 ?_
  refine lv_i2b (v := (Int8.toInt32 (Int32.toInt8 (p0 >>> (16 &&& 31))))) hx hb dX5_append_28 rfl ?_
  refine va_bast hx hb hK hP hD hS 1 0 rfl rfl (by unfold vp_in; decide) dX5_append_29 (fun H locs hP hD hS => ?_)
  obtain ⟨f_3, ef_3⟩ : ∃ z : Nat → Int32, z = upd f_1 (Int32.toNatClampNeg 5) (vp_nar .byte (Int8.toInt32 (Int32.toInt8 (p0 >>> (16 &&& 31))))) := ⟨_, rfl⟩
  rw [← ef_3] at hP hD
  have hP : va_P (dC, dI) vwCl [(tA, .inr (5, [.ref bA, .int 5])), (bA, .inl (cB, 500, .inl f_3))] H := hP
  have hD : va_D A [(tA, .inr (5, [.ref bA, .int 5])), (bA, .inl (cB, 500, .inl f_3))] := hD
  refine lv_aload_n hx hb dX5_append_30 rfl (lv_at hl 1 rfl) ?_
  refine lv_dup hx hb dX5_append_31 rfl ?_
  refine va_get (D := (dC, dI)) (ci := 5) (v := .int 5) (C := RX5) (T := TX5) (N := 2) hx hb ht iX5 hown hK hP 0 rfl rfl 1 (by decide) (ht _ w_138) (fun _ h9 => h9) rfl dX5_append_32 ?_
  refine lv_iconst (v := 1) hx hb dX5_append_35 (by decide) ?_
  refine lv_iadd hx hb dX5_append_36 ?_
  refine lv_topi (fun y_4 ey_4 => ?_)
  obtain rfl : y_4 = 6 := ey_4.trans (by decide)
  refine va_put (D := (dC, dI)) (ci := 5) (v := .int 6) (ty := .int) (C := RX5) (T := TX5) (N := 2) hx hb ht iX5 tyX5 tyX5_ok nmX5 hown hK hP hD hS 0 rfl rfl 1 (by decide) (ht _ w_138) (fun _ h9 => h9) rfl (by decide +kernel) rfl rfl (Nat.le_of_ble_eq_true rfl) dX5_append_37 (fun H locs hP hD hS => ?_)
  have hP : va_P (dC, dI) vwCl [(tA, .inr (5, [.ref bA, .int 6])), (bA, .inl (cB, 500, .inl f_3))] H := hP
  have hD : va_D A [(tA, .inr (5, [.ref bA, .int 6])), (bA, .inl (cB, 500, .inl f_3))] := hD
  refine lv_iinc (v := 8) (lv' := [(2, .int 8), (0, .ref tA), (1, .int p0)]) hx hb dX5_append_40 hl (k := 0) rfl (by decide) (by decide) rfl (fun ls hl => ?_)
  refine lv_goto (tgt := 3) hx hb dX5_append_43 (by decide) ?_
  refine lv_iload_n hx hb dX5_append_3 rfl (lv_at hl 0 rfl) ?_
  refine lv_if_lt (tgt := 46) hx hb dX5_append_4 (by decide) (fun c9 => by first | exact absurd c9 (by decide) | exact absurd (by decide) c9) (fun _ => ?_)
  refine lv_aload_n hx hb dX5_append_7 rfl (lv_at hl 1 rfl) ?_
  refine va_get (D := (dC, dI)) (ci := 5) (v := .int 6) (C := RX5) (T := TX5) (N := 2) hx hb ht iX5 hown hK hP 0 rfl rfl 1 (by decide) (ht _ w_138) (fun _ h9 => h9) rfl dX5_append_8 ?_
  refine lv_sipush (v := 500) hx hb dX5_append_11 (by decide) ?_
  refine lv_icmp_ge (tgt := 46) hx hb dX5_append_14 (by decide) (fun c9 => by first | exact absurd c9 (by decide) | exact absurd (by decide) c9) (fun _ => ?_)
  refine lv_aload_n hx hb dX5_append_17 rfl (lv_at hl 1 rfl) ?_
  refine va_get (D := (dC, dI)) (ci := 5) (v := .ref bA) (C := RX5) (T := TX5) (N := 2) hx hb ht iX5 hown hK hP 0 rfl rfl 0 (by decide) (ht _ w_137) (fun _ h9 => h9) rfl dX5_append_18 ?_
  refine lv_aload_n hx hb dX5_append_21 rfl (lv_at hl 1 rfl) ?_
  refine va_get (D := (dC, dI)) (ci := 5) (v := .int 6) (C := RX5) (T := TX5) (N := 2) hx hb ht iX5 hown hK hP 0 rfl rfl 1 (by decide) (ht _ w_138) (fun _ h9 => h9) rfl dX5_append_22 ?_
  refine lv_iload_n hx hb dX5_append_25 rfl (lv_at hl 2 rfl) ?_
  refine lv_iload_n hx hb dX5_append_26 rfl (lv_at hl 0 rfl) ?_
  refine lv_ishr hx hb dX5_append_27 ?_
  refine lv_i2b (v := (Int8.toInt32 (Int32.toInt8 (p0 >>> (8 &&& 31))))) hx hb dX5_append_28 rfl ?_
  refine va_bast hx hb hK hP hD hS 1 0 rfl rfl (by unfold vp_in; decide) dX5_append_29 (fun H locs hP hD hS => ?_)
  obtain ⟨f_5, ef_5⟩ : ∃ z : Nat → Int32, z = upd f_3 (Int32.toNatClampNeg 6) (vp_nar .byte (Int8.toInt32 (Int32.toInt8 (p0 >>> (8 &&& 31))))) := ⟨_, rfl⟩
  rw [← ef_5] at hP hD
  have hP : va_P (dC, dI) vwCl [(tA, .inr (5, [.ref bA, .int 6])), (bA, .inl (cB, 500, .inl f_5))] H := hP
  have hD : va_D A [(tA, .inr (5, [.ref bA, .int 6])), (bA, .inl (cB, 500, .inl f_5))] := hD
  refine lv_aload_n hx hb dX5_append_30 rfl (lv_at hl 1 rfl) ?_
  refine lv_dup hx hb dX5_append_31 rfl ?_
  refine va_get (D := (dC, dI)) (ci := 5) (v := .int 6) (C := RX5) (T := TX5) (N := 2) hx hb ht iX5 hown hK hP 0 rfl rfl 1 (by decide) (ht _ w_138) (fun _ h9 => h9) rfl dX5_append_32 ?_
  refine lv_iconst (v := 1) hx hb dX5_append_35 (by decide) ?_
  refine lv_iadd hx hb dX5_append_36 ?_
  refine lv_topi (fun y_6 ey_6 => ?_)
  obtain rfl : y_6 = 7 := ey_6.trans (by decide)
  refine va_put (D := (dC, dI)) (ci := 5) (v := .int 7) (ty := .int) (C := RX5) (T := TX5) (N := 2) hx hb ht iX5 tyX5 tyX5_ok nmX5 hown hK hP hD hS 0 rfl rfl 1 (by decide) (ht _ w_138) (fun _ h9 => h9) rfl (by decide +kernel) rfl rfl (Nat.le_of_ble_eq_true rfl) dX5_append_37 (fun H locs hP hD hS => ?_)
  have hP : va_P (dC, dI) vwCl [(tA, .inr (5, [.ref bA, .int 7])), (bA, .inl (cB, 500, .inl f_5))] H := hP
  have hD : va_D A [(tA, .inr (5, [.ref bA, .int 7])), (bA, .inl (cB, 500, .inl f_5))] := hD
  refine lv_iinc (v := 0) (lv' := [(2, .int 0), (0, .ref tA), (1, .int p0)]) hx hb dX5_append_40 hl (k := 0) rfl (by decide) (by decide) rfl (fun ls hl => ?_)
  refine lv_goto (tgt := 3) hx hb dX5_append_43 (by decide) ?_
  refine lv_iload_n hx hb dX5_append_3 rfl (lv_at hl 0 rfl) ?_
  refine lv_if_lt (tgt := 46) hx hb dX5_append_4 (by decide) (fun c9 => by first | exact absurd c9 (by decide) | exact absurd (by decide) c9) (fun _ => ?_)
  refine lv_aload_n hx hb dX5_append_7 rfl (lv_at hl 1 rfl) ?_
  refine va_get (D := (dC, dI)) (ci := 5) (v := .int 7) (C := RX5) (T := TX5) (N := 2) hx hb ht iX5 hown hK hP 0 rfl rfl 1 (by decide) (ht _ w_138) (fun _ h9 => h9) rfl dX5_append_8 ?_
  refine lv_sipush (v := 500) hx hb dX5_append_11 (by decide) ?_
  refine lv_icmp_ge (tgt := 46) hx hb dX5_append_14 (by decide) (fun c9 => by first | exact absurd c9 (by decide) | exact absurd (by decide) c9) (fun _ => ?_)
  refine lv_aload_n hx hb dX5_append_17 rfl (lv_at hl 1 rfl) ?_
  refine va_get (D := (dC, dI)) (ci := 5) (v := .ref bA) (C := RX5) (T := TX5) (N := 2) hx hb ht iX5 hown hK hP 0 rfl rfl 0 (by decide) (ht _ w_137) (fun _ h9 => h9) rfl dX5_append_18 ?_
  refine lv_aload_n hx hb dX5_append_21 rfl (lv_at hl 1 rfl) ?_
  refine va_get (D := (dC, dI)) (ci := 5) (v := .int 7) (C := RX5) (T := TX5) (N := 2) hx hb ht iX5 hown hK hP 0 rfl rfl 1 (by decide) (ht _ w_138) (fun _ h9 => h9) rfl dX5_append_22 ?_
  refine lv_iload_n hx hb dX5_append_25 rfl (lv_at hl 2 rfl) ?_
  refine lv_iload_n hx hb dX5_append_26 rfl (lv_at hl 0 rfl) ?_
  refine lv_ishr hx hb dX5_append_27 ?_
  refine lv_i2b (v := (Int8.toInt32 (Int32.toInt8 (p0 >>> (0 &&& 31))))) hx hb dX5_append_28 rfl ?_
  refine va_bast hx hb hK hP hD hS 1 0 rfl rfl (by unfold vp_in; decide) dX5_append_29 (fun H locs hP hD hS => ?_)
  obtain ⟨f_7, ef_7⟩ : ∃ z : Nat → Int32, z = upd f_5 (Int32.toNatClampNeg 7) (vp_nar .byte (Int8.toInt32 (Int32.toInt8 (p0 >>> (0 &&& 31))))) := ⟨_, rfl⟩
  rw [← ef_7] at hP hD
  have hP : va_P (dC, dI) vwCl [(tA, .inr (5, [.ref bA, .int 7])), (bA, .inl (cB, 500, .inl f_7))] H := hP
  have hD : va_D A [(tA, .inr (5, [.ref bA, .int 7])), (bA, .inl (cB, 500, .inl f_7))] := hD
  refine lv_aload_n hx hb dX5_append_30 rfl (lv_at hl 1 rfl) ?_
  refine lv_dup hx hb dX5_append_31 rfl ?_
  refine va_get (D := (dC, dI)) (ci := 5) (v := .int 7) (C := RX5) (T := TX5) (N := 2) hx hb ht iX5 hown hK hP 0 rfl rfl 1 (by decide) (ht _ w_138) (fun _ h9 => h9) rfl dX5_append_32 ?_
  refine lv_iconst (v := 1) hx hb dX5_append_35 (by decide) ?_
  refine lv_iadd hx hb dX5_append_36 ?_
  refine lv_topi (fun y_8 ey_8 => ?_)
  obtain rfl : y_8 = 8 := ey_8.trans (by decide)
  refine va_put (D := (dC, dI)) (ci := 5) (v := .int 8) (ty := .int) (C := RX5) (T := TX5) (N := 2) hx hb ht iX5 tyX5 tyX5_ok nmX5 hown hK hP hD hS 0 rfl rfl 1 (by decide) (ht _ w_138) (fun _ h9 => h9) rfl (by decide +kernel) rfl rfl (Nat.le_of_ble_eq_true rfl) dX5_append_37 (fun H locs hP hD hS => ?_)
  have hP : va_P (dC, dI) vwCl [(tA, .inr (5, [.ref bA, .int 8])), (bA, .inl (cB, 500, .inl f_7))] H := hP
  have hD : va_D A [(tA, .inr (5, [.ref bA, .int 8])), (bA, .inl (cB, 500, .inl f_7))] := hD
  refine lv_iinc (v := (-8)) (lv' := [(2, .int (-8)), (0, .ref tA), (1, .int p0)]) hx hb dX5_append_40 hl (k := 0) rfl (by decide) (by decide) rfl (fun ls hl => ?_)
  refine lv_goto (tgt := 3) hx hb dX5_append_43 (by decide) ?_
  refine lv_iload_n hx hb dX5_append_3 rfl (lv_at hl 0 rfl) ?_
  refine lv_if_lt (tgt := 46) hx hb dX5_append_4 (by decide) (fun _ => ?_) (fun c9 => by first | exact absurd (by decide) c9 | exact absurd c9 (by decide))
  have hP9 := hP.sub (ws' := [(tA, .inr (5, [.ref bA, .int 8])), (bA, .inl (cB, 500, .inl f_7))]) [0, 1] rfl
  have hD9 := hD.sub (ws' := [(tA, .inr (5, [.ref bA, .int 8])), (bA, .inl (cB, 500, .inl f_7))]) [0, 1] (by decide) rfl
  refine W.widen (k := 0) (n := 0) (Nat.le_of_ble_eq_true rfl) (Nat.le_of_ble_eq_true rfl) ?_
  exact W.vret hx hb hr (fun t ht hW => ⟨⟨f_7, rfl, trivial, ⟨by rw [ht]; exact hP9, hD9⟩⟩, hS.F ht⟩) hS.2.2 dX5_append_46
set_option maxHeartbeats 4000000 in
set_option maxRecDepth 100000 in
theorem k_X5_append_8 (l : Launch) (dC : Nat → ClassId) (dI : Nat → Nat → Nat) (cB cI cJ cZ cL : ClassId) (sz : Nat) (tA : Nat) (bA : Nat) (f : Nat → Int32) (p0 : Int32) : Met l yX5_append (wy yX5_append cX5_append 3 none) ({ frames := 0, cells := 0, slots := 0, locals := 0 }) (va_Pc [.ref tA, .int p0] (fun U => U.heap.size = sz ∧ va_P (dC, dI) vwCl [(tA, .inr (5, [.ref bA, .int 8])), (bA, .inl (cB, 500, .inl f))] U.heap ∧ va_K (dC, dI) vwCl (tyL cB cI cJ cZ cL) U ∧ va_D (fun _ => True) [(tA, .inr (5, [.ref bA, .int 8])), (bA, .inl (cB, 500, .inl f))])) (va_Qv (fun _ => True) (fun (u : Nat → Int32) t => va_P (dC, dI) vwCl [(tA, .inr (5, [.ref bA, .int 12])), (bA, .inl (cB, 500, .inl u))] t.heap ∧ va_D (va_A [(tA, .inr (5, [.ref bA, .int 8])), (bA, .inl (cB, 500, .inl f))] sz) [(tA, .inr (5, [.ref bA, .int 12])), (bA, .inl (cB, 500, .inl u))]) (va_A [(tA, .inr (5, [.ref bA, .int 8])), (bA, .inl (cB, 500, .inl f))] sz)) 0 0 (va_A [(tA, .inr (5, [.ref bA, .int 8])), (bA, .inl (cB, 500, .inl f))] sz) := by
  refine Met.ofW (cc := cX5_append) (maxL := 3) (ret := none) (by decide) rfl ?_
  intro p e s m args below meth c s₁ B hml hv
  obtain ⟨rfl, hsz, hP, hK, hD0⟩ := hv
  have hx := B.exec
  have hb := B.bytes
  have hr := B.returns
  have ht : ∀ w ∈ lw_ok, w.before _ s = true := fun w h => atoms_spec (ws := wy yX5_append cX5_append 3 none) B.pre w (List.mem_cons_of_mem _ h)
  have hown : s.vm.findClass RX5 = some m.cls := findClass_of_methodNamed B.named
  have hlocks := B.notSynchronized
  subst hsz
  have hD := hD0.self (sz := s.heap.size)
  generalize hAe : va_A [(tA, .inr (5, [.ref bA, .int 8])), (bA, .inl (cB, 500, .inl f))] s.heap.size = A at hD ⊢
  have hA : ∀ q : Nat, s.heap.size ≤ q → A q := fun q h => by rw [← hAe]; exact Or.inr h
  have hS : va_S A s.heap s.heap [] := va_S.rf
  have hl := lv_entry ([.ref tA, .int p0]) (n := 3) (Nat.le_of_ble_eq_true rfl)
  rw [lg_entry_eq]
  generalize (lg_sl ([.ref tA, .int p0]) ++ List.replicate (3 - (lg_sl ([.ref tA, .int p0])).length) Slot.unset).toArray = ls at hl ⊢
  have hl : lv_has ls 3 [(0, .ref tA), (1, .int p0)] := hl
  have hP : va_P (dC, dI) vwCl [(tA, .inr (5, [.ref bA, .int 8])), (bA, .inl (cB, 500, .inl f))] s.heap := hP
  have hD : va_D A [(tA, .inr (5, [.ref bA, .int 8])), (bA, .inl (cB, 500, .inl f))] := hD
  refine lv_bipush (v := 24) hx hb dX5_append_0 (by decide) ?_
  refine lv_istore_n (lv' := [(2, .int 24), (0, .ref tA), (1, .int p0)]) hx hb dX5_append_2 rfl hl (by decide) rfl (fun ls hl => ?_)
  refine lv_iload_n hx hb dX5_append_3 rfl (lv_at hl 0 rfl) ?_
  refine lv_if_lt (tgt := 46) hx hb dX5_append_4 (by decide) (fun c9 => by first | exact absurd c9 (by decide) | exact absurd (by decide) c9) (fun _ => ?_)
  refine lv_aload_n hx hb dX5_append_7 rfl (lv_at hl 1 rfl) ?_
  refine va_get (D := (dC, dI)) (ci := 5) (v := .int 8) (C := RX5) (T := TX5) (N := 2) hx hb ht iX5 hown hK hP 0 rfl rfl 1 (by decide) (ht _ w_138) (fun _ h9 => h9) rfl dX5_append_8 ?_
  refine lv_sipush (v := 500) hx hb dX5_append_11 (by decide) ?_
  refine lv_icmp_ge (tgt := 46) hx hb dX5_append_14 (by decide) (fun c9 => by first | exact absurd c9 (by decide) | exact absurd (by decide) c9) (fun _ => ?_)
  refine lv_aload_n hx hb dX5_append_17 rfl (lv_at hl 1 rfl) ?_
  refine va_get (D := (dC, dI)) (ci := 5) (v := .ref bA) (C := RX5) (T := TX5) (N := 2) hx hb ht iX5 hown hK hP 0 rfl rfl 0 (by decide) (ht _ w_137) (fun _ h9 => h9) rfl dX5_append_18 ?_
  refine lv_aload_n hx hb dX5_append_21 rfl (lv_at hl 1 rfl) ?_
  refine va_get (D := (dC, dI)) (ci := 5) (v := .int 8) (C := RX5) (T := TX5) (N := 2) hx hb ht iX5 hown hK hP 0 rfl rfl 1 (by decide) (ht _ w_138) (fun _ h9 => h9) rfl dX5_append_22 ?_
  refine lv_iload_n hx hb dX5_append_25 rfl (lv_at hl 2 rfl) ?_
  refine lv_iload_n hx hb dX5_append_26 rfl (lv_at hl 0 rfl) ?_
  refine lv_ishr hx hb dX5_append_27 ?_
  refine lv_i2b (v := (Int8.toInt32 (Int32.toInt8 (p0 >>> (24 &&& 31))))) hx hb dX5_append_28 rfl ?_
  refine va_bast hx hb hK hP hD hS 1 0 rfl rfl (by unfold vp_in; decide) dX5_append_29 (fun H locs hP hD hS => ?_)
  obtain ⟨f_1, ef_1⟩ : ∃ z : Nat → Int32, z = upd f (Int32.toNatClampNeg 8) (vp_nar .byte (Int8.toInt32 (Int32.toInt8 (p0 >>> (24 &&& 31))))) := ⟨_, rfl⟩
  rw [← ef_1] at hP hD
  have hP : va_P (dC, dI) vwCl [(tA, .inr (5, [.ref bA, .int 8])), (bA, .inl (cB, 500, .inl f_1))] H := hP
  have hD : va_D A [(tA, .inr (5, [.ref bA, .int 8])), (bA, .inl (cB, 500, .inl f_1))] := hD
  refine lv_aload_n hx hb dX5_append_30 rfl (lv_at hl 1 rfl) ?_
  refine lv_dup hx hb dX5_append_31 rfl ?_
  refine va_get (D := (dC, dI)) (ci := 5) (v := .int 8) (C := RX5) (T := TX5) (N := 2) hx hb ht iX5 hown hK hP 0 rfl rfl 1 (by decide) (ht _ w_138) (fun _ h9 => h9) rfl dX5_append_32 ?_
  refine lv_iconst (v := 1) hx hb dX5_append_35 (by decide) ?_
  refine lv_iadd hx hb dX5_append_36 ?_
  refine lv_topi (fun y_2 ey_2 => ?_)
  obtain rfl : y_2 = 9 := ey_2.trans (by decide)
  refine va_put (D := (dC, dI)) (ci := 5) (v := .int 9) (ty := .int) (C := RX5) (T := TX5) (N := 2) hx hb ht iX5 tyX5 tyX5_ok nmX5 hown hK hP hD hS 0 rfl rfl 1 (by decide) (ht _ w_138) (fun _ h9 => h9) rfl (by decide +kernel) rfl rfl (Nat.le_of_ble_eq_true rfl) dX5_append_37 (fun H locs hP hD hS => ?_)
  have hP : va_P (dC, dI) vwCl [(tA, .inr (5, [.ref bA, .int 9])), (bA, .inl (cB, 500, .inl f_1))] H := hP
  have hD : va_D A [(tA, .inr (5, [.ref bA, .int 9])), (bA, .inl (cB, 500, .inl f_1))] := hD
  refine lv_iinc (v := 16) (lv' := [(2, .int 16), (0, .ref tA), (1, .int p0)]) hx hb dX5_append_40 hl (k := 0) rfl (by decide) (by decide) rfl (fun ls hl => ?_)
  refine lv_goto (tgt := 3) hx hb dX5_append_43 (by decide) ?_
  refine lv_iload_n hx hb dX5_append_3 rfl (lv_at hl 0 rfl) ?_
  refine lv_if_lt (tgt := 46) hx hb dX5_append_4 (by decide) (fun c9 => by first | exact absurd c9 (by decide) | exact absurd (by decide) c9) (fun _ => ?_)
  refine lv_aload_n hx hb dX5_append_7 rfl (lv_at hl 1 rfl) ?_
  refine va_get (D := (dC, dI)) (ci := 5) (v := .int 9) (C := RX5) (T := TX5) (N := 2) hx hb ht iX5 hown hK hP 0 rfl rfl 1 (by decide) (ht _ w_138) (fun _ h9 => h9) rfl dX5_append_8 ?_
  refine lv_sipush (v := 500) hx hb dX5_append_11 (by decide) ?_
  refine lv_icmp_ge (tgt := 46) hx hb dX5_append_14 (by decide) (fun c9 => by first | exact absurd c9 (by decide) | exact absurd (by decide) c9) (fun _ => ?_)
  refine lv_aload_n hx hb dX5_append_17 rfl (lv_at hl 1 rfl) ?_
  refine va_get (D := (dC, dI)) (ci := 5) (v := .ref bA) (C := RX5) (T := TX5) (N := 2) hx hb ht iX5 hown hK hP 0 rfl rfl 0 (by decide) (ht _ w_137) (fun _ h9 => h9) rfl dX5_append_18 ?_
  refine lv_aload_n hx hb dX5_append_21 rfl (lv_at hl 1 rfl) ?_
  refine va_get (D := (dC, dI)) (ci := 5) (v := .int 9) (C := RX5) (T := TX5) (N := 2) hx hb ht iX5 hown hK hP 0 rfl rfl 1 (by decide) (ht _ w_138) (fun _ h9 => h9) rfl dX5_append_22 ?_
  refine lv_iload_n hx hb dX5_append_25 rfl (lv_at hl 2 rfl) ?_
  refine lv_iload_n hx hb dX5_append_26 rfl (lv_at hl 0 rfl) ?_
  refine lv_ishr hx hb dX5_append_27 ?_
  refine lv_i2b (v := (Int8.toInt32 (Int32.toInt8 (p0 >>> (16 &&& 31))))) hx hb dX5_append_28 rfl ?_
  refine va_bast hx hb hK hP hD hS 1 0 rfl rfl (by unfold vp_in; decide) dX5_append_29 (fun H locs hP hD hS => ?_)
  obtain ⟨f_3, ef_3⟩ : ∃ z : Nat → Int32, z = upd f_1 (Int32.toNatClampNeg 9) (vp_nar .byte (Int8.toInt32 (Int32.toInt8 (p0 >>> (16 &&& 31))))) := ⟨_, rfl⟩
  rw [← ef_3] at hP hD
  have hP : va_P (dC, dI) vwCl [(tA, .inr (5, [.ref bA, .int 9])), (bA, .inl (cB, 500, .inl f_3))] H := hP
  have hD : va_D A [(tA, .inr (5, [.ref bA, .int 9])), (bA, .inl (cB, 500, .inl f_3))] := hD
  refine lv_aload_n hx hb dX5_append_30 rfl (lv_at hl 1 rfl) ?_
  refine lv_dup hx hb dX5_append_31 rfl ?_
  refine va_get (D := (dC, dI)) (ci := 5) (v := .int 9) (C := RX5) (T := TX5) (N := 2) hx hb ht iX5 hown hK hP 0 rfl rfl 1 (by decide) (ht _ w_138) (fun _ h9 => h9) rfl dX5_append_32 ?_
  refine lv_iconst (v := 1) hx hb dX5_append_35 (by decide) ?_
  refine lv_iadd hx hb dX5_append_36 ?_
  refine lv_topi (fun y_4 ey_4 => ?_)
  obtain rfl : y_4 = 10 := ey_4.trans (by decide)
  refine va_put (D := (dC, dI)) (ci := 5) (v := .int 10) (ty := .int) (C := RX5) (T := TX5) (N := 2) hx hb ht iX5 tyX5 tyX5_ok nmX5 hown hK hP hD hS 0 rfl rfl 1 (by decide) (ht _ w_138) (fun _ h9 => h9) rfl (by decide +kernel) rfl rfl (Nat.le_of_ble_eq_true rfl) dX5_append_37 (fun H locs hP hD hS => ?_)
  have hP : va_P (dC, dI) vwCl [(tA, .inr (5, [.ref bA, .int 10])), (bA, .inl (cB, 500, .inl f_3))] H := hP
  have hD : va_D A [(tA, .inr (5, [.ref bA, .int 10])), (bA, .inl (cB, 500, .inl f_3))] := hD
  refine lv_iinc (v := 8) (lv' := [(2, .int 8), (0, .ref tA), (1, .int p0)]) hx hb dX5_append_40 hl (k := 0) rfl (by decide) (by decide) rfl (fun ls hl => ?_)
  refine lv_goto (tgt := 3) hx hb dX5_append_43 (by decide) ?_
  refine lv_iload_n hx hb dX5_append_3 rfl (lv_at hl 0 rfl) ?_
  refine lv_if_lt (tgt := 46) hx hb dX5_append_4 (by decide) (fun c9 => by first | exact absurd c9 (by decide) | exact absurd (by decide) c9) (fun _ => ?_)
  refine lv_aload_n hx hb dX5_append_7 rfl (lv_at hl 1 rfl) ?_
  refine va_get (D := (dC, dI)) (ci := 5) (v := .int 10) (C := RX5) (T := TX5) (N := 2) hx hb ht iX5 hown hK hP 0 rfl rfl 1 (by decide) (ht _ w_138) (fun _ h9 => h9) rfl dX5_append_8 ?_
  refine lv_sipush (v := 500) hx hb dX5_append_11 (by decide) ?_
  refine lv_icmp_ge (tgt := 46) hx hb dX5_append_14 (by decide) (fun c9 => by first | exact absurd c9 (by decide) | exact absurd (by decide) c9) (fun _ => ?_)
  refine lv_aload_n hx hb dX5_append_17 rfl (lv_at hl 1 rfl) ?_
  refine va_get (D := (dC, dI)) (ci := 5) (v := .ref bA) (C := RX5) (T := TX5) (N := 2) hx hb ht iX5 hown hK hP 0 rfl rfl 0 (by decide) (ht _ w_137) (fun _ h9 => h9) rfl dX5_append_18 ?_
  refine lv_aload_n hx hb dX5_append_21 rfl (lv_at hl 1 rfl) ?_
  refine va_get (D := (dC, dI)) (ci := 5) (v := .int 10) (C := RX5) (T := TX5) (N := 2) hx hb ht iX5 hown hK hP 0 rfl rfl 1 (by decide) (ht _ w_138) (fun _ h9 => h9) rfl dX5_append_22 ?_
  refine lv_iload_n hx hb dX5_append_25 rfl (lv_at hl 2 rfl) ?_
  refine lv_iload_n hx hb dX5_append_26 rfl (lv_at hl 0 rfl) ?_
  refine lv_ishr hx hb dX5_append_27 ?_
  refine lv_i2b (v := (Int8.toInt32 (Int32.toInt8 (p0 >>> (8 &&& 31))))) hx hb dX5_append_28 rfl ?_
  refine va_bast hx hb hK hP hD hS 1 0 rfl rfl (by unfold vp_in; decide) dX5_append_29 (fun H locs hP hD hS => ?_)
  obtain ⟨f_5, ef_5⟩ : ∃ z : Nat → Int32, z = upd f_3 (Int32.toNatClampNeg 10) (vp_nar .byte (Int8.toInt32 (Int32.toInt8 (p0 >>> (8 &&& 31))))) := ⟨_, rfl⟩
  rw [← ef_5] at hP hD
  have hP : va_P (dC, dI) vwCl [(tA, .inr (5, [.ref bA, .int 10])), (bA, .inl (cB, 500, .inl f_5))] H := hP
  have hD : va_D A [(tA, .inr (5, [.ref bA, .int 10])), (bA, .inl (cB, 500, .inl f_5))] := hD
  refine lv_aload_n hx hb dX5_append_30 rfl (lv_at hl 1 rfl) ?_
  refine lv_dup hx hb dX5_append_31 rfl ?_
  refine va_get (D := (dC, dI)) (ci := 5) (v := .int 10) (C := RX5) (T := TX5) (N := 2) hx hb ht iX5 hown hK hP 0 rfl rfl 1 (by decide) (ht _ w_138) (fun _ h9 => h9) rfl dX5_append_32 ?_
  refine lv_iconst (v := 1) hx hb dX5_append_35 (by decide) ?_
  refine lv_iadd hx hb dX5_append_36 ?_
  refine lv_topi (fun y_6 ey_6 => ?_)
  obtain rfl : y_6 = 11 := ey_6.trans (by decide)
  refine va_put (D := (dC, dI)) (ci := 5) (v := .int 11) (ty := .int) (C := RX5) (T := TX5) (N := 2) hx hb ht iX5 tyX5 tyX5_ok nmX5 hown hK hP hD hS 0 rfl rfl 1 (by decide) (ht _ w_138) (fun _ h9 => h9) rfl (by decide +kernel) rfl rfl (Nat.le_of_ble_eq_true rfl) dX5_append_37 (fun H locs hP hD hS => ?_)
  have hP : va_P (dC, dI) vwCl [(tA, .inr (5, [.ref bA, .int 11])), (bA, .inl (cB, 500, .inl f_5))] H := hP
  have hD : va_D A [(tA, .inr (5, [.ref bA, .int 11])), (bA, .inl (cB, 500, .inl f_5))] := hD
  refine lv_iinc (v := 0) (lv' := [(2, .int 0), (0, .ref tA), (1, .int p0)]) hx hb dX5_append_40 hl (k := 0) rfl (by decide) (by decide) rfl (fun ls hl => ?_)
  refine lv_goto (tgt := 3) hx hb dX5_append_43 (by decide) ?_
  refine lv_iload_n hx hb dX5_append_3 rfl (lv_at hl 0 rfl) ?_
  refine lv_if_lt (tgt := 46) hx hb dX5_append_4 (by decide) (fun c9 => by first | exact absurd c9 (by decide) | exact absurd (by decide) c9) (fun _ => ?_)
  refine lv_aload_n hx hb dX5_append_7 rfl (lv_at hl 1 rfl) ?_
  refine va_get (D := (dC, dI)) (ci := 5) (v := .int 11) (C := RX5) (T := TX5) (N := 2) hx hb ht iX5 hown hK hP 0 rfl rfl 1 (by decide) (ht _ w_138) (fun _ h9 => h9) rfl dX5_append_8 ?_
  refine lv_sipush (v := 500) hx hb dX5_append_11 (by decide) ?_
  refine lv_icmp_ge (tgt := 46) hx hb dX5_append_14 (by decide) (fun c9 => by first | exact absurd c9 (by decide) | exact absurd (by decide) c9) (fun _ => ?_)
  refine lv_aload_n hx hb dX5_append_17 rfl (lv_at hl 1 rfl) ?_
  refine va_get (D := (dC, dI)) (ci := 5) (v := .ref bA) (C := RX5) (T := TX5) (N := 2) hx hb ht iX5 hown hK hP 0 rfl rfl 0 (by decide) (ht _ w_137) (fun _ h9 => h9) rfl dX5_append_18 ?_
  refine lv_aload_n hx hb dX5_append_21 rfl (lv_at hl 1 rfl) ?_
  refine va_get (D := (dC, dI)) (ci := 5) (v := .int 11) (C := RX5) (T := TX5) (N := 2) hx hb ht iX5 hown hK hP 0 rfl rfl 1 (by decide) (ht _ w_138) (fun _ h9 => h9) rfl dX5_append_22 ?_
  refine lv_iload_n hx hb dX5_append_25 rfl (lv_at hl 2 rfl) ?_
  refine lv_iload_n hx hb dX5_append_26 rfl (lv_at hl 0 rfl) ?_
  refine lv_ishr hx hb dX5_append_27 ?_
  refine lv_i2b (v := (Int8.toInt32 (Int32.toInt8 (p0 >>> (0 &&& 31))))) hx hb dX5_append_28 rfl ?_
  refine va_bast hx hb hK hP hD hS 1 0 rfl rfl (by unfold vp_in; decide) dX5_append_29 (fun H locs hP hD hS => ?_)
  obtain ⟨f_7, ef_7⟩ : ∃ z : Nat → Int32, z = upd f_5 (Int32.toNatClampNeg 11) (vp_nar .byte (Int8.toInt32 (Int32.toInt8 (p0 >>> (0 &&& 31))))) := ⟨_, rfl⟩
  rw [← ef_7] at hP hD
  have hP : va_P (dC, dI) vwCl [(tA, .inr (5, [.ref bA, .int 11])), (bA, .inl (cB, 500, .inl f_7))] H := hP
  have hD : va_D A [(tA, .inr (5, [.ref bA, .int 11])), (bA, .inl (cB, 500, .inl f_7))] := hD
  refine lv_aload_n hx hb dX5_append_30 rfl (lv_at hl 1 rfl) ?_
  refine lv_dup hx hb dX5_append_31 rfl ?_
  refine va_get (D := (dC, dI)) (ci := 5) (v := .int 11) (C := RX5) (T := TX5) (N := 2) hx hb ht iX5 hown hK hP 0 rfl rfl 1 (by decide) (ht _ w_138) (fun _ h9 => h9) rfl dX5_append_32 ?_
  refine lv_iconst (v := 1) hx hb dX5_append_35 (by decide) ?_
  refine lv_iadd hx hb dX5_append_36 ?_
  refine lv_topi (fun y_8 ey_8 => ?_)
  obtain rfl : y_8 = 12 := ey_8.trans (by decide)
  refine va_put (D := (dC, dI)) (ci := 5) (v := .int 12) (ty := .int) (C := RX5) (T := TX5) (N := 2) hx hb ht iX5 tyX5 tyX5_ok nmX5 hown hK hP hD hS 0 rfl rfl 1 (by decide) (ht _ w_138) (fun _ h9 => h9) rfl (by decide +kernel) rfl rfl (Nat.le_of_ble_eq_true rfl) dX5_append_37 (fun H locs hP hD hS => ?_)
  have hP : va_P (dC, dI) vwCl [(tA, .inr (5, [.ref bA, .int 12])), (bA, .inl (cB, 500, .inl f_7))] H := hP
  have hD : va_D A [(tA, .inr (5, [.ref bA, .int 12])), (bA, .inl (cB, 500, .inl f_7))] := hD
  refine lv_iinc (v := (-8)) (lv' := [(2, .int (-8)), (0, .ref tA), (1, .int p0)]) hx hb dX5_append_40 hl (k := 0) rfl (by decide) (by decide) rfl (fun ls hl => ?_)
  refine lv_goto (tgt := 3) hx hb dX5_append_43 (by decide) ?_
  refine lv_iload_n hx hb dX5_append_3 rfl (lv_at hl 0 rfl) ?_
  refine lv_if_lt (tgt := 46) hx hb dX5_append_4 (by decide) (fun _ => ?_) (fun c9 => by first | exact absurd (by decide) c9 | exact absurd c9 (by decide))
  have hP9 := hP.sub (ws' := [(tA, .inr (5, [.ref bA, .int 12])), (bA, .inl (cB, 500, .inl f_7))]) [0, 1] rfl
  have hD9 := hD.sub (ws' := [(tA, .inr (5, [.ref bA, .int 12])), (bA, .inl (cB, 500, .inl f_7))]) [0, 1] (by decide) rfl
  refine W.widen (k := 0) (n := 0) (Nat.le_of_ble_eq_true rfl) (Nat.le_of_ble_eq_true rfl) ?_
  exact W.vret hx hb hr (fun t ht hW => ⟨⟨f_7, rfl, trivial, ⟨by rw [ht]; exact hP9, hD9⟩⟩, hS.F ht⟩) hS.2.2 dX5_append_46
