set_option maxHeartbeats 4000000 in
set_option maxRecDepth 100000 in
theorem k_X9_four_12 (l : Launch) (dC : Nat → ClassId) (dI : Nat → Nat → Nat) (cB cI cJ cZ cL : ClassId) (sz : Nat) (g : Nat → Nat) (f : Nat → Int32) (p0 : Int32) : Met l yX9_four (wy yX9_four cX9_four 3 none) ({ frames := 0, cells := 0, slots := 0, locals := 0 }) (va_Pc [.ref (g 0), .int p0] (fun U => U.heap.size = sz ∧ va_P (dC, dI) vwCl [((g 0), .inr (9, [.int 0, .ref (g 1), .ref (g 2), .ref (g 3), .ref (g 4), .ref (g 5), .int 12, .int 0, .int 0, .int 0, .int 0, .long 0, .int 0, .int 0, .int 0, .int (-1), .ref (g 6), .ref (g 7), .ref (g 8), .ref (g 9), .ref (g 10), .ref (g 11), .int 0, .int 0, .int 0, .int 0, .int 0, .ref (g 12), .ref (g 13), .int 0, .ref (g 14), .ref (g 15), .long 0, .int 0, .int 0, .int 0, .ref (g 16), .ref (g 17)])), ((g 5), .inl (cB, 500, .inl f))] U.heap ∧ va_K (dC, dI) vwCl (tyL cB cI cJ cZ cL) U ∧ va_D (fun _ => True) [((g 0), .inr (9, [.int 0, .ref (g 1), .ref (g 2), .ref (g 3), .ref (g 4), .ref (g 5), .int 12, .int 0, .int 0, .int 0, .int 0, .long 0, .int 0, .int 0, .int 0, .int (-1), .ref (g 6), .ref (g 7), .ref (g 8), .ref (g 9), .ref (g 10), .ref (g 11), .int 0, .int 0, .int 0, .int 0, .int 0, .ref (g 12), .ref (g 13), .int 0, .ref (g 14), .ref (g 15), .long 0, .int 0, .int 0, .int 0, .ref (g 16), .ref (g 17)])), ((g 5), .inl (cB, 500, .inl f))])) (va_Qv (fun _ => True) (fun (u : Nat → Int32) t => va_P (dC, dI) vwCl [((g 0), .inr (9, [.int 0, .ref (g 1), .ref (g 2), .ref (g 3), .ref (g 4), .ref (g 5), .int 16, .int 0, .int 0, .int 0, .int 0, .long 0, .int 0, .int 0, .int 0, .int (-1), .ref (g 6), .ref (g 7), .ref (g 8), .ref (g 9), .ref (g 10), .ref (g 11), .int 0, .int 0, .int 0, .int 0, .int 0, .ref (g 12), .ref (g 13), .int 0, .ref (g 14), .ref (g 15), .long 0, .int 0, .int 0, .int 0, .ref (g 16), .ref (g 17)])), ((g 5), .inl (cB, 500, .inl u))] t.heap ∧ va_D (va_A [((g 0), .inr (9, [.int 0, .ref (g 1), .ref (g 2), .ref (g 3), .ref (g 4), .ref (g 5), .int 12, .int 0, .int 0, .int 0, .int 0, .long 0, .int 0, .int 0, .int 0, .int (-1), .ref (g 6), .ref (g 7), .ref (g 8), .ref (g 9), .ref (g 10), .ref (g 11), .int 0, .int 0, .int 0, .int 0, .int 0, .ref (g 12), .ref (g 13), .int 0, .ref (g 14), .ref (g 15), .long 0, .int 0, .int 0, .int 0, .ref (g 16), .ref (g 17)])), ((g 5), .inl (cB, 500, .inl f))] sz) [((g 0), .inr (9, [.int 0, .ref (g 1), .ref (g 2), .ref (g 3), .ref (g 4), .ref (g 5), .int 16, .int 0, .int 0, .int 0, .int 0, .long 0, .int 0, .int 0, .int 0, .int (-1), .ref (g 6), .ref (g 7), .ref (g 8), .ref (g 9), .ref (g 10), .ref (g 11), .int 0, .int 0, .int 0, .int 0, .int 0, .ref (g 12), .ref (g 13), .int 0, .ref (g 14), .ref (g 15), .long 0, .int 0, .int 0, .int 0, .ref (g 16), .ref (g 17)])), ((g 5), .inl (cB, 500, .inl u))]) (va_A [((g 0), .inr (9, [.int 0, .ref (g 1), .ref (g 2), .ref (g 3), .ref (g 4), .ref (g 5), .int 12, .int 0, .int 0, .int 0, .int 0, .long 0, .int 0, .int 0, .int 0, .int (-1), .ref (g 6), .ref (g 7), .ref (g 8), .ref (g 9), .ref (g 10), .ref (g 11), .int 0, .int 0, .int 0, .int 0, .int 0, .ref (g 12), .ref (g 13), .int 0, .ref (g 14), .ref (g 15), .long 0, .int 0, .int 0, .int 0, .ref (g 16), .ref (g 17)])), ((g 5), .inl (cB, 500, .inl f))] sz)) 0 0 (va_A [((g 0), .inr (9, [.int 0, .ref (g 1), .ref (g 2), .ref (g 3), .ref (g 4), .ref (g 5), .int 12, .int 0, .int 0, .int 0, .int 0, .long 0, .int 0, .int 0, .int 0, .int (-1), .ref (g 6), .ref (g 7), .ref (g 8), .ref (g 9), .ref (g 10), .ref (g 11), .int 0, .int 0, .int 0, .int 0, .int 0, .ref (g 12), .ref (g 13), .int 0, .ref (g 14), .ref (g 15), .long 0, .int 0, .int 0, .int 0, .ref (g 16), .ref (g 17)])), ((g 5), .inl (cB, 500, .inl f))] sz) := by
  refine Met.ofW (cc := cX9_four) (maxL := 3) (ret := none) (by decide) rfl ?_
  intro p e s m args below meth c s₁ B hml hv
  obtain ⟨rfl, hsz, hP, hK, hD0⟩ := hv
  have hx := B.exec
  have hb := B.bytes
  have hr := B.returns
  have ht : ∀ w ∈ lw_ok, w.before _ s = true := fun w h => atoms_spec (ws := wy yX9_four cX9_four 3 none) B.pre w (List.mem_cons_of_mem _ h)
  have hown : s.vm.findClass RX9 = some m.cls := findClass_of_methodNamed B.named
  have hlocks := B.notSynchronized
  subst hsz
  have hD := hD0.self (sz := s.heap.size)
  generalize hAe : va_A [((g 0), .inr (9, [.int 0, .ref (g 1), .ref (g 2), .ref (g 3), .ref (g 4), .ref (g 5), .int 12, .int 0, .int 0, .int 0, .int 0, .long 0, .int 0, .int 0, .int 0, .int (-1), .ref (g 6), .ref (g 7), .ref (g 8), .ref (g 9), .ref (g 10), .ref (g 11), .int 0, .int 0, .int 0, .int 0, .int 0, .ref (g 12), .ref (g 13), .int 0, .ref (g 14), .ref (g 15), .long 0, .int 0, .int 0, .int 0, .ref (g 16), .ref (g 17)])), ((g 5), .inl (cB, 500, .inl f))] s.heap.size = A at hD ⊢
  have hA : ∀ q : Nat, s.heap.size ≤ q → A q := fun q h => by rw [← hAe]; exact Or.inr h
  have hS : va_S A s.heap s.heap [] := va_S.rf
  have hl := lv_entry ([.ref (g 0), .int p0]) (n := 3) (Nat.le_of_ble_eq_true rfl)
  rw [lg_entry_eq]
  generalize (lg_sl ([.ref (g 0), .int p0]) ++ List.replicate (3 - (lg_sl ([.ref (g 0), .int p0])).length) Slot.unset).toArray = ls at hl ⊢
  have hl : lv_has ls 3 [(0, .ref (g 0)), (1, .int p0)] := hl
  have hP : va_P (dC, dI) vwCl [((g 0), .inr (9, [.int 0, .ref (g 1), .ref (g 2), .ref (g 3), .ref (g 4), .ref (g 5), .int 12, .int 0, .int 0, .int 0, .int 0, .long 0, .int 0, .int 0, .int 0, .int (-1), .ref (g 6), .ref (g 7), .ref (g 8), .ref (g 9), .ref (g 10), .ref (g 11), .int 0, .int 0, .int 0, .int 0, .int 0, .ref (g 12), .ref (g 13), .int 0, .ref (g 14), .ref (g 15), .long 0, .int 0, .int 0, .int 0, .ref (g 16), .ref (g 17)])), ((g 5), .inl (cB, 500, .inl f))] s.heap := hP
  have hD : va_D A [((g 0), .inr (9, [.int 0, .ref (g 1), .ref (g 2), .ref (g 3), .ref (g 4), .ref (g 5), .int 12, .int 0, .int 0, .int 0, .int 0, .long 0, .int 0, .int 0, .int 0, .int (-1), .ref (g 6), .ref (g 7), .ref (g 8), .ref (g 9), .ref (g 10), .ref (g 11), .int 0, .int 0, .int 0, .int 0, .int 0, .ref (g 12), .ref (g 13), .int 0, .ref (g 14), .ref (g 15), .long 0, .int 0, .int 0, .int 0, .ref (g 16), .ref (g 17)])), ((g 5), .inl (cB, 500, .inl f))] := hD
  refine lv_bipush (v := 24) hx hb dX9_four_0 (by decide) ?_
  refine lv_istore_n (lv' := [(2, .int 24), (0, .ref (g 0)), (1, .int p0)]) hx hb dX9_four_2 rfl hl (by decide) rfl (fun ls hl => ?_)
  refine lv_iload_n hx hb dX9_four_3 rfl (lv_at hl 0 rfl) ?_
  refine lv_if_lt (tgt := 36) hx hb dX9_four_4 (by decide) (fun c9 => by first | exact absurd c9 (by decide) | exact absurd (by decide) c9) (fun _ => ?_)
  refine lv_aload_n hx hb dX9_four_7 rfl (lv_at hl 1 rfl) ?_
  refine va_get (D := (dC, dI)) (ci := 9) (v := .ref (g 5)) (C := RX9) (T := TX9) (N := 38) hx hb ht iX9 hown hK hP 0 rfl rfl 5 (by decide) (ht _ w_1267) (fun _ h9 => h9) rfl dX9_four_8 ?_
  refine lv_aload_n hx hb dX9_four_11 rfl (lv_at hl 1 rfl) ?_
  refine va_get (D := (dC, dI)) (ci := 9) (v := .int 12) (C := RX9) (T := TX9) (N := 38) hx hb ht iX9 hown hK hP 0 rfl rfl 6 (by decide) (ht _ w_1268) (fun _ h9 => h9) rfl dX9_four_12 ?_
  refine lv_iload_n hx hb dX9_four_15 rfl (lv_at hl 2 rfl) ?_
  refine lv_iload_n hx hb dX9_four_16 rfl (lv_at hl 0 rfl) ?_
  refine lv_ishr hx hb dX9_four_17 ?_
  refine lv_i2b (v := (Int8.toInt32 (Int32.toInt8 (p0 >>> (24 &&& 31))))) hx hb dX9_four_18 rfl ?_
  refine va_bast hx hb hK hP hD hS 1 0 rfl rfl (by unfold vp_in; decide) dX9_four_19 (fun H locs hP hD hS => ?_)
  obtain ⟨f_1, ef_1⟩ : ∃ z : Nat → Int32, z = upd f (Int32.toNatClampNeg 12) (vp_nar .byte (Int8.toInt32 (Int32.toInt8 (p0 >>> (24 &&& 31))))) := ⟨_, rfl⟩
  rw [← ef_1] at hP hD
  have hP : va_P (dC, dI) vwCl [((g 0), .inr (9, [.int 0, .ref (g 1), .ref (g 2), .ref (g 3), .ref (g 4), .ref (g 5), .int 12, .int 0, .int 0, .int 0, .int 0, .long 0, .int 0, .int 0, .int 0, .int (-1), .ref (g 6), .ref (g 7), .ref (g 8), .ref (g 9), .ref (g 10), .ref (g 11), .int 0, .int 0, .int 0, .int 0, .int 0, .ref (g 12), .ref (g 13), .int 0, .ref (g 14), .ref (g 15), .long 0, .int 0, .int 0, .int 0, .ref (g 16), .ref (g 17)])), ((g 5), .inl (cB, 500, .inl f_1))] H := hP
  have hD : va_D A [((g 0), .inr (9, [.int 0, .ref (g 1), .ref (g 2), .ref (g 3), .ref (g 4), .ref (g 5), .int 12, .int 0, .int 0, .int 0, .int 0, .long 0, .int 0, .int 0, .int 0, .int (-1), .ref (g 6), .ref (g 7), .ref (g 8), .ref (g 9), .ref (g 10), .ref (g 11), .int 0, .int 0, .int 0, .int 0, .int 0, .ref (g 12), .ref (g 13), .int 0, .ref (g 14), .ref (g 15), .long 0, .int 0, .int 0, .int 0, .ref (g 16), .ref (g 17)])), ((g 5), .inl (cB, 500, .inl f_1))] := hD
  refine lv_aload_n hx hb dX9_four_20 rfl (lv_at hl 1 rfl) ?_
  refine lv_dup hx hb dX9_four_21 rfl ?_
  refine va_get (D := (dC, dI)) (ci := 9) (v := .int 12) (C := RX9) (T := TX9) (N := 38) hx hb ht iX9 hown hK hP 0 rfl rfl 6 (by decide) (ht _ w_1268) (fun _ h9 => h9) rfl dX9_four_22 ?_
  refine lv_iconst (v := 1) hx hb dX9_four_25 (by decide) ?_
  refine lv_iadd hx hb dX9_four_26 ?_
  refine lv_topi (fun y_2 ey_2 => ?_)
  obtain rfl : y_2 = 13 := ey_2.trans (by decide)
  refine va_put (D := (dC, dI)) (ci := 9) (v := .int 13) (ty := .int) (C := RX9) (T := TX9) (N := 38) hx hb ht iX9 tyX9 tyX9_ok nmX9 hown hK hP hD hS 0 rfl rfl 6 (by decide) (ht _ w_1268) (fun _ h9 => h9) rfl (by decide +kernel) rfl rfl (Nat.le_of_ble_eq_true rfl) dX9_four_27 (fun H locs hP hD hS => ?_)
  have hP : va_P (dC, dI) vwCl [((g 0), .inr (9, [.int 0, .ref (g 1), .ref (g 2), .ref (g 3), .ref (g 4), .ref (g 5), .int 13, .int 0, .int 0, .int 0, .int 0, .long 0, .int 0, .int 0, .int 0, .int (-1), .ref (g 6), .ref (g 7), .ref (g 8), .ref (g 9), .ref (g 10), .ref (g 11), .int 0, .int 0, .int 0, .int 0, .int 0, .ref (g 12), .ref (g 13), .int 0, .ref (g 14), .ref (g 15), .long 0, .int 0, .int 0, .int 0, .ref (g 16), .ref (g 17)])), ((g 5), .inl (cB, 500, .inl f_1))] H := hP
  have hD : va_D A [((g 0), .inr (9, [.int 0, .ref (g 1), .ref (g 2), .ref (g 3), .ref (g 4), .ref (g 5), .int 13, .int 0, .int 0, .int 0, .int 0, .long 0, .int 0, .int 0, .int 0, .int (-1), .ref (g 6), .ref (g 7), .ref (g 8), .ref (g 9), .ref (g 10), .ref (g 11), .int 0, .int 0, .int 0, .int 0, .int 0, .ref (g 12), .ref (g 13), .int 0, .ref (g 14), .ref (g 15), .long 0, .int 0, .int 0, .int 0, .ref (g 16), .ref (g 17)])), ((g 5), .inl (cB, 500, .inl f_1))] := hD
  refine lv_iinc (v := 16) (lv' := [(2, .int 16), (0, .ref (g 0)), (1, .int p0)]) hx hb dX9_four_30 hl (k := 0) rfl (by decide) (by decide) rfl (fun ls hl => ?_)
  refine lv_goto (tgt := 3) hx hb dX9_four_33 (by decide) ?_
  refine lv_iload_n hx hb dX9_four_3 rfl (lv_at hl 0 rfl) ?_
  refine lv_if_lt (tgt := 36) hx hb dX9_four_4 (by decide) (fun c9 => by first | exact absurd c9 (by decide) | exact absurd (by decide) c9) (fun _ => ?_)
  refine lv_aload_n hx hb dX9_four_7 rfl (lv_at hl 1 rfl) ?_
  refine va_get (D := (dC, dI)) (ci := 9) (v := .ref (g 5)) (C := RX9) (T := TX9) (N := 38) hx hb ht iX9 hown hK hP 0 rfl rfl 5 (by decide) (ht _ w_1267) (fun _ h9 => h9) rfl dX9_four_8 ?_
  refine lv_aload_n hx hb dX9_four_11 rfl (lv_at hl 1 rfl) ?_
  refine va_get (D := (dC, dI)) (ci := 9) (v := .int 13) (C := RX9) (T := TX9) (N := 38) hx hb ht iX9 hown hK hP 0 rfl rfl 6 (by decide) (ht _ w_1268) (fun _ h9 => h9) rfl dX9_four_12 ?_
  refine lv_iload_n hx hb dX9_four_15 rfl (lv_at hl 2 rfl) ?_
  refine lv_iload_n hx hb dX9_four_16 rfl (lv_at hl 0 rfl) ?_
  refine lv_ishr hx hb dX9_four_17 ?_
  refine lv_i2b (v := (Int8.toInt32 (Int32.toInt8 (p0 >>> (16 &&& 31))))) hx hb dX9_four_18 rfl ?_
  refine va_bast hx hb hK hP hD hS 1 0 rfl rfl (by unfold vp_in; decide) dX9_four_19 (fun H locs hP hD hS => ?_)
  obtain ⟨f_3, ef_3⟩ : ∃ z : Nat → Int32, z = upd f_1 (Int32.toNatClampNeg 13) (vp_nar .byte (Int8.toInt32 (Int32.toInt8 (p0 >>> (16 &&& 31))))) := ⟨_, rfl⟩
  rw [← ef_3] at hP hD
  have hP : va_P (dC, dI) vwCl [((g 0), .inr (9, [.int 0, .ref (g 1), .ref (g 2), .ref (g 3), .ref (g 4), .ref (g 5), .int 13, .int 0, .int 0, .int 0, .int 0, .long 0, .int 0, .int 0, .int 0, .int (-1), .ref (g 6), .ref (g 7), .ref (g 8), .ref (g 9), .ref (g 10), .ref (g 11), .int 0, .int 0, .int 0, .int 0, .int 0, .ref (g 12), .ref (g 13), .int 0, .ref (g 14), .ref (g 15), .long 0, .int 0, .int 0, .int 0, .ref (g 16), .ref (g 17)])), ((g 5), .inl (cB, 500, .inl f_3))] H := hP
  have hD : va_D A [((g 0), .inr (9, [.int 0, .ref (g 1), .ref (g 2), .ref (g 3), .ref (g 4), .ref (g 5), .int 13, .int 0, .int 0, .int 0, .int 0, .long 0, .int 0, .int 0, .int 0, .int (-1), .ref (g 6), .ref (g 7), .ref (g 8), .ref (g 9), .ref (g 10), .ref (g 11), .int 0, .int 0, .int 0, .int 0, .int 0, .ref (g 12), .ref (g 13), .int 0, .ref (g 14), .ref (g 15), .long 0, .int 0, .int 0, .int 0, .ref (g 16), .ref (g 17)])), ((g 5), .inl (cB, 500, .inl f_3))] := hD
  refine lv_aload_n hx hb dX9_four_20 rfl (lv_at hl 1 rfl) ?_
  refine lv_dup hx hb dX9_four_21 rfl ?_
  refine va_get (D := (dC, dI)) (ci := 9) (v := .int 13) (C := RX9) (T := TX9) (N := 38) hx hb ht iX9 hown hK hP 0 rfl rfl 6 (by decide) (ht _ w_1268) (fun _ h9 => h9) rfl dX9_four_22 ?_
  refine lv_iconst (v := 1) hx hb dX9_four_25 (by decide) ?_
  refine lv_iadd hx hb dX9_four_26 ?_
  refine lv_topi (fun y_4 ey_4 => ?_)
  obtain rfl : y_4 = 14 := ey_4.trans (by decide)
  refine va_put (D := (dC, dI)) (ci := 9) (v := .int 14) (ty := .int) (C := RX9) (T := TX9) (N := 38) hx hb ht iX9 tyX9 tyX9_ok nmX9 hown hK hP hD hS 0 rfl rfl 6 (by decide) (ht _ w_1268) (fun _ h9 => h9) rfl (by decide +kernel) rfl rfl (Nat.le_of_ble_eq_true rfl) dX9_four_27 (fun H locs hP hD hS => ?_)
  have hP : va_P (dC, dI) vwCl [((g 0), .inr (9, [.int 0, .ref (g 1), .ref (g 2), .ref (g 3), .ref (g 4), .ref (g 5), .int 14, .int 0, .int 0, .int 0, .int 0, .long 0, .int 0, .int 0, .int 0, .int (-1), .ref (g 6), .ref (g 7), .ref (g 8), .ref (g 9), .ref (g 10), .ref (g 11), .int 0, .int 0, .int 0, .int 0, .int 0, .ref (g 12), .ref (g 13), .int 0, .ref (g 14), .ref (g 15), .long 0, .int 0, .int 0, .int 0, .ref (g 16), .ref (g 17)])), ((g 5), .inl (cB, 500, .inl f_3))] H := hP
  have hD : va_D A [((g 0), .inr (9, [.int 0, .ref (g 1), .ref (g 2), .ref (g 3), .ref (g 4), .ref (g 5), .int 14, .int 0, .int 0, .int 0, .int 0, .long 0, .int 0, .int 0, .int 0, .int (-1), .ref (g 6), .ref (g 7), .ref (g 8), .ref (g 9), .ref (g 10), .ref (g 11), .int 0, .int 0, .int 0, .int 0, .int 0, .ref (g 12), .ref (g 13), .int 0, .ref (g 14), .ref (g 15), .long 0, .int 0, .int 0, .int 0, .ref (g 16), .ref (g 17)])), ((g 5), .inl (cB, 500, .inl f_3))] := hD
  refine lv_iinc (v := 8) (lv' := [(2, .int 8), (0, .ref (g 0)), (1, .int p0)]) hx hb dX9_four_30 hl (k := 0) rfl (by decide) (by decide) rfl (fun ls hl => ?_)
  refine lv_goto (tgt := 3) hx hb dX9_four_33 (by decide) ?_
  refine lv_iload_n hx hb dX9_four_3 rfl (lv_at hl 0 rfl) ?_
  refine lv_if_lt (tgt := 36) hx hb dX9_four_4 (by decide) (fun c9 => by first | exact absurd c9 (by decide) | exact absurd (by decide) c9) (fun _ => ?_)
  refine lv_aload_n hx hb dX9_four_7 rfl (lv_at hl 1 rfl) ?_
  refine va_get (D := (dC, dI)) (ci := 9) (v := .ref (g 5)) (C := RX9) (T := TX9) (N := 38) hx hb ht iX9 hown hK hP 0 rfl rfl 5 (by decide) (ht _ w_1267) (fun _ h9 => h9) rfl dX9_four_8 ?_
  refine lv_aload_n hx hb dX9_four_11 rfl (lv_at hl 1 rfl) ?_
  refine va_get (D := (dC, dI)) (ci := 9) (v := .int 14) (C := RX9) (T := TX9) (N := 38) hx hb ht iX9 hown hK hP 0 rfl rfl 6 (by decide) (ht _ w_1268) (fun _ h9 => h9) rfl dX9_four_12 ?_
  refine lv_iload_n hx hb dX9_four_15 rfl (lv_at hl 2 rfl) ?_
  refine lv_iload_n hx hb dX9_four_16 rfl (lv_at hl 0 rfl) ?_
  refine lv_ishr hx hb dX9_four_17 ?_
  refine lv_i2b (v := (Int8.toInt32 (Int32.toInt8 (p0 >>> (8 &&& 31))))) hx hb dX9_four_18 rfl ?_
  refine va_bast hx hb hK hP hD hS 1 0 rfl rfl (by unfold vp_in; decide) dX9_four_19 (fun H locs hP hD hS => ?_)
  obtain ⟨f_5, ef_5⟩ : ∃ z : Nat → Int32, z = upd f_3 (Int32.toNatClampNeg 14) (vp_nar .byte (Int8.toInt32 (Int32.toInt8 (p0 >>> (8 &&& 31))))) := ⟨_, rfl⟩
  rw [← ef_5] at hP hD
  have hP : va_P (dC, dI) vwCl [((g 0), .inr (9, [.int 0, .ref (g 1), .ref (g 2), .ref (g 3), .ref (g 4), .ref (g 5), .int 14, .int 0, .int 0, .int 0, .int 0, .long 0, .int 0, .int 0, .int 0, .int (-1), .ref (g 6), .ref (g 7), .ref (g 8), .ref (g 9), .ref (g 10), .ref (g 11), .int 0, .int 0, .int 0, .int 0, .int 0, .ref (g 12), .ref (g 13), .int 0, .ref (g 14), .ref (g 15), .long 0, .int 0, .int 0, .int 0, .ref (g 16), .ref (g 17)])), ((g 5), .inl (cB, 500, .inl f_5))] H := hP
  have hD : va_D A [((g 0), .inr (9, [.int 0, .ref (g 1), .ref (g 2), .ref (g 3), .ref (g 4), .ref (g 5), .int 14, .int 0, .int 0, .int 0, .int 0, .long 0, .int 0, .int 0, .int 0, .int (-1), .ref (g 6), .ref (g 7), .ref (g 8), .ref (g 9), .ref (g 10), .ref (g 11), .int 0, .int 0, .int 0, .int 0, .int 0, .ref (g 12), .ref (g 13), .int 0, .ref (g 14), .ref (g 15), .long 0, .int 0, .int 0, .int 0, .ref (g 16), .ref (g 17)])), ((g 5), .inl (cB, 500, .inl f_5))] := hD
  refine lv_aload_n hx hb dX9_four_20 rfl (lv_at hl 1 rfl) ?_
  refine lv_dup hx hb dX9_four_21 rfl ?_
  refine va_get (D := (dC, dI)) (ci := 9) (v := .int 14) (C := RX9) (T := TX9) (N := 38) hx hb ht iX9 hown hK hP 0 rfl rfl 6 (by decide) (ht _ w_1268) (fun _ h9 => h9) rfl dX9_four_22 ?_
  refine lv_iconst (v := 1) hx hb dX9_four_25 (by decide) ?_
  refine lv_iadd hx hb dX9_four_26 ?_
  refine lv_topi (fun y_6 ey_6 => ?_)
  obtain rfl : y_6 = 15 := ey_6.trans (by decide)
  refine va_put (D := (dC, dI)) (ci := 9) (v := .int 15) (ty := .int) (C := RX9) (T := TX9) (N := 38) hx hb ht iX9 tyX9 tyX9_ok nmX9 hown hK hP hD hS 0 rfl rfl 6 (by decide) (ht _ w_1268) (fun _ h9 => h9) rfl (by decide +kernel) rfl rfl (Nat.le_of_ble_eq_true rfl) dX9_four_27 (fun H locs hP hD hS => ?_)
  have hP : va_P (dC, dI) vwCl [((g 0), .inr (9, [.int 0, .ref (g 1), .ref (g 2), .ref (g 3), .ref (g 4), .ref (g 5), .int 15, .int 0, .int 0, .int 0, .int 0, .long 0, .int 0, .int 0, .int 0, .int (-1), .ref (g 6), .ref (g 7), .ref (g 8), .ref (g 9), .ref (g 10), .ref (g 11), .int 0, .int 0, .int 0, .int 0, .int 0, .ref (g 12), .ref (g 13), .int 0, .ref (g 14), .ref (g 15), .long 0, .int 0, .int 0, .int 0, .ref (g 16), .ref (g 17)])), ((g 5), .inl (cB, 500, .inl f_5))] H := hP
  have hD : va_D A [((g 0), .inr (9, [.int 0, .ref (g 1), .ref (g 2), .ref (g 3), .ref (g 4), .ref (g 5), .int 15, .int 0, .int 0, .int 0, .int 0, .long 0, .int 0, .int 0, .int 0, .int (-1), .ref (g 6), .ref (g 7), .ref (g 8), .ref (g 9), .ref (g 10), .ref (g 11), .int 0, .int 0, .int 0, .int 0, .int 0, .ref (g 12), .ref (g 13), .int 0, .ref (g 14), .ref (g 15), .long 0, .int 0, .int 0, .int 0, .ref (g 16), .ref (g 17)])), ((g 5), .inl (cB, 500, .inl f_5))] := hD
  refine lv_iinc (v := 0) (lv' := [(2, .int 0), (0, .ref (g 0)), (1, .int p0)]) hx hb dX9_four_30 hl (k := 0) rfl (by decide) (by decide) rfl (fun ls hl => ?_)
  refine lv_goto (tgt := 3) hx hb dX9_four_33 (by decide) ?_
  refine lv_iload_n hx hb dX9_four_3 rfl (lv_at hl 0 rfl) ?_
  refine lv_if_lt (tgt := 36) hx hb dX9_four_4 (by decide) (fun c9 => by first | exact absurd c9 (by decide) | exact absurd (by decide) c9) (fun _ => ?_)
  refine lv_aload_n hx hb dX9_four_7 rfl (lv_at hl 1 rfl) ?_
  refine va_get (D := (dC, dI)) (ci := 9) (v := .ref (g 5)) (C := RX9) (T := TX9) (N := 38) hx hb ht iX9 hown hK hP 0 rfl rfl 5 (by decide) (ht _ w_1267) (fun _ h9 => h9) rfl dX9_four_8 ?_
  refine lv_aload_n hx hb dX9_four_11 rfl (lv_at hl 1 rfl) ?_
  refine va_get (D := (dC, dI)) (ci := 9) (v := .int 15) (C := RX9) (T := TX9) (N := 38) hx hb ht iX9 hown hK hP 0 rfl rfl 6 (by decide) (ht _ w_1268) (fun _ h9 => h9) rfl dX9_four_12 ?_
  refine lv_iload_n hx hb dX9_four_15 rfl (lv_at hl 2 rfl) ?_
  refine lv_iload_n hx hb dX9_four_16 rfl (lv_at hl 0 rfl) ?_
  refine lv_ishr hx hb dX9_four_17 ?_
  refine lv_i2b (v := (Int8.toInt32 (Int32.toInt8 (p0 >>> (0 &&& 31))))) hx hb dX9_four_18 rfl ?_
  refine va_bast hx hb hK hP hD hS 1 0 rfl rfl (by unfold vp_in; decide) dX9_four_19 (fun H locs hP hD hS => ?_)
  obtain ⟨f_7, ef_7⟩ : ∃ z : Nat → Int32, z = upd f_5 (Int32.toNatClampNeg 15) (vp_nar .byte (Int8.toInt32 (Int32.toInt8 (p0 >>> (0 &&& 31))))) := ⟨_, rfl⟩
  rw [← ef_7] at hP hD
  have hP : va_P (dC, dI) vwCl [((g 0), .inr (9, [.int 0, .ref (g 1), .ref (g 2), .ref (g 3), .ref (g 4), .ref (g 5), .int 15, .int 0, .int 0, .int 0, .int 0, .long 0, .int 0, .int 0, .int 0, .int (-1), .ref (g 6), .ref (g 7), .ref (g 8), .ref (g 9), .ref (g 10), .ref (g 11), .int 0, .int 0, .int 0, .int 0, .int 0, .ref (g 12), .ref (g 13), .int 0, .ref (g 14), .ref (g 15), .long 0, .int 0, .int 0, .int 0, .ref (g 16), .ref (g 17)])), ((g 5), .inl (cB, 500, .inl f_7))] H := hP
  have hD : va_D A [((g 0), .inr (9, [.int 0, .ref (g 1), .ref (g 2), .ref (g 3), .ref (g 4), .ref (g 5), .int 15, .int 0, .int 0, .int 0, .int 0, .long 0, .int 0, .int 0, .int 0, .int (-1), .ref (g 6), .ref (g 7), .ref (g 8), .ref (g 9), .ref (g 10), .ref (g 11), .int 0, .int 0, .int 0, .int 0, .int 0, .ref (g 12), .ref (g 13), .int 0, .ref (g 14), .ref (g 15), .long 0, .int 0, .int 0, .int 0, .ref (g 16), .ref (g 17)])), ((g 5), .inl (cB, 500, .inl f_7))] := hD
  refine lv_aload_n hx hb dX9_four_20 rfl (lv_at hl 1 rfl) ?_
  refine lv_dup hx hb dX9_four_21 rfl ?_
  refine va_get (D := (dC, dI)) (ci := 9) (v := .int 15) (C := RX9) (T := TX9) (N := 38) hx hb ht iX9 hown hK hP 0 rfl rfl 6 (by decide) (ht _ w_1268) (fun _ h9 => h9) rfl dX9_four_22 ?_
  refine lv_iconst (v := 1) hx hb dX9_four_25 (by decide) ?_
  refine lv_iadd hx hb dX9_four_26 ?_
  refine lv_topi (fun y_8 ey_8 => ?_)
  obtain rfl : y_8 = 16 := ey_8.trans (by decide)
  refine va_put (D := (dC, dI)) (ci := 9) (v := .int 16) (ty := .int) (C := RX9) (T := TX9) (N := 38) hx hb ht iX9 tyX9 tyX9_ok nmX9 hown hK hP hD hS 0 rfl rfl 6 (by decide) (ht _ w_1268) (fun _ h9 => h9) rfl (by decide +kernel) rfl rfl (Nat.le_of_ble_eq_true rfl) dX9_four_27 (fun H locs hP hD hS => ?_)
  have hP : va_P (dC, dI) vwCl [((g 0), .inr (9, [.int 0, .ref (g 1), .ref (g 2), .ref (g 3), .ref (g 4), .ref (g 5), .int 16, .int 0, .int 0, .int 0, .int 0, .long 0, .int 0, .int 0, .int 0, .int (-1), .ref (g 6), .ref (g 7), .ref (g 8), .ref (g 9), .ref (g 10), .ref (g 11), .int 0, .int 0, .int 0, .int 0, .int 0, .ref (g 12), .ref (g 13), .int 0, .ref (g 14), .ref (g 15), .long 0, .int 0, .int 0, .int 0, .ref (g 16), .ref (g 17)])), ((g 5), .inl (cB, 500, .inl f_7))] H := hP
  have hD : va_D A [((g 0), .inr (9, [.int 0, .ref (g 1), .ref (g 2), .ref (g 3), .ref (g 4), .ref (g 5), .int 16, .int 0, .int 0, .int 0, .int 0, .long 0, .int 0, .int 0, .int 0, .int (-1), .ref (g 6), .ref (g 7), .ref (g 8), .ref (g 9), .ref (g 10), .ref (g 11), .int 0, .int 0, .int 0, .int 0, .int 0, .ref (g 12), .ref (g 13), .int 0, .ref (g 14), .ref (g 15), .long 0, .int 0, .int 0, .int 0, .ref (g 16), .ref (g 17)])), ((g 5), .inl (cB, 500, .inl f_7))] := hD
  refine lv_iinc (v := (-8)) (lv' := [(2, .int (-8)), (0, .ref (g 0)), (1, .int p0)]) hx hb dX9_four_30 hl (k := 0) rfl (by decide) (by decide) rfl (fun ls hl => ?_)
  refine lv_goto (tgt := 3) hx hb dX9_four_33 (by decide) ?_
  refine lv_iload_n hx hb dX9_four_3 rfl (lv_at hl 0 rfl) ?_
  refine lv_if_lt (tgt := 36) hx hb dX9_four_4 (by decide) (fun _ => ?_) (fun c9 => by first | exact absurd (by decide) c9 | exact absurd c9 (by decide))
  have hP9 := hP.sub (ws' := [((g 0), .inr (9, [.int 0, .ref (g 1), .ref (g 2), .ref (g 3), .ref (g 4), .ref (g 5), .int 16, .int 0, .int 0, .int 0, .int 0, .long 0, .int 0, .int 0, .int 0, .int (-1), .ref (g 6), .ref (g 7), .ref (g 8), .ref (g 9), .ref (g 10), .ref (g 11), .int 0, .int 0, .int 0, .int 0, .int 0, .ref (g 12), .ref (g 13), .int 0, .ref (g 14), .ref (g 15), .long 0, .int 0, .int 0, .int 0, .ref (g 16), .ref (g 17)])), ((g 5), .inl (cB, 500, .inl f_7))]) [0, 1] rfl
  have hD9 := hD.sub (ws' := [((g 0), .inr (9, [.int 0, .ref (g 1), .ref (g 2), .ref (g 3), .ref (g 4), .ref (g 5), .int 16, .int 0, .int 0, .int 0, .int 0, .long 0, .int 0, .int 0, .int 0, .int (-1), .ref (g 6), .ref (g 7), .ref (g 8), .ref (g 9), .ref (g 10), .ref (g 11), .int 0, .int 0, .int 0, .int 0, .int 0, .ref (g 12), .ref (g 13), .int 0, .ref (g 14), .ref (g 15), .long 0, .int 0, .int 0, .int 0, .ref (g 16), .ref (g 17)])), ((g 5), .inl (cB, 500, .inl f_7))]) [0, 1] (by decide) rfl
  refine W.widen (k := 0) (n := 0) (Nat.le_of_ble_eq_true rfl) (Nat.le_of_ble_eq_true rfl) ?_
  exact W.vret hx hb hr (fun t ht hW => ⟨⟨f_7, rfl, trivial, ⟨by rw [ht]; exact hP9, hD9⟩⟩, hS.F ht⟩) hS.2.2 dX9_four_36
set_option maxHeartbeats 4000000 in
set_option maxRecDepth 100000 in
theorem k_X9_four_16 (l : Launch) (dC : Nat → ClassId) (dI : Nat → Nat → Nat) (cB cI cJ cZ cL : ClassId) (sz : Nat) (g : Nat → Nat) (f : Nat → Int32) (p0 : Int32) : Met l yX9_four (wy yX9_four cX9_four 3 none) ({ frames := 0, cells := 0, slots := 0, locals := 0 }) (va_Pc [.ref (g 0), .int p0] (fun U => U.heap.size = sz ∧ va_P (dC, dI) vwCl [((g 0), .inr (9, [.int 0, .ref (g 1), .ref (g 2), .ref (g 3), .ref (g 4), .ref (g 5), .int 16, .int 0, .int 0, .int 0, .int 0, .long 0, .int 0, .int 0, .int 0, .int (-1), .ref (g 6), .ref (g 7), .ref (g 8), .ref (g 9), .ref (g 10), .ref (g 11), .int 0, .int 0, .int 0, .int 0, .int 0, .ref (g 12), .ref (g 13), .int 0, .ref (g 14), .ref (g 15), .long 0, .int 0, .int 0, .int 0, .ref (g 16), .ref (g 17)])), ((g 5), .inl (cB, 500, .inl f))] U.heap ∧ va_K (dC, dI) vwCl (tyL cB cI cJ cZ cL) U ∧ va_D (fun _ => True) [((g 0), .inr (9, [.int 0, .ref (g 1), .ref (g 2), .ref (g 3), .ref (g 4), .ref (g 5), .int 16, .int 0, .int 0, .int 0, .int 0, .long 0, .int 0, .int 0, .int 0, .int (-1), .ref (g 6), .ref (g 7), .ref (g 8), .ref (g 9), .ref (g 10), .ref (g 11), .int 0, .int 0, .int 0, .int 0, .int 0, .ref (g 12), .ref (g 13), .int 0, .ref (g 14), .ref (g 15), .long 0, .int 0, .int 0, .int 0, .ref (g 16), .ref (g 17)])), ((g 5), .inl (cB, 500, .inl f))])) (va_Qv (fun _ => True) (fun (u : Nat → Int32) t => va_P (dC, dI) vwCl [((g 0), .inr (9, [.int 0, .ref (g 1), .ref (g 2), .ref (g 3), .ref (g 4), .ref (g 5), .int 20, .int 0, .int 0, .int 0, .int 0, .long 0, .int 0, .int 0, .int 0, .int (-1), .ref (g 6), .ref (g 7), .ref (g 8), .ref (g 9), .ref (g 10), .ref (g 11), .int 0, .int 0, .int 0, .int 0, .int 0, .ref (g 12), .ref (g 13), .int 0, .ref (g 14), .ref (g 15), .long 0, .int 0, .int 0, .int 0, .ref (g 16), .ref (g 17)])), ((g 5), .inl (cB, 500, .inl u))] t.heap ∧ va_D (va_A [((g 0), .inr (9, [.int 0, .ref (g 1), .ref (g 2), .ref (g 3), .ref (g 4), .ref (g 5), .int 16, .int 0, .int 0, .int 0, .int 0, .long 0, .int 0, .int 0, .int 0, .int (-1), .ref (g 6), .ref (g 7), .ref (g 8), .ref (g 9), .ref (g 10), .ref (g 11), .int 0, .int 0, .int 0, .int 0, .int 0, .ref (g 12), .ref (g 13), .int 0, .ref (g 14), .ref (g 15), .long 0, .int 0, .int 0, .int 0, .ref (g 16), .ref (g 17)])), ((g 5), .inl (cB, 500, .inl f))] sz) [((g 0), .inr (9, [.int 0, .ref (g 1), .ref (g 2), .ref (g 3), .ref (g 4), .ref (g 5), .int 20, .int 0, .int 0, .int 0, .int 0, .long 0, .int 0, .int 0, .int 0, .int (-1), .ref (g 6), .ref (g 7), .ref (g 8), .ref (g 9), .ref (g 10), .ref (g 11), .int 0, .int 0, .int 0, .int 0, .int 0, .ref (g 12), .ref (g 13), .int 0, .ref (g 14), .ref (g 15), .long 0, .int 0, .int 0, .int 0, .ref (g 16), .ref (g 17)])), ((g 5), .inl (cB, 500, .inl u))]) (va_A [((g 0), .inr (9, [.int 0, .ref (g 1), .ref (g 2), .ref (g 3), .ref (g 4), .ref (g 5), .int 16, .int 0, .int 0, .int 0, .int 0, .long 0, .int 0, .int 0, .int 0, .int (-1), .ref (g 6), .ref (g 7), .ref (g 8), .ref (g 9), .ref (g 10), .ref (g 11), .int 0, .int 0, .int 0, .int 0, .int 0, .ref (g 12), .ref (g 13), .int 0, .ref (g 14), .ref (g 15), .long 0, .int 0, .int 0, .int 0, .ref (g 16), .ref (g 17)])), ((g 5), .inl (cB, 500, .inl f))] sz)) 0 0 (va_A [((g 0), .inr (9, [.int 0, .ref (g 1), .ref (g 2), .ref (g 3), .ref (g 4), .ref (g 5), .int 16, .int 0, .int 0, .int 0, .int 0, .long 0, .int 0, .int 0, .int 0, .int (-1), .ref (g 6), .ref (g 7), .ref (g 8), .ref (g 9), .ref (g 10), .ref (g 11), .int 0, .int 0, .int 0, .int 0, .int 0, .ref (g 12), .ref (g 13), .int 0, .ref (g 14), .ref (g 15), .long 0, .int 0, .int 0, .int 0, .ref (g 16), .ref (g 17)])), ((g 5), .inl (cB, 500, .inl f))] sz) := by
  refine Met.ofW (cc := cX9_four) (maxL := 3) (ret := none) (by decide) rfl ?_
  intro p e s m args below meth c s₁ B hml hv
  obtain ⟨rfl, hsz, hP, hK, hD0⟩ := hv
  have hx := B.exec
  have hb := B.bytes
  have hr := B.returns
  have ht : ∀ w ∈ lw_ok, w.before _ s = true := fun w h => atoms_spec (ws := wy yX9_four cX9_four 3 none) B.pre w (List.mem_cons_of_mem _ h)
  have hown : s.vm.findClass RX9 = some m.cls := findClass_of_methodNamed B.named
  have hlocks := B.notSynchronized
  subst hsz
  have hD := hD0.self (sz := s.heap.size)
  generalize hAe : va_A [((g 0), .inr (9, [.int 0, .ref (g 1), .ref (g 2), .ref (g 3), .ref (g 4), .ref (g 5), .int 16, .int 0, .int 0, .int 0, .int 0, .long 0, .int 0, .int 0, .int 0, .int (-1), .ref (g 6), .ref (g 7), .ref (g 8), .ref (g 9), .ref (g 10), .ref (g 11), .int 0, .int 0, .int 0, .int 0, .int 0, .ref (g 12), .ref (g 13), .int 0, .ref (g 14), .ref (g 15), .long 0, .int 0, .int 0, .int 0, .ref (g 16), .ref (g 17)])), ((g 5), .inl (cB, 500, .inl f))] s.heap.size = A at hD ⊢
  have hA : ∀ q : Nat, s.heap.size ≤ q → A q := fun q h => by rw [← hAe]; exact Or.inr h
  have hS : va_S A s.heap s.heap [] := va_S.rf
  have hl := lv_entry ([.ref (g 0), .int p0]) (n := 3) (Nat.le_of_ble_eq_true rfl)
  rw [lg_entry_eq]
  generalize (lg_sl ([.ref (g 0), .int p0]) ++ List.replicate (3 - (lg_sl ([.ref (g 0), .int p0])).length) Slot.unset).toArray = ls at hl ⊢
  have hl : lv_has ls 3 [(0, .ref (g 0)), (1, .int p0)] := hl
  have hP : va_P (dC, dI) vwCl [((g 0), .inr (9, [.int 0, .ref (g 1), .ref (g 2), .ref (g 3), .ref (g 4), .ref (g 5), .int 16, .int 0, .int 0, .int 0, .int 0, .long 0, .int 0, .int 0, .int 0, .int (-1), .ref (g 6), .ref (g 7), .ref (g 8), .ref (g 9), .ref (g 10), .ref (g 11), .int 0, .int 0, .int 0, .int 0, .int 0, .ref (g 12), .ref (g 13), .int 0, .ref (g 14), .ref (g 15), .long 0, .int 0, .int 0, .int 0, .ref (g 16), .ref (g 17)])), ((g 5), .inl (cB, 500, .inl f))] s.heap := hP
  have hD : va_D A [((g 0), .inr (9, [.int 0, .ref (g 1), .ref (g 2), .ref (g 3), .ref (g 4), .ref (g 5), .int 16, .int 0, .int 0, .int 0, .int 0, .long 0, .int 0, .int 0, .int 0, .int (-1), .ref (g 6), .ref (g 7), .ref (g 8), .ref (g 9), .ref (g 10), .ref (g 11), .int 0, .int 0, .int 0, .int 0, .int 0, .ref (g 12), .ref (g 13), .int 0, .ref (g 14), .ref (g 15), .long 0, .int 0, .int 0, .int 0, .ref (g 16), .ref (g 17)])), ((g 5), .inl (cB, 500, .inl f))] := hD
  refine lv_bipush (v := 24) hx hb dX9_four_0 (by decide) ?_
  refine lv_istore_n (lv' := [(2, .int 24), (0, .ref (g 0)), (1, .int p0)]) hx hb dX9_four_2 rfl hl (by decide) rfl (fun ls hl => ?_)
  refine lv_iload_n hx hb dX9_four_3 rfl (lv_at hl 0 rfl) ?_
  refine lv_if_lt (tgt := 36) hx hb dX9_four_4 (by decide) (fun c9 => by first | exact absurd c9 (by decide) | exact absurd (by decide) c9) (fun _ => ?_)
  refine lv_aload_n hx hb dX9_four_7 rfl (lv_at hl 1 rfl) ?_
  refine va_get (D := (dC, dI)) (ci := 9) (v := .ref (g 5)) (C := RX9) (T := TX9) (N := 38) hx hb ht iX9 hown hK hP 0 rfl rfl 5 (by decide) (ht _ w_1267) (fun _ h9 => h9) rfl dX9_four_8 ?_
  refine lv_aload_n hx hb dX9_four_11 rfl (lv_at hl 1 rfl) ?_
  refine va_get (D := (dC, dI)) (ci := 9) (v := .int 16) (C := RX9) (T := TX9) (N := 38) hx hb ht iX9 hown hK hP 0 rfl rfl 6 (by decide) (ht _ w_1268) (fun _ h9 => h9) rfl dX9_four_12 ?_
  refine lv_iload_n hx hb dX9_four_15 rfl (lv_at hl 2 rfl) ?_
  refine lv_iload_n hx hb dX9_four_16 rfl (lv_at hl 0 rfl) ?_
  refine lv_ishr hx hb dX9_four_17 ?_
  refine lv_i2b (v := (Int8.toInt32 (Int32.toInt8 (p0 >>> (24 &&& 31))))) hx hb dX9_four_18 rfl ?_
  refine va_bast hx hb hK hP hD hS 1 0 rfl rfl (by unfold vp_in; decide) dX9_four_19 (fun H locs hP hD hS => ?_)
  obtain ⟨f_1, ef_1⟩ : ∃ z : Nat → Int32, z = upd f (Int32.toNatClampNeg 16) (vp_nar .byte (Int8.toInt32 (Int32.toInt8 (p0 >>> (24 &&& 31))))) := ⟨_, rfl⟩
  rw [← ef_1] at hP hD
  have hP : va_P (dC, dI) vwCl [((g 0), .inr (9, [.int 0, .ref (g 1), .ref (g 2), .ref (g 3), .ref (g 4), .ref (g 5), .int 16, .int 0, .int 0, .int 0, .int 0, .long 0, .int 0, .int 0, .int 0, .int (-1), .ref (g 6), .ref (g 7), .ref (g 8), .ref (g 9), .ref (g 10), .ref (g 11), .int 0, .int 0, .int 0, .int 0, .int 0, .ref (g 12), .ref (g 13), .int 0, .ref (g 14), .ref (g 15), .long 0, .int 0, .int 0, .int 0, .ref (g 16), .ref (g 17)])), ((g 5), .inl (cB, 500, .inl f_1))] H := hP
  have hD : va_D A [((g 0), .inr (9, [.int 0, .ref (g 1), .ref (g 2), .ref (g 3), .ref (g 4), .ref (g 5), .int 16, .int 0, .int 0, .int 0, .int 0, .long 0, .int 0, .int 0, .int 0, .int (-1), .ref (g 6), .ref (g 7), .ref (g 8), .ref (g 9), .ref (g 10), .ref (g 11), .int 0, .int 0, .int 0, .int 0, .int 0, .ref (g 12), .ref (g 13), .int 0, .ref (g 14), .ref (g 15), .long 0, .int 0, .int 0, .int 0, .ref (g 16), .ref (g 17)])), ((g 5), .inl (cB, 500, .inl f_1))] := hD
  refine lv_aload_n hx hb dX9_four_20 rfl (lv_at hl 1 rfl) ?_
  refine lv_dup hx hb dX9_four_21 rfl ?_
  refine va_get (D := (dC, dI)) (ci := 9) (v := .int 16) (C := RX9) (T := TX9) (N := 38) hx hb ht iX9 hown hK hP 0 rfl rfl 6 (by decide) (ht _ w_1268) (fun _ h9 => h9) rfl dX9_four_22 ?_
  refine lv_iconst (v := 1) hx hb dX9_four_25 (by decide) ?_
  refine lv_iadd hx hb dX9_four_26 ?_
  refine lv_topi (fun y_2 ey_2 => ?_)
  obtain rfl : y_2 = 17 := ey_2.trans (by decide)
  refine va_put (D := (dC, dI)) (ci := 9) (v := .int 17) (ty := .int) (C := RX9) (T := TX9) (N := 38) hx hb ht iX9 tyX9 tyX9_ok nmX9 hown hK hP hD hS 0 rfl rfl 6 (by decide) (ht _ w_1268) (fun _ h9 => h9) rfl (by decide +kernel) rfl rfl (Nat.le_of_ble_eq_true rfl) dX9_four_27 (fun H locs hP hD hS => ?_)
  have hP : va_P (dC, dI) vwCl [((g 0), .inr (9, [.int 0, .ref (g 1), .ref (g 2), .ref (g 3), .ref (g 4), .ref (g 5), .int 17, .int 0, .int 0, .int 0, .int 0, .long 0, .int 0, .int 0, .int 0, .int (-1), .ref (g 6), .ref (g 7), .ref (g 8), .ref (g 9), .ref (g 10), .ref (g 11), .int 0, .int 0, .int 0, .int 0, .int 0, .ref (g 12), .ref (g 13), .int 0, .ref (g 14), .ref (g 15), .long 0, .int 0, .int 0, .int 0, .ref (g 16), .ref (g 17)])), ((g 5), .inl (cB, 500, .inl f_1))] H := hP
  have hD : va_D A [((g 0), .inr (9, [.int 0, .ref (g 1), .ref (g 2), .ref (g 3), .ref (g 4), .ref (g 5), .int 17, .int 0, .int 0, .int 0, .int 0, .long 0, .int 0, .int 0, .int 0, .int (-1), .ref (g 6), .ref (g 7), .ref (g 8), .ref (g 9), .ref (g 10), .ref (g 11), .int 0, .int 0, .int 0, .int 0, .int 0, .ref (g 12), .ref (g 13), .int 0, .ref (g 14), .ref (g 15), .long 0, .int 0, .int 0, .int 0, .ref (g 16), .ref (g 17)])), ((g 5), .inl (cB, 500, .inl f_1))] := hD
  refine lv_iinc (v := 16) (lv' := [(2, .int 16), (0, .ref (g 0)), (1, .int p0)]) hx hb dX9_four_30 hl (k := 0) rfl (by decide) (by decide) rfl (fun ls hl => ?_)
  refine lv_goto (tgt := 3) hx hb dX9_four_33 (by decide) ?_
  refine lv_iload_n hx hb dX9_four_3 rfl (lv_at hl 0 rfl) ?_
  refine lv_if_lt (tgt := 36) hx hb dX9_four_4 (by decide) (fun c9 => by first | exact absurd c9 (by decide) | exact absurd (by decide) c9) (fun _ => ?_)
  refine lv_aload_n hx hb dX9_four_7 rfl (lv_at hl 1 rfl) ?_
  refine va_get (D := (dC, dI)) (ci := 9) (v := .ref (g 5)) (C := RX9) (T := TX9) (N := 38) hx hb ht iX9 hown hK hP 0 rfl rfl 5 (by decide) (ht _ w_1267) (fun _ h9 => h9) rfl dX9_four_8 ?_
  refine lv_aload_n hx hb dX9_four_11 rfl (lv_at hl 1 rfl) ?_
  refine va_get (D := (dC, dI)) (ci := 9) (v := .int 17) (C := RX9) (T := TX9) (N := 38) hx hb ht iX9 hown hK hP 0 rfl rfl 6 (by decide) (ht _ w_1268) (fun _ h9 => h9) rfl dX9_four_12 ?_
  refine lv_iload_n hx hb dX9_four_15 rfl (lv_at hl 2 rfl) ?_
  refine lv_iload_n hx hb dX9_four_16 rfl (lv_at hl 0 rfl) ?_
  refine lv_ishr hx hb dX9_four_17 ?_
  refine lv_i2b (v := (Int8.toInt32 (Int32.toInt8 (p0 >>> (16 &&& 31))))) hx hb dX9_four_18 rfl ?_
  refine va_bast hx hb hK hP hD hS 1 0 rfl rfl (by unfold vp_in; decide) dX9_four_19 (fun H locs hP hD hS => ?_)
  obtain ⟨f_3, ef_3⟩ : ∃ z : Nat → Int32, z = upd f_1 (Int32.toNatClampNeg 17) (vp_nar .byte (Int8.toInt32 (Int32.toInt8 (p0 >>> (16 &&& 31))))) := ⟨_, rfl⟩
  rw [← ef_3] at hP hD
  have hP : va_P (dC, dI) vwCl [((g 0), .inr (9, [.int 0, .ref (g 1), .ref (g 2), .ref (g 3), .ref (g 4), .ref (g 5), .int 17, .int 0, .int 0, .int 0, .int 0, .long 0, .int 0, .int 0, .int 0, .int (-1), .ref (g 6), .ref (g 7), .ref (g 8), .ref (g 9), .ref (g 10), .ref (g 11), .int 0, .int 0, .int 0, .int 0, .int 0, .ref (g 12), .ref (g 13), .int 0, .ref (g 14), .ref (g 15), .long 0, .int 0, .int 0, .int 0, .ref (g 16), .ref (g 17)])), ((g 5), .inl (cB, 500, .inl f_3))] H := hP
  have hD : va_D A [((g 0), .inr (9, [.int 0, .ref (g 1), .ref (g 2), .ref (g 3), .ref (g 4), .ref (g 5), .int 17, .int 0, .int 0, .int 0, .int 0, .long 0, .int 0, .int 0, .int 0, .int (-1), .ref (g 6), .ref (g 7), .ref (g 8), .ref (g 9), .ref (g 10), .ref (g 11), .int 0, .int 0, .int 0, .int 0, .int 0, .ref (g 12), .ref (g 13), .int 0, .ref (g 14), .ref (g 15), .long 0, .int 0, .int 0, .int 0, .ref (g 16), .ref (g 17)])), ((g 5), .inl (cB, 500, .inl f_3))] := hD
  refine lv_aload_n hx hb dX9_four_20 rfl (lv_at hl 1 rfl) ?_
  refine lv_dup hx hb dX9_four_21 rfl ?_
  refine va_get (D := (dC, dI)) (ci := 9) (v := .int 17) (C := RX9) (T := TX9) (N := 38) hx hb ht iX9 hown hK hP 0 rfl rfl 6 (by decide) (ht _ w_1268) (fun _ h9 => h9) rfl dX9_four_22 ?_
  refine lv_iconst (v := 1) hx hb dX9_four_25 (by decide) ?_
  refine lv_iadd hx hb dX9_four_26 ?_
  refine lv_topi (fun y_4 ey_4 => ?_)
  obtain rfl : y_4 = 18 := ey_4.trans (by decide)
  refine va_put (D := (dC, dI)) (ci := 9) (v := .int 18) (ty := .int) (C := RX9) (T := TX9) (N := 38) hx hb ht iX9 tyX9 tyX9_ok nmX9 hown hK hP hD hS 0 rfl rfl 6 (by decide) (ht _ w_1268) (fun _ h9 => h9) rfl (by decide +kernel) rfl rfl (Nat.le_of_ble_eq_true rfl) dX9_four_27 (fun H locs hP hD hS => ?_)
  have hP : va_P (dC, dI) vwCl [((g 0), .inr (9, [.int 0, .ref (g 1), .ref (g 2), .ref (g 3), .ref (g 4), .ref (g 5), .int 18, .int 0, .int 0, .int 0, .int 0, .long 0, .int 0, .int 0, .int 0, .int (-1), .ref (g 6), .ref (g 7), .ref (g 8), .ref (g 9), .ref (g 10), .ref (g 11), .int 0, .int 0, .int 0, .int 0, .int 0, .ref (g 12), .ref (g 13), .int 0, .ref (g 14), .ref (g 15), .long 0, .int 0, .int 0, .int 0, .ref (g 16), .ref (g 17)])), ((g 5), .inl (cB, 500, .inl f_3))] H := hP
  have hD : va_D A [((g 0), .inr (9, [.int 0, .ref (g 1), .ref (g 2), .ref (g 3), .ref (g 4), .ref (g 5), .int 18, .int 0, .int 0, .int 0, .int 0, .long 0, .int 0, .int 0, .int 0, .int (-1), .ref (g 6), .ref (g 7), .ref (g 8), .ref (g 9), .ref (g 10), .ref (g 11), .int 0, .int 0, .int 0, .int 0, .int 0, .ref (g 12), .ref (g 13), .int 0, .ref (g 14), .ref (g 15), .long 0, .int 0, .int 0, .int 0, .ref (g 16), .ref (g 17)])), ((g 5), .inl (cB, 500, .inl f_3))] := hD
  refine lv_iinc (v := 8) (lv' := [(2, .int 8), (0, .ref (g 0)), (1, .int p0)]) hx hb dX9_four_30 hl (k := 0) rfl (by decide) (by decide) rfl (fun ls hl => ?_)
  refine lv_goto (tgt := 3) hx hb dX9_four_33 (by decide) ?_
  refine lv_iload_n hx hb dX9_four_3 rfl (lv_at hl 0 rfl) ?_
  refine lv_if_lt (tgt := 36) hx hb dX9_four_4 (by decide) (fun c9 => by first | exact absurd c9 (by decide) | exact absurd (by decide) c9) (fun _ => ?_)
  refine lv_aload_n hx hb dX9_four_7 rfl (lv_at hl 1 rfl) ?_
  refine va_get (D := (dC, dI)) (ci := 9) (v := .ref (g 5)) (C := RX9) (T := TX9) (N := 38) hx hb ht iX9 hown hK hP 0 rfl rfl 5 (by decide) (ht _ w_1267) (fun _ h9 => h9) rfl dX9_four_8 ?_
  refine lv_aload_n hx hb dX9_four_11 rfl (lv_at hl 1 rfl) ?_
  refine va_get (D := (dC, dI)) (ci := 9) (v := .int 18) (C := RX9) (T := TX9) (N := 38) hx hb ht iX9 hown hK hP 0 rfl rfl 6 (by decide) (ht _ w_1268) (fun _ h9 => h9) rfl dX9_four_12 ?_
  refine lv_iload_n hx hb dX9_four_15 rfl (lv_at hl 2 rfl) ?_
  refine lv_iload_n hx hb dX9_four_16 rfl (lv_at hl 0 rfl) ?_
  refine lv_ishr hx hb dX9_four_17 ?_
  refine lv_i2b (v := (Int8.toInt32 (Int32.toInt8 (p0 >>> (8 &&& 31))))) hx hb dX9_four_18 rfl ?_
  refine va_bast hx hb hK hP hD hS 1 0 rfl rfl (by unfold vp_in; decide) dX9_four_19 (fun H locs hP hD hS => ?_)
  obtain ⟨f_5, ef_5⟩ : ∃ z : Nat → Int32, z = upd f_3 (Int32.toNatClampNeg 18) (vp_nar .byte (Int8.toInt32 (Int32.toInt8 (p0 >>> (8 &&& 31))))) := ⟨_, rfl⟩
  rw [← ef_5] at hP hD
  have hP : va_P (dC, dI) vwCl [((g 0), .inr (9, [.int 0, .ref (g 1), .ref (g 2), .ref (g 3), .ref (g 4), .ref (g 5), .int 18, .int 0, .int 0, .int 0, .int 0, .long 0, .int 0, .int 0, .int 0, .int (-1), .ref (g 6), .ref (g 7), .ref (g 8), .ref (g 9), .ref (g 10), .ref (g 11), .int 0, .int 0, .int 0, .int 0, .int 0, .ref (g 12), .ref (g 13), .int 0, .ref (g 14), .ref (g 15), .long 0, .int 0, .int 0, .int 0, .ref (g 16), .ref (g 17)])), ((g 5), .inl (cB, 500, .inl f_5))] H := hP
  have hD : va_D A [((g 0), .inr (9, [.int 0, .ref (g 1), .ref (g 2), .ref (g 3), .ref (g 4), .ref (g 5), .int 18, .int 0, .int 0, .int 0, .int 0, .long 0, .int 0, .int 0, .int 0, .int (-1), .ref (g 6), .ref (g 7), .ref (g 8), .ref (g 9), .ref (g 10), .ref (g 11), .int 0, .int 0, .int 0, .int 0, .int 0, .ref (g 12), .ref (g 13), .int 0, .ref (g 14), .ref (g 15), .long 0, .int 0, .int 0, .int 0, .ref (g 16), .ref (g 17)])), ((g 5), .inl (cB, 500, .inl f_5))] := hD
  refine lv_aload_n hx hb dX9_four_20 rfl (lv_at hl 1 rfl) ?_
  refine lv_dup hx hb dX9_four_21 rfl ?_
  refine va_get (D := (dC, dI)) (ci := 9) (v := .int 18) (C := RX9) (T := TX9) (N := 38) hx hb ht iX9 hown hK hP 0 rfl rfl 6 (by decide) (ht _ w_1268) (fun _ h9 => h9) rfl dX9_four_22 ?_
  refine lv_iconst (v := 1) hx hb dX9_four_25 (by decide) ?_
  refine lv_iadd hx hb dX9_four_26 ?_
  refine lv_topi (fun y_6 ey_6 => ?_)
  obtain rfl : y_6 = 19 := ey_6.trans (by decide)
  refine va_put (D := (dC, dI)) (ci := 9) (v := .int 19) (ty := .int) (C := RX9) (T := TX9) (N := 38) hx hb ht iX9 tyX9 tyX9_ok nmX9 hown hK hP hD hS 0 rfl rfl 6 (by decide) (ht _ w_1268) (fun _ h9 => h9) rfl (by decide +kernel) rfl rfl (Nat.le_of_ble_eq_true rfl) dX9_four_27 (fun H locs hP hD hS => ?_)
  have hP : va_P (dC, dI) vwCl [((g 0), .inr (9, [.int 0, .ref (g 1), .ref (g 2), .ref (g 3), .ref (g 4), .ref (g 5), .int 19, .int 0, .int 0, .int 0, .int 0, .long 0, .int 0, .int 0, .int 0, .int (-1), .ref (g 6), .ref (g 7), .ref (g 8), .ref (g 9), .ref (g 10), .ref (g 11), .int 0, .int 0, .int 0, .int 0, .int 0, .ref (g 12), .ref (g 13), .int 0, .ref (g 14), .ref (g 15), .long 0, .int 0, .int 0, .int 0, .ref (g 16), .ref (g 17)])), ((g 5), .inl (cB, 500, .inl f_5))] H := hP
  have hD : va_D A [((g 0), .inr (9, [.int 0, .ref (g 1), .ref (g 2), .ref (g 3), .ref (g 4), .ref (g 5), .int 19, .int 0, .int 0, .int 0, .int 0, .long 0, .int 0, .int 0, .int 0, .int (-1), .ref (g 6), .ref (g 7), .ref (g 8), .ref (g 9), .ref (g 10), .ref (g 11), .int 0, .int 0, .int 0, .int 0, .int 0, .ref (g 12), .ref (g 13), .int 0, .ref (g 14), .ref (g 15), .long 0, .int 0, .int 0, .int 0, .ref (g 16), .ref (g 17)])), ((g 5), .inl (cB, 500, .inl f_5))] := hD
  refine lv_iinc (v := 0) (lv' := [(2, .int 0), (0, .ref (g 0)), (1, .int p0)]) hx hb dX9_four_30 hl (k := 0) rfl (by decide) (by decide) rfl (fun ls hl => ?_)
  refine lv_goto (tgt := 3) hx hb dX9_four_33 (by decide) ?_
  refine lv_iload_n hx hb dX9_four_3 rfl (lv_at hl 0 rfl) ?_
  refine lv_if_lt (tgt := 36) hx hb dX9_four_4 (by decide) (fun c9 => by first | exact absurd c9 (by decide) | exact absurd (by decide) c9) (fun _ => ?_)
  refine lv_aload_n hx hb dX9_four_7 rfl (lv_at hl 1 rfl) ?_
  refine va_get (D := (dC, dI)) (ci := 9) (v := .ref (g 5)) (C := RX9) (T := TX9) (N := 38) hx hb ht iX9 hown hK hP 0 rfl rfl 5 (by decide) (ht _ w_1267) (fun _ h9 => h9) rfl dX9_four_8 ?_
  refine lv_aload_n hx hb dX9_four_11 rfl (lv_at hl 1 rfl) ?_
  refine va_get (D := (dC, dI)) (ci := 9) (v := .int 19) (C := RX9) (T := TX9) (N := 38) hx hb ht iX9 hown hK hP 0 rfl rfl 6 (by decide) (ht _ w_1268) (fun _ h9 => h9) rfl dX9_four_12 ?_
  refine lv_iload_n hx hb dX9_four_15 rfl (lv_at hl 2 rfl) ?_
  refine lv_iload_n hx hb dX9_four_16 rfl (lv_at hl 0 rfl) ?_
  refine lv_ishr hx hb dX9_four_17 ?_
  refine lv_i2b (v := (Int8.toInt32 (Int32.toInt8 (p0 >>> (0 &&& 31))))) hx hb dX9_four_18 rfl ?_
  refine va_bast hx hb hK hP hD hS 1 0 rfl rfl (by unfold vp_in; decide) dX9_four_19 (fun H locs hP hD hS => ?_)
  obtain ⟨f_7, ef_7⟩ : ∃ z : Nat → Int32, z = upd f_5 (Int32.toNatClampNeg 19) (vp_nar .byte (Int8.toInt32 (Int32.toInt8 (p0 >>> (0 &&& 31))))) := ⟨_, rfl⟩
  rw [← ef_7] at hP hD
  have hP : va_P (dC, dI) vwCl [((g 0), .inr (9, [.int 0, .ref (g 1), .ref (g 2), .ref (g 3), .ref (g 4), .ref (g 5), .int 19, .int 0, .int 0, .int 0, .int 0, .long 0, .int 0, .int 0, .int 0, .int (-1), .ref (g 6), .ref (g 7), .ref (g 8), .ref (g 9), .ref (g 10), .ref (g 11), .int 0, .int 0, .int 0, .int 0, .int 0, .ref (g 12), .ref (g 13), .int 0, .ref (g 14), .ref (g 15), .long 0, .int 0, .int 0, .int 0, .ref (g 16), .ref (g 17)])), ((g 5), .inl (cB, 500, .inl f_7))] H := hP
  have hD : va_D A [((g 0), .inr (9, [.int 0, .ref (g 1), .ref (g 2), .ref (g 3), .ref (g 4), .ref (g 5), .int 19, .int 0, .int 0, .int 0, .int 0, .long 0, .int 0, .int 0, .int 0, .int (-1), .ref (g 6), .ref (g 7), .ref (g 8), .ref (g 9), .ref (g 10), .ref (g 11), .int 0, .int 0, .int 0, .int 0, .int 0, .ref (g 12), .ref (g 13), .int 0, .ref (g 14), .ref (g 15), .long 0, .int 0, .int 0, .int 0, .ref (g 16), .ref (g 17)])), ((g 5), .inl (cB, 500, .inl f_7))] := hD
  refine lv_aload_n hx hb dX9_four_20 rfl (lv_at hl 1 rfl) ?_
  refine lv_dup hx hb dX9_four_21 rfl ?_
  refine va_get (D := (dC, dI)) (ci := 9) (v := .int 19) (C := RX9) (T := TX9) (N := 38) hx hb ht iX9 hown hK hP 0 rfl rfl 6 (by decide) (ht _ w_1268) (fun _ h9 => h9) rfl dX9_four_22 ?_
  refine lv_iconst (v := 1) hx hb dX9_four_25 (by decide) ?_
  refine lv_iadd hx hb dX9_four_26 ?_
  refine lv_topi (fun y_8 ey_8 => ?_)
  obtain rfl : y_8 = 20 := ey_8.trans (by decide)
  refine va_put (D := (dC, dI)) (ci := 9) (v := .int 20) (ty := .int) (C := RX9) (T := TX9) (N := 38) hx hb ht iX9 tyX9 tyX9_ok nmX9 hown hK hP hD hS 0 rfl rfl 6 (by decide) (ht _ w_1268) (fun _ h9 => h9) rfl (by decide +kernel) rfl rfl (Nat.le_of_ble_eq_true rfl) dX9_four_27 (fun H locs hP hD hS => ?_)
  have hP : va_P (dC, dI) vwCl [((g 0), .inr (9, [.int 0, .ref (g 1), .ref (g 2), .ref (g 3), .ref (g 4), .ref (g 5), .int 20, .int 0, .int 0, .int 0, .int 0, .long 0, .int 0, .int 0, .int 0, .int (-1), .ref (g 6), .ref (g 7), .ref (g 8), .ref (g 9), .ref (g 10), .ref (g 11), .int 0, .int 0, .int 0, .int 0, .int 0, .ref (g 12), .ref (g 13), .int 0, .ref (g 14), .ref (g 15), .long 0, .int 0, .int 0, .int 0, .ref (g 16), .ref (g 17)])), ((g 5), .inl (cB, 500, .inl f_7))] H := hP
  have hD : va_D A [((g 0), .inr (9, [.int 0, .ref (g 1), .ref (g 2), .ref (g 3), .ref (g 4), .ref (g 5), .int 20, .int 0, .int 0, .int 0, .int 0, .long 0, .int 0, .int 0, .int 0, .int (-1), .ref (g 6), .ref (g 7), .ref (g 8), .ref (g 9), .ref (g 10), .ref (g 11), .int 0, .int 0, .int 0, .int 0, .int 0, .ref (g 12), .ref (g 13), .int 0, .ref (g 14), .ref (g 15), .long 0, .int 0, .int 0, .int 0, .ref (g 16), .ref (g 17)])), ((g 5), .inl (cB, 500, .inl f_7))] := hD
  refine lv_iinc (v := (-8)) (lv' := [(2, .int (-8)), (0, .ref (g 0)), (1, .int p0)]) hx hb dX9_four_30 hl (k := 0) rfl (by decide) (by decide) rfl (fun ls hl => ?_)
  refine lv_goto (tgt := 3) hx hb dX9_four_33 (by decide) ?_
  refine lv_iload_n hx hb dX9_four_3 rfl (lv_at hl 0 rfl) ?_
  refine lv_if_lt (tgt := 36) hx hb dX9_four_4 (by decide) (fun _ => ?_) (fun c9 => by first | exact absurd (by decide) c9 | exact absurd c9 (by decide))
  have hP9 := hP.sub (ws' := [((g 0), .inr (9, [.int 0, .ref (g 1), .ref (g 2), .ref (g 3), .ref (g 4), .ref (g 5), .int 20, .int 0, .int 0, .int 0, .int 0, .long 0, .int 0, .int 0, .int 0, .int (-1), .ref (g 6), .ref (g 7), .ref (g 8), .ref (g 9), .ref (g 10), .ref (g 11), .int 0, .int 0, .int 0, .int 0, .int 0, .ref (g 12), .ref (g 13), .int 0, .ref (g 14), .ref (g 15), .long 0, .int 0, .int 0, .int 0, .ref (g 16), .ref (g 17)])), ((g 5), .inl (cB, 500, .inl f_7))]) [0, 1] rfl
  have hD9 := hD.sub (ws' := [((g 0), .inr (9, [.int 0, .ref (g 1), .ref (g 2), .ref (g 3), .ref (g 4), .ref (g 5), .int 20, .int 0, .int 0, .int 0, .int 0, .long 0, .int 0, .int 0, .int 0, .int (-1), .ref (g 6), .ref (g 7), .ref (g 8), .ref (g 9), .ref (g 10), .ref (g 11), .int 0, .int 0, .int 0, .int 0, .int 0, .ref (g 12), .ref (g 13), .int 0, .ref (g 14), .ref (g 15), .long 0, .int 0, .int 0, .int 0, .ref (g 16), .ref (g 17)])), ((g 5), .inl (cB, 500, .inl f_7))]) [0, 1] (by decide) rfl
  refine W.widen (k := 0) (n := 0) (Nat.le_of_ble_eq_true rfl) (Nat.le_of_ble_eq_true rfl) ?_
  exact W.vret hx hb hr (fun t ht hW => ⟨⟨f_7, rfl, trivial, ⟨by rw [ht]; exact hP9, hD9⟩⟩, hS.F ht⟩) hS.2.2 dX9_four_36
set_option maxHeartbeats 4000000 in
set_option maxRecDepth 100000 in
theorem k_X9_feed (l : Launch) (dC : Nat → ClassId) (dI : Nat → Nat → Nat) (cB cI cJ cZ cL : ClassId) (sz : Nat) (g : Nat → Nat) (p0 : Int32) (p1 : Int32) (p2 : Int32) (p3 : Int32) (p4 : Int32) : Met l yX9_feed (wy yX9_feed cX9_feed 6 (some .int)) ({ frames := 1, cells := 0, slots := 0, locals := 40 }) (va_Pc [.ref (g 0), .int p0, .int p1, .int p2, .int p3, .int p4] (fun U => U.heap.size = sz ∧ va_P (dC, dI) vwCl [((g 0), .inr (9, [.int 0, .ref (g 1), .ref (g 2), .ref (g 3), .ref (g 4), .ref (g 5), .int 0, .int 0, .int 0, .int 0, .int 0, .long 0, .int 0, .int 0, .int 0, .int (-1), .ref (g 6), .ref (g 7), .ref (g 8), .ref (g 9), .ref (g 10), .ref (g 11), .int 0, .int 0, .int 0, .int 0, .int 0, .ref (g 12), .ref (g 13), .int 0, .ref (g 14), .ref (g 15), .long 0, .int 0, .int 0, .int 0, .ref (g 16), .ref (g 17)])), ((g 5), .inl (cB, 500, .inl (fun _ => 0)))] U.heap ∧ va_K (dC, dI) vwCl (tyL cB cI cJ cZ cL) U ∧ va_D (fun _ => True) [((g 0), .inr (9, [.int 0, .ref (g 1), .ref (g 2), .ref (g 3), .ref (g 4), .ref (g 5), .int 0, .int 0, .int 0, .int 0, .int 0, .long 0, .int 0, .int 0, .int 0, .int (-1), .ref (g 6), .ref (g 7), .ref (g 8), .ref (g 9), .ref (g 10), .ref (g 11), .int 0, .int 0, .int 0, .int 0, .int 0, .ref (g 12), .ref (g 13), .int 0, .ref (g 14), .ref (g 15), .long 0, .int 0, .int 0, .int 0, .ref (g 16), .ref (g 17)])), ((g 5), .inl (cB, 500, .inl (fun _ => 0)))])) (va_Qi (fun r _ => r = 20) (fun (_ : Unit) _ => True) (va_A [((g 0), .inr (9, [.int 0, .ref (g 1), .ref (g 2), .ref (g 3), .ref (g 4), .ref (g 5), .int 0, .int 0, .int 0, .int 0, .int 0, .long 0, .int 0, .int 0, .int 0, .int (-1), .ref (g 6), .ref (g 7), .ref (g 8), .ref (g 9), .ref (g 10), .ref (g 11), .int 0, .int 0, .int 0, .int 0, .int 0, .ref (g 12), .ref (g 13), .int 0, .ref (g 14), .ref (g 15), .long 0, .int 0, .int 0, .int 0, .ref (g 16), .ref (g 17)])), ((g 5), .inl (cB, 500, .inl (fun _ => 0)))] sz)) 0 0 (va_A [((g 0), .inr (9, [.int 0, .ref (g 1), .ref (g 2), .ref (g 3), .ref (g 4), .ref (g 5), .int 0, .int 0, .int 0, .int 0, .int 0, .long 0, .int 0, .int 0, .int 0, .int (-1), .ref (g 6), .ref (g 7), .ref (g 8), .ref (g 9), .ref (g 10), .ref (g 11), .int 0, .int 0, .int 0, .int 0, .int 0, .ref (g 12), .ref (g 13), .int 0, .ref (g 14), .ref (g 15), .long 0, .int 0, .int 0, .int 0, .ref (g 16), .ref (g 17)])), ((g 5), .inl (cB, 500, .inl (fun _ => 0)))] sz) := by
  refine Met.ofW (cc := cX9_feed) (maxL := 6) (ret := (some .int)) (by decide) rfl ?_
  intro p e s m args below meth c s₁ B hml hv
  obtain ⟨rfl, hsz, hP, hK, hD0⟩ := hv
  have hx := B.exec
  have hb := B.bytes
  have hr := B.returns
  have ht : ∀ w ∈ lw_ok, w.before _ s = true := fun w h => atoms_spec (ws := wy yX9_feed cX9_feed 6 (some .int)) B.pre w (List.mem_cons_of_mem _ h)
  have hown : s.vm.findClass RX9 = some m.cls := findClass_of_methodNamed B.named
  have hlocks := B.notSynchronized
  subst hsz
  have hD := hD0.self (sz := s.heap.size)
  generalize hAe : va_A [((g 0), .inr (9, [.int 0, .ref (g 1), .ref (g 2), .ref (g 3), .ref (g 4), .ref (g 5), .int 0, .int 0, .int 0, .int 0, .int 0, .long 0, .int 0, .int 0, .int 0, .int (-1), .ref (g 6), .ref (g 7), .ref (g 8), .ref (g 9), .ref (g 10), .ref (g 11), .int 0, .int 0, .int 0, .int 0, .int 0, .ref (g 12), .ref (g 13), .int 0, .ref (g 14), .ref (g 15), .long 0, .int 0, .int 0, .int 0, .ref (g 16), .ref (g 17)])), ((g 5), .inl (cB, 500, .inl (fun _ => 0)))] s.heap.size = A at hD ⊢
  have hA : ∀ q : Nat, s.heap.size ≤ q → A q := fun q h => by rw [← hAe]; exact Or.inr h
  have hS : va_S A s.heap s.heap [] := va_S.rf
  have hl := lv_entry ([.ref (g 0), .int p0, .int p1, .int p2, .int p3, .int p4]) (n := 6) (Nat.le_of_ble_eq_true rfl)
  rw [lg_entry_eq]
  generalize (lg_sl ([.ref (g 0), .int p0, .int p1, .int p2, .int p3, .int p4]) ++ List.replicate (6 - (lg_sl ([.ref (g 0), .int p0, .int p1, .int p2, .int p3, .int p4])).length) Slot.unset).toArray = ls at hl ⊢
  have hl : lv_has ls 6 [(0, .ref (g 0)), (1, .int p0), (2, .int p1), (3, .int p2), (4, .int p3), (5, .int p4)] := hl
  have hP : va_P (dC, dI) vwCl [((g 0), .inr (9, [.int 0, .ref (g 1), .ref (g 2), .ref (g 3), .ref (g 4), .ref (g 5), .int 0, .int 0, .int 0, .int 0, .int 0, .long 0, .int 0, .int 0, .int 0, .int (-1), .ref (g 6), .ref (g 7), .ref (g 8), .ref (g 9), .ref (g 10), .ref (g 11), .int 0, .int 0, .int 0, .int 0, .int 0, .ref (g 12), .ref (g 13), .int 0, .ref (g 14), .ref (g 15), .long 0, .int 0, .int 0, .int 0, .ref (g 16), .ref (g 17)])), ((g 5), .inl (cB, 500, .inl (fun _ => 0)))] s.heap := hP
  have hD : va_D A [((g 0), .inr (9, [.int 0, .ref (g 1), .ref (g 2), .ref (g 3), .ref (g 4), .ref (g 5), .int 0, .int 0, .int 0, .int 0, .int 0, .long 0, .int 0, .int 0, .int 0, .int (-1), .ref (g 6), .ref (g 7), .ref (g 8), .ref (g 9), .ref (g 10), .ref (g 11), .int 0, .int 0, .int 0, .int 0, .int 0, .ref (g 12), .ref (g 13), .int 0, .ref (g 14), .ref (g 15), .long 0, .int 0, .int 0, .int 0, .ref (g 16), .ref (g 17)])), ((g 5), .inl (cB, 500, .inl (fun _ => 0)))] := hD
  refine lv_aload_n hx hb dX9_feed_0 rfl (lv_at hl 0 rfl) ?_
  refine lv_iconst (v := 0) hx hb dX9_feed_1 (by decide) ?_
  refine va_put (D := (dC, dI)) (ci := 9) (v := .int 0) (ty := .int) (C := RX9) (T := TX9) (N := 38) hx hb ht iX9 tyX9 tyX9_ok nmX9 hown hK hP hD hS 0 rfl rfl 0 (by decide) (ht _ w_1262) (fun _ h9 => h9) rfl (by decide +kernel) rfl rfl (Nat.le_of_ble_eq_true rfl) dX9_feed_2 (fun H locs hP hD hS => ?_)
  have hP : va_P (dC, dI) vwCl [((g 0), .inr (9, [.int 0, .ref (g 1), .ref (g 2), .ref (g 3), .ref (g 4), .ref (g 5), .int 0, .int 0, .int 0, .int 0, .int 0, .long 0, .int 0, .int 0, .int 0, .int (-1), .ref (g 6), .ref (g 7), .ref (g 8), .ref (g 9), .ref (g 10), .ref (g 11), .int 0, .int 0, .int 0, .int 0, .int 0, .ref (g 12), .ref (g 13), .int 0, .ref (g 14), .ref (g 15), .long 0, .int 0, .int 0, .int 0, .ref (g 16), .ref (g 17)])), ((g 5), .inl (cB, 500, .inl (fun _ => 0)))] H := hP
  have hD : va_D A [((g 0), .inr (9, [.int 0, .ref (g 1), .ref (g 2), .ref (g 3), .ref (g 4), .ref (g 5), .int 0, .int 0, .int 0, .int 0, .int 0, .long 0, .int 0, .int 0, .int 0, .int (-1), .ref (g 6), .ref (g 7), .ref (g 8), .ref (g 9), .ref (g 10), .ref (g 11), .int 0, .int 0, .int 0, .int 0, .int 0, .ref (g 12), .ref (g 13), .int 0, .ref (g 14), .ref (g 15), .long 0, .int 0, .int 0, .int 0, .ref (g 16), .ref (g 17)])), ((g 5), .inl (cB, 500, .inl (fun _ => 0)))] := hD
  refine lv_aload_n hx hb dX9_feed_5 rfl (lv_at hl 0 rfl) ?_
  refine va_get (D := (dC, dI)) (ci := 9) (v := .int 0) (C := RX9) (T := TX9) (N := 38) hx hb ht iX9 hown hK hP 0 rfl rfl 6 (by decide) (ht _ w_1268) (fun _ h9 => h9) rfl dX9_feed_6 ?_
  refine lv_bipush (v := 20) hx hb dX9_feed_9 (by decide) ?_
  refine lv_iadd hx hb dX9_feed_11 ?_
  refine lv_topi (fun y_1 ey_1 => ?_)
  obtain rfl : y_1 = 20 := ey_1.trans (by decide)
  refine lv_sipush (v := 500) hx hb dX9_feed_12 (by decide) ?_
  refine lv_icmp_le (tgt := 20) hx hb dX9_feed_15 (by decide) (fun _ => ?_) (fun c9 => by first | exact absurd (by decide) c9 | exact absurd c9 (by decide))
  refine lv_aload_n hx hb dX9_feed_20 rfl (lv_at hl 0 rfl) ?_
  refine lv_iload_n hx hb dX9_feed_21 rfl (lv_at hl 1 rfl) ?_
  have hPc := hP.sub (ws' := [((g 0), .inr (9, [.int 0, .ref (g 1), .ref (g 2), .ref (g 3), .ref (g 4), .ref (g 5), .int 0, .int 0, .int 0, .int 0, .int 0, .long 0, .int 0, .int 0, .int 0, .int (-1), .ref (g 6), .ref (g 7), .ref (g 8), .ref (g 9), .ref (g 10), .ref (g 11), .int 0, .int 0, .int 0, .int 0, .int 0, .ref (g 12), .ref (g 13), .int 0, .ref (g 14), .ref (g 15), .long 0, .int 0, .int 0, .int 0, .ref (g 16), .ref (g 17)])), ((g 5), .inl (cB, 500, .inl (fun _ => 0)))]) [0, 1] rfl
  have hDc := hD.sub (ws' := [((g 0), .inr (9, [.int 0, .ref (g 1), .ref (g 2), .ref (g 3), .ref (g 4), .ref (g 5), .int 0, .int 0, .int 0, .int 0, .int 0, .long 0, .int 0, .int 0, .int 0, .int (-1), .ref (g 6), .ref (g 7), .ref (g 8), .ref (g 9), .ref (g 10), .ref (g 11), .int 0, .int 0, .int 0, .int 0, .int 0, .ref (g 12), .ref (g 13), .int 0, .ref (g 14), .ref (g 15), .long 0, .int 0, .int 0, .int 0, .ref (g 16), .ref (g 17)])), ((g 5), .inl (cB, 500, .inl (fun _ => 0)))]) [0, 1] (by decide) rfl
  have hFc := va_free (wc := [((g 0), .inr (9, [.int 0, .ref (g 1), .ref (g 2), .ref (g 3), .ref (g 4), .ref (g 5), .int 0, .int 0, .int 0, .int 0, .int 0, .long 0, .int 0, .int 0, .int 0, .int (-1), .ref (g 6), .ref (g 7), .ref (g 8), .ref (g 9), .ref (g 10), .ref (g 11), .int 0, .int 0, .int 0, .int 0, .int 0, .ref (g 12), .ref (g 13), .int 0, .ref (g 14), .ref (g 15), .long 0, .int 0, .int 0, .int 0, .ref (g 16), .ref (g 17)])), ((g 5), .inl (cB, 500, .inl (fun _ => 0)))]) hD hS hA [0, 1] rfl
  refine va_callv (va_runV (As := [.int p0]) (rest := []) ⟨hx, hb, hml, hown, ht⟩ (k_X9_four_0 l dC dI cB cI cJ cZ cL H.size g (fun _ => 0) p0) (cwV 1 ht (gV w_1404 w_1406 w_46 w_114 w_1407) rfl rfl rfl (by decide +kernel) ⟨Nat.le_of_ble_eq_true rfl, Nat.le_of_ble_eq_true rfl⟩) (pVQ hK hPc hDc (ci := 9) (q0 := 0) rfl rfl) rfl rfl hl.1 rfl (lv_room (Nat.le_of_ble_eq_true rfl)) dX9_feed_22 ⟨Nat.le_of_ble_eq_true rfl, Nat.le_of_ble_eq_true rfl⟩) hS (fun q _ h => hFc q h) hFc (fun u_3 t1 H1 locs ht1 hvm hw hB hz1 hk1 hS => ?_)
  obtain ⟨hP1, hD1⟩ := hB
  rw [ht1] at hP1
  obtain ⟨hP, hD⟩ := va_join (wr := []) (w1 := [((g 0), .inr (9, [.int 0, .ref (g 1), .ref (g 2), .ref (g 3), .ref (g 4), .ref (g 5), .int 4, .int 0, .int 0, .int 0, .int 0, .long 0, .int 0, .int 0, .int 0, .int (-1), .ref (g 6), .ref (g 7), .ref (g 8), .ref (g 9), .ref (g 10), .ref (g 11), .int 0, .int 0, .int 0, .int 0, .int 0, .ref (g 12), .ref (g 13), .int 0, .ref (g 14), .ref (g 15), .long 0, .int 0, .int 0, .int 0, .ref (g 16), .ref (g 17)])), ((g 5), .inl (cB, 500, .inl u_3))]) hP hD [0, 1] [] rfl rfl (by decide) (by decide) hk1 hFc hP1 hD1
  clear hFc hDc hPc
  generalize H1 = H at hP hS ⊢
  have hP : va_P (dC, dI) vwCl [((g 0), .inr (9, [.int 0, .ref (g 1), .ref (g 2), .ref (g 3), .ref (g 4), .ref (g 5), .int 4, .int 0, .int 0, .int 0, .int 0, .long 0, .int 0, .int 0, .int 0, .int (-1), .ref (g 6), .ref (g 7), .ref (g 8), .ref (g 9), .ref (g 10), .ref (g 11), .int 0, .int 0, .int 0, .int 0, .int 0, .ref (g 12), .ref (g 13), .int 0, .ref (g 14), .ref (g 15), .long 0, .int 0, .int 0, .int 0, .ref (g 16), .ref (g 17)])), ((g 5), .inl (cB, 500, .inl u_3))] H := hP
  have hD : va_D A [((g 0), .inr (9, [.int 0, .ref (g 1), .ref (g 2), .ref (g 3), .ref (g 4), .ref (g 5), .int 4, .int 0, .int 0, .int 0, .int 0, .long 0, .int 0, .int 0, .int 0, .int (-1), .ref (g 6), .ref (g 7), .ref (g 8), .ref (g 9), .ref (g 10), .ref (g 11), .int 0, .int 0, .int 0, .int 0, .int 0, .ref (g 12), .ref (g 13), .int 0, .ref (g 14), .ref (g 15), .long 0, .int 0, .int 0, .int 0, .ref (g 16), .ref (g 17)])), ((g 5), .inl (cB, 500, .inl u_3))] := hD
  refine lv_aload_n hx hb dX9_feed_25 rfl (lv_at hl 0 rfl) ?_
  refine lv_iload_n hx hb dX9_feed_26 rfl (lv_at hl 2 rfl) ?_
  have hPc := hP.sub (ws' := [((g 0), .inr (9, [.int 0, .ref (g 1), .ref (g 2), .ref (g 3), .ref (g 4), .ref (g 5), .int 4, .int 0, .int 0, .int 0, .int 0, .long 0, .int 0, .int 0, .int 0, .int (-1), .ref (g 6), .ref (g 7), .ref (g 8), .ref (g 9), .ref (g 10), .ref (g 11), .int 0, .int 0, .int 0, .int 0, .int 0, .ref (g 12), .ref (g 13), .int 0, .ref (g 14), .ref (g 15), .long 0, .int 0, .int 0, .int 0, .ref (g 16), .ref (g 17)])), ((g 5), .inl (cB, 500, .inl u_3))]) [0, 1] rfl
  have hDc := hD.sub (ws' := [((g 0), .inr (9, [.int 0, .ref (g 1), .ref (g 2), .ref (g 3), .ref (g 4), .ref (g 5), .int 4, .int 0, .int 0, .int 0, .int 0, .long 0, .int 0, .int 0, .int 0, .int (-1), .ref (g 6), .ref (g 7), .ref (g 8), .ref (g 9), .ref (g 10), .ref (g 11), .int 0, .int 0, .int 0, .int 0, .int 0, .ref (g 12), .ref (g 13), .int 0, .ref (g 14), .ref (g 15), .long 0, .int 0, .int 0, .int 0, .ref (g 16), .ref (g 17)])), ((g 5), .inl (cB, 500, .inl u_3))]) [0, 1] (by decide) rfl
  have hFc := va_free (wc := [((g 0), .inr (9, [.int 0, .ref (g 1), .ref (g 2), .ref (g 3), .ref (g 4), .ref (g 5), .int 4, .int 0, .int 0, .int 0, .int 0, .long 0, .int 0, .int 0, .int 0, .int (-1), .ref (g 6), .ref (g 7), .ref (g 8), .ref (g 9), .ref (g 10), .ref (g 11), .int 0, .int 0, .int 0, .int 0, .int 0, .ref (g 12), .ref (g 13), .int 0, .ref (g 14), .ref (g 15), .long 0, .int 0, .int 0, .int 0, .ref (g 16), .ref (g 17)])), ((g 5), .inl (cB, 500, .inl u_3))]) hD hS hA [0, 1] rfl
  refine va_callv (va_runV (As := [.int p1]) (rest := []) ⟨hx, hb, hml, hown, ht⟩ (k_X9_four_4 l dC dI cB cI cJ cZ cL H.size g u_3 p1) (cwV 1 ht (gV w_1404 w_1406 w_46 w_114 w_1407) rfl rfl rfl (by decide +kernel) ⟨Nat.le_of_ble_eq_true rfl, Nat.le_of_ble_eq_true rfl⟩) (pVQ hK hPc hDc (ci := 9) (q0 := 0) rfl rfl) rfl rfl hl.1 rfl (lv_room (Nat.le_of_ble_eq_true rfl)) dX9_feed_27 ⟨Nat.le_of_ble_eq_true rfl, Nat.le_of_ble_eq_true rfl⟩) hS (fun q _ h => hFc q h) hFc (fun u_5 t1 H1 locs ht1 hvm hw hB hz1 hk1 hS => ?_)
  obtain ⟨hP1, hD1⟩ := hB
  rw [ht1] at hP1
  obtain ⟨hP, hD⟩ := va_join (wr := []) (w1 := [((g 0), .inr (9, [.int 0, .ref (g 1), .ref (g 2), .ref (g 3), .ref (g 4), .ref (g 5), .int 8, .int 0, .int 0, .int 0, .int 0, .long 0, .int 0, .int 0, .int 0, .int (-1), .ref (g 6), .ref (g 7), .ref (g 8), .ref (g 9), .ref (g 10), .ref (g 11), .int 0, .int 0, .int 0, .int 0, .int 0, .ref (g 12), .ref (g 13), .int 0, .ref (g 14), .ref (g 15), .long 0, .int 0, .int 0, .int 0, .ref (g 16), .ref (g 17)])), ((g 5), .inl (cB, 500, .inl u_5))]) hP hD [0, 1] [] rfl rfl (by decide) (by decide) hk1 hFc hP1 hD1
  clear hFc hDc hPc
  generalize H1 = H at hP hS ⊢
  have hP : va_P (dC, dI) vwCl [((g 0), .inr (9, [.int 0, .ref (g 1), .ref (g 2), .ref (g 3), .ref (g 4), .ref (g 5), .int 8, .int 0, .int 0, .int 0, .int 0, .long 0, .int 0, .int 0, .int 0, .int (-1), .ref (g 6), .ref (g 7), .ref (g 8), .ref (g 9), .ref (g 10), .ref (g 11), .int 0, .int 0, .int 0, .int 0, .int 0, .ref (g 12), .ref (g 13), .int 0, .ref (g 14), .ref (g 15), .long 0, .int 0, .int 0, .int 0, .ref (g 16), .ref (g 17)])), ((g 5), .inl (cB, 500, .inl u_5))] H := hP
  have hD : va_D A [((g 0), .inr (9, [.int 0, .ref (g 1), .ref (g 2), .ref (g 3), .ref (g 4), .ref (g 5), .int 8, .int 0, .int 0, .int 0, .int 0, .long 0, .int 0, .int 0, .int 0, .int (-1), .ref (g 6), .ref (g 7), .ref (g 8), .ref (g 9), .ref (g 10), .ref (g 11), .int 0, .int 0, .int 0, .int 0, .int 0, .ref (g 12), .ref (g 13), .int 0, .ref (g 14), .ref (g 15), .long 0, .int 0, .int 0, .int 0, .ref (g 16), .ref (g 17)])), ((g 5), .inl (cB, 500, .inl u_5))] := hD
  refine lv_aload_n hx hb dX9_feed_30 rfl (lv_at hl 0 rfl) ?_
  refine lv_iload_n hx hb dX9_feed_31 rfl (lv_at hl 3 rfl) ?_
  have hPc := hP.sub (ws' := [((g 0), .inr (9, [.int 0, .ref (g 1), .ref (g 2), .ref (g 3), .ref (g 4), .ref (g 5), .int 8, .int 0, .int 0, .int 0, .int 0, .long 0, .int 0, .int 0, .int 0, .int (-1), .ref (g 6), .ref (g 7), .ref (g 8), .ref (g 9), .ref (g 10), .ref (g 11), .int 0, .int 0, .int 0, .int 0, .int 0, .ref (g 12), .ref (g 13), .int 0, .ref (g 14), .ref (g 15), .long 0, .int 0, .int 0, .int 0, .ref (g 16), .ref (g 17)])), ((g 5), .inl (cB, 500, .inl u_5))]) [0, 1] rfl
  have hDc := hD.sub (ws' := [((g 0), .inr (9, [.int 0, .ref (g 1), .ref (g 2), .ref (g 3), .ref (g 4), .ref (g 5), .int 8, .int 0, .int 0, .int 0, .int 0, .long 0, .int 0, .int 0, .int 0, .int (-1), .ref (g 6), .ref (g 7), .ref (g 8), .ref (g 9), .ref (g 10), .ref (g 11), .int 0, .int 0, .int 0, .int 0, .int 0, .ref (g 12), .ref (g 13), .int 0, .ref (g 14), .ref (g 15), .long 0, .int 0, .int 0, .int 0, .ref (g 16), .ref (g 17)])), ((g 5), .inl (cB, 500, .inl u_5))]) [0, 1] (by decide) rfl
  have hFc := va_free (wc := [((g 0), .inr (9, [.int 0, .ref (g 1), .ref (g 2), .ref (g 3), .ref (g 4), .ref (g 5), .int 8, .int 0, .int 0, .int 0, .int 0, .long 0, .int 0, .int 0, .int 0, .int (-1), .ref (g 6), .ref (g 7), .ref (g 8), .ref (g 9), .ref (g 10), .ref (g 11), .int 0, .int 0, .int 0, .int 0, .int 0, .ref (g 12), .ref (g 13), .int 0, .ref (g 14), .ref (g 15), .long 0, .int 0, .int 0, .int 0, .ref (g 16), .ref (g 17)])), ((g 5), .inl (cB, 500, .inl u_5))]) hD hS hA [0, 1] rfl
  refine va_callv (va_runV (As := [.int p2]) (rest := []) ⟨hx, hb, hml, hown, ht⟩ (k_X9_four_8 l dC dI cB cI cJ cZ cL H.size g u_5 p2) (cwV 1 ht (gV w_1404 w_1406 w_46 w_114 w_1407) rfl rfl rfl (by decide +kernel) ⟨Nat.le_of_ble_eq_true rfl, Nat.le_of_ble_eq_true rfl⟩) (pVQ hK hPc hDc (ci := 9) (q0 := 0) rfl rfl) rfl rfl hl.1 rfl (lv_room (Nat.le_of_ble_eq_true rfl)) dX9_feed_32 ⟨Nat.le_of_ble_eq_true rfl, Nat.le_of_ble_eq_true rfl⟩) hS (fun q _ h => hFc q h) hFc (fun u_7 t1 H1 locs ht1 hvm hw hB hz1 hk1 hS => ?_)
  obtain ⟨hP1, hD1⟩ := hB
  rw [ht1] at hP1
  obtain ⟨hP, hD⟩ := va_join (wr := []) (w1 := [((g 0), .inr (9, [.int 0, .ref (g 1), .ref (g 2), .ref (g 3), .ref (g 4), .ref (g 5), .int 12, .int 0, .int 0, .int 0, .int 0, .long 0, .int 0, .int 0, .int 0, .int (-1), .ref (g 6), .ref (g 7), .ref (g 8), .ref (g 9), .ref (g 10), .ref (g 11), .int 0, .int 0, .int 0, .int 0, .int 0, .ref (g 12), .ref (g 13), .int 0, .ref (g 14), .ref (g 15), .long 0, .int 0, .int 0, .int 0, .ref (g 16), .ref (g 17)])), ((g 5), .inl (cB, 500, .inl u_7))]) hP hD [0, 1] [] rfl rfl (by decide) (by decide) hk1 hFc hP1 hD1
  clear hFc hDc hPc
  generalize H1 = H at hP hS ⊢
  have hP : va_P (dC, dI) vwCl [((g 0), .inr (9, [.int 0, .ref (g 1), .ref (g 2), .ref (g 3), .ref (g 4), .ref (g 5), .int 12, .int 0, .int 0, .int 0, .int 0, .long 0, .int 0, .int 0, .int 0, .int (-1), .ref (g 6), .ref (g 7), .ref (g 8), .ref (g 9), .ref (g 10), .ref (g 11), .int 0, .int 0, .int 0, .int 0, .int 0, .ref (g 12), .ref (g 13), .int 0, .ref (g 14), .ref (g 15), .long 0, .int 0, .int 0, .int 0, .ref (g 16), .ref (g 17)])), ((g 5), .inl (cB, 500, .inl u_7))] H := hP
  have hD : va_D A [((g 0), .inr (9, [.int 0, .ref (g 1), .ref (g 2), .ref (g 3), .ref (g 4), .ref (g 5), .int 12, .int 0, .int 0, .int 0, .int 0, .long 0, .int 0, .int 0, .int 0, .int (-1), .ref (g 6), .ref (g 7), .ref (g 8), .ref (g 9), .ref (g 10), .ref (g 11), .int 0, .int 0, .int 0, .int 0, .int 0, .ref (g 12), .ref (g 13), .int 0, .ref (g 14), .ref (g 15), .long 0, .int 0, .int 0, .int 0, .ref (g 16), .ref (g 17)])), ((g 5), .inl (cB, 500, .inl u_7))] := hD
  refine lv_aload_n hx hb dX9_feed_35 rfl (lv_at hl 0 rfl) ?_
  refine lv_iload hx hb dX9_feed_36 (lv_at hl 4 rfl) ?_
  have hPc := hP.sub (ws' := [((g 0), .inr (9, [.int 0, .ref (g 1), .ref (g 2), .ref (g 3), .ref (g 4), .ref (g 5), .int 12, .int 0, .int 0, .int 0, .int 0, .long 0, .int 0, .int 0, .int 0, .int (-1), .ref (g 6), .ref (g 7), .ref (g 8), .ref (g 9), .ref (g 10), .ref (g 11), .int 0, .int 0, .int 0, .int 0, .int 0, .ref (g 12), .ref (g 13), .int 0, .ref (g 14), .ref (g 15), .long 0, .int 0, .int 0, .int 0, .ref (g 16), .ref (g 17)])), ((g 5), .inl (cB, 500, .inl u_7))]) [0, 1] rfl
  have hDc := hD.sub (ws' := [((g 0), .inr (9, [.int 0, .ref (g 1), .ref (g 2), .ref (g 3), .ref (g 4), .ref (g 5), .int 12, .int 0, .int 0, .int 0, .int 0, .long 0, .int 0, .int 0, .int 0, .int (-1), .ref (g 6), .ref (g 7), .ref (g 8), .ref (g 9), .ref (g 10), .ref (g 11), .int 0, .int 0, .int 0, .int 0, .int 0, .ref (g 12), .ref (g 13), .int 0, .ref (g 14), .ref (g 15), .long 0, .int 0, .int 0, .int 0, .ref (g 16), .ref (g 17)])), ((g 5), .inl (cB, 500, .inl u_7))]) [0, 1] (by decide) rfl
  have hFc := va_free (wc := [((g 0), .inr (9, [.int 0, .ref (g 1), .ref (g 2), .ref (g 3), .ref (g 4), .ref (g 5), .int 12, .int 0, .int 0, .int 0, .int 0, .long 0, .int 0, .int 0, .int 0, .int (-1), .ref (g 6), .ref (g 7), .ref (g 8), .ref (g 9), .ref (g 10), .ref (g 11), .int 0, .int 0, .int 0, .int 0, .int 0, .ref (g 12), .ref (g 13), .int 0, .ref (g 14), .ref (g 15), .long 0, .int 0, .int 0, .int 0, .ref (g 16), .ref (g 17)])), ((g 5), .inl (cB, 500, .inl u_7))]) hD hS hA [0, 1] rfl
  refine va_callv (va_runV (As := [.int p3]) (rest := []) ⟨hx, hb, hml, hown, ht⟩ (k_X9_four_12 l dC dI cB cI cJ cZ cL H.size g u_7 p3) (cwV 1 ht (gV w_1404 w_1406 w_46 w_114 w_1407) rfl rfl rfl (by decide +kernel) ⟨Nat.le_of_ble_eq_true rfl, Nat.le_of_ble_eq_true rfl⟩) (pVQ hK hPc hDc (ci := 9) (q0 := 0) rfl rfl) rfl rfl hl.1 rfl (lv_room (Nat.le_of_ble_eq_true rfl)) dX9_feed_38 ⟨Nat.le_of_ble_eq_true rfl, Nat.le_of_ble_eq_true rfl⟩) hS (fun q _ h => hFc q h) hFc (fun u_9 t1 H1 locs ht1 hvm hw hB hz1 hk1 hS => ?_)
  obtain ⟨hP1, hD1⟩ := hB
  rw [ht1] at hP1
  obtain ⟨hP, hD⟩ := va_join (wr := []) (w1 := [((g 0), .inr (9, [.int 0, .ref (g 1), .ref (g 2), .ref (g 3), .ref (g 4), .ref (g 5), .int 16, .int 0, .int 0, .int 0, .int 0, .long 0, .int 0, .int 0, .int 0, .int (-1), .ref (g 6), .ref (g 7), .ref (g 8), .ref (g 9), .ref (g 10), .ref (g 11), .int 0, .int 0, .int 0, .int 0, .int 0, .ref (g 12), .ref (g 13), .int 0, .ref (g 14), .ref (g 15), .long 0, .int 0, .int 0, .int 0, .ref (g 16), .ref (g 17)])), ((g 5), .inl (cB, 500, .inl u_9))]) hP hD [0, 1] [] rfl rfl (by decide) (by decide) hk1 hFc hP1 hD1
  clear hFc hDc hPc
  generalize H1 = H at hP hS ⊢
  have hP : va_P (dC, dI) vwCl [((g 0), .inr (9, [.int 0, .ref (g 1), .ref (g 2), .ref (g 3), .ref (g 4), .ref (g 5), .int 16, .int 0, .int 0, .int 0, .int 0, .long 0, .int 0, .int 0, .int 0, .int (-1), .ref (g 6), .ref (g 7), .ref (g 8), .ref (g 9), .ref (g 10), .ref (g 11), .int 0, .int 0, .int 0, .int 0, .int 0, .ref (g 12), .ref (g 13), .int 0, .ref (g 14), .ref (g 15), .long 0, .int 0, .int 0, .int 0, .ref (g 16), .ref (g 17)])), ((g 5), .inl (cB, 500, .inl u_9))] H := hP
  have hD : va_D A [((g 0), .inr (9, [.int 0, .ref (g 1), .ref (g 2), .ref (g 3), .ref (g 4), .ref (g 5), .int 16, .int 0, .int 0, .int 0, .int 0, .long 0, .int 0, .int 0, .int 0, .int (-1), .ref (g 6), .ref (g 7), .ref (g 8), .ref (g 9), .ref (g 10), .ref (g 11), .int 0, .int 0, .int 0, .int 0, .int 0, .ref (g 12), .ref (g 13), .int 0, .ref (g 14), .ref (g 15), .long 0, .int 0, .int 0, .int 0, .ref (g 16), .ref (g 17)])), ((g 5), .inl (cB, 500, .inl u_9))] := hD
  refine lv_aload_n hx hb dX9_feed_41 rfl (lv_at hl 0 rfl) ?_
  refine lv_iload hx hb dX9_feed_42 (lv_at hl 5 rfl) ?_
  have hPc := hP.sub (ws' := [((g 0), .inr (9, [.int 0, .ref (g 1), .ref (g 2), .ref (g 3), .ref (g 4), .ref (g 5), .int 16, .int 0, .int 0, .int 0, .int 0, .long 0, .int 0, .int 0, .int 0, .int (-1), .ref (g 6), .ref (g 7), .ref (g 8), .ref (g 9), .ref (g 10), .ref (g 11), .int 0, .int 0, .int 0, .int 0, .int 0, .ref (g 12), .ref (g 13), .int 0, .ref (g 14), .ref (g 15), .long 0, .int 0, .int 0, .int 0, .ref (g 16), .ref (g 17)])), ((g 5), .inl (cB, 500, .inl u_9))]) [0, 1] rfl
  have hDc := hD.sub (ws' := [((g 0), .inr (9, [.int 0, .ref (g 1), .ref (g 2), .ref (g 3), .ref (g 4), .ref (g 5), .int 16, .int 0, .int 0, .int 0, .int 0, .long 0, .int 0, .int 0, .int 0, .int (-1), .ref (g 6), .ref (g 7), .ref (g 8), .ref (g 9), .ref (g 10), .ref (g 11), .int 0, .int 0, .int 0, .int 0, .int 0, .ref (g 12), .ref (g 13), .int 0, .ref (g 14), .ref (g 15), .long 0, .int 0, .int 0, .int 0, .ref (g 16), .ref (g 17)])), ((g 5), .inl (cB, 500, .inl u_9))]) [0, 1] (by decide) rfl
  have hFc := va_free (wc := [((g 0), .inr (9, [.int 0, .ref (g 1), .ref (g 2), .ref (g 3), .ref (g 4), .ref (g 5), .int 16, .int 0, .int 0, .int 0, .int 0, .long 0, .int 0, .int 0, .int 0, .int (-1), .ref (g 6), .ref (g 7), .ref (g 8), .ref (g 9), .ref (g 10), .ref (g 11), .int 0, .int 0, .int 0, .int 0, .int 0, .ref (g 12), .ref (g 13), .int 0, .ref (g 14), .ref (g 15), .long 0, .int 0, .int 0, .int 0, .ref (g 16), .ref (g 17)])), ((g 5), .inl (cB, 500, .inl u_9))]) hD hS hA [0, 1] rfl
  refine va_callv (va_runV (As := [.int p4]) (rest := []) ⟨hx, hb, hml, hown, ht⟩ (k_X9_four_16 l dC dI cB cI cJ cZ cL H.size g u_9 p4) (cwV 1 ht (gV w_1404 w_1406 w_46 w_114 w_1407) rfl rfl rfl (by decide +kernel) ⟨Nat.le_of_ble_eq_true rfl, Nat.le_of_ble_eq_true rfl⟩) (pVQ hK hPc hDc (ci := 9) (q0 := 0) rfl rfl) rfl rfl hl.1 rfl (lv_room (Nat.le_of_ble_eq_true rfl)) dX9_feed_44 ⟨Nat.le_of_ble_eq_true rfl, Nat.le_of_ble_eq_true rfl⟩) hS (fun q _ h => hFc q h) hFc (fun u_11 t1 H1 locs ht1 hvm hw hB hz1 hk1 hS => ?_)
  obtain ⟨hP1, hD1⟩ := hB
  rw [ht1] at hP1
  obtain ⟨hP, hD⟩ := va_join (wr := []) (w1 := [((g 0), .inr (9, [.int 0, .ref (g 1), .ref (g 2), .ref (g 3), .ref (g 4), .ref (g 5), .int 20, .int 0, .int 0, .int 0, .int 0, .long 0, .int 0, .int 0, .int 0, .int (-1), .ref (g 6), .ref (g 7), .ref (g 8), .ref (g 9), .ref (g 10), .ref (g 11), .int 0, .int 0, .int 0, .int 0, .int 0, .ref (g 12), .ref (g 13), .int 0, .ref (g 14), .ref (g 15), .long 0, .int 0, .int 0, .int 0, .ref (g 16), .ref (g 17)])), ((g 5), .inl (cB, 500, .inl u_11))]) hP hD [0, 1] [] rfl rfl (by decide) (by decide) hk1 hFc hP1 hD1
  clear hFc hDc hPc
  generalize H1 = H at hP hS ⊢
  have hP : va_P (dC, dI) vwCl [((g 0), .inr (9, [.int 0, .ref (g 1), .ref (g 2), .ref (g 3), .ref (g 4), .ref (g 5), .int 20, .int 0, .int 0, .int 0, .int 0, .long 0, .int 0, .int 0, .int 0, .int (-1), .ref (g 6), .ref (g 7), .ref (g 8), .ref (g 9), .ref (g 10), .ref (g 11), .int 0, .int 0, .int 0, .int 0, .int 0, .ref (g 12), .ref (g 13), .int 0, .ref (g 14), .ref (g 15), .long 0, .int 0, .int 0, .int 0, .ref (g 16), .ref (g 17)])), ((g 5), .inl (cB, 500, .inl u_11))] H := hP
  have hD : va_D A [((g 0), .inr (9, [.int 0, .ref (g 1), .ref (g 2), .ref (g 3), .ref (g 4), .ref (g 5), .int 20, .int 0, .int 0, .int 0, .int 0, .long 0, .int 0, .int 0, .int 0, .int (-1), .ref (g 6), .ref (g 7), .ref (g 8), .ref (g 9), .ref (g 10), .ref (g 11), .int 0, .int 0, .int 0, .int 0, .int 0, .ref (g 12), .ref (g 13), .int 0, .ref (g 14), .ref (g 15), .long 0, .int 0, .int 0, .int 0, .ref (g 16), .ref (g 17)])), ((g 5), .inl (cB, 500, .inl u_11))] := hD
  refine lv_aload_n hx hb dX9_feed_47 rfl (lv_at hl 0 rfl) ?_
  refine va_get (D := (dC, dI)) (ci := 9) (v := .int 20) (C := RX9) (T := TX9) (N := 38) hx hb ht iX9 hown hK hP 0 rfl rfl 6 (by decide) (ht _ w_1268) (fun _ h9 => h9) rfl dX9_feed_48 ?_
  refine W.widen (k := 0) (n := 0) (Nat.le_of_ble_eq_true rfl) (Nat.le_of_ble_eq_true rfl) ?_
  exact W.iret (v := 20) hx hb hr (fun t ht hW => ⟨⟨20, (), rfl, rfl, trivial⟩, hS.F ht⟩) hS.2.2 dX9_feed_51
set_option maxHeartbeats 4000000 in
set_option maxRecDepth 100000 in
theorem k_X9_end (l : Launch) (dC : Nat → ClassId) (dI : Nat → Nat → Nat) (cB cI cJ cZ cL : ClassId) (sz : Nat) (g : Nat → Nat) (p0 : Int32) : Met l yX9_end (wy yX9_end cX9_end 2 (some .int)) ({ frames := 1, cells := 0, slots := 0, locals := 40 }) (va_Pc [.ref (g 0), .int p0] (fun U => U.heap.size = sz ∧ va_P (dC, dI) vwCl [((g 0), .inr (9, [.int 0, .ref (g 1), .ref (g 2), .ref (g 3), .ref (g 4), .ref (g 5), .int 0, .int 0, .int 0, .int 0, .int 0, .long 0, .int 0, .int 0, .int 0, .int (-1), .ref (g 6), .ref (g 7), .ref (g 8), .ref (g 9), .ref (g 10), .ref (g 11), .int 0, .int 0, .int 0, .int 0, .int 0, .ref (g 12), .ref (g 13), .int 0, .ref (g 14), .ref (g 15), .long 0, .int 0, .int 0, .int 0, .ref (g 16), .ref (g 17)]))] U.heap ∧ va_K (dC, dI) vwCl (tyL cB cI cJ cZ cL) U ∧ va_D (fun _ => True) [((g 0), .inr (9, [.int 0, .ref (g 1), .ref (g 2), .ref (g 3), .ref (g 4), .ref (g 5), .int 0, .int 0, .int 0, .int 0, .int 0, .long 0, .int 0, .int 0, .int 0, .int (-1), .ref (g 6), .ref (g 7), .ref (g 8), .ref (g 9), .ref (g 10), .ref (g 11), .int 0, .int 0, .int 0, .int 0, .int 0, .ref (g 12), .ref (g 13), .int 0, .ref (g 14), .ref (g 15), .long 0, .int 0, .int 0, .int 0, .ref (g 16), .ref (g 17)]))])) (va_Qi (fun r _ => PEnd (Int32.toInt p0) r) (fun (_ : Unit) _ => True) (va_A [((g 0), .inr (9, [.int 0, .ref (g 1), .ref (g 2), .ref (g 3), .ref (g 4), .ref (g 5), .int 0, .int 0, .int 0, .int 0, .int 0, .long 0, .int 0, .int 0, .int 0, .int (-1), .ref (g 6), .ref (g 7), .ref (g 8), .ref (g 9), .ref (g 10), .ref (g 11), .int 0, .int 0, .int 0, .int 0, .int 0, .ref (g 12), .ref (g 13), .int 0, .ref (g 14), .ref (g 15), .long 0, .int 0, .int 0, .int 0, .ref (g 16), .ref (g 17)]))] sz)) 0 0 (va_A [((g 0), .inr (9, [.int 0, .ref (g 1), .ref (g 2), .ref (g 3), .ref (g 4), .ref (g 5), .int 0, .int 0, .int 0, .int 0, .int 0, .long 0, .int 0, .int 0, .int 0, .int (-1), .ref (g 6), .ref (g 7), .ref (g 8), .ref (g 9), .ref (g 10), .ref (g 11), .int 0, .int 0, .int 0, .int 0, .int 0, .ref (g 12), .ref (g 13), .int 0, .ref (g 14), .ref (g 15), .long 0, .int 0, .int 0, .int 0, .ref (g 16), .ref (g 17)]))] sz) := by
  refine Met.ofW (cc := cX9_end) (maxL := 2) (ret := (some .int)) (by decide) rfl ?_
  intro p e s m args below meth c s₁ B hml hv
  obtain ⟨rfl, hsz, hP, hK, hD0⟩ := hv
  have hx := B.exec
  have hb := B.bytes
  have hr := B.returns
  have ht : ∀ w ∈ lw_ok, w.before _ s = true := fun w h => atoms_spec (ws := wy yX9_end cX9_end 2 (some .int)) B.pre w (List.mem_cons_of_mem _ h)
  have hown : s.vm.findClass RX9 = some m.cls := findClass_of_methodNamed B.named
  have hlocks := B.notSynchronized
  subst hsz
  have hD := hD0.self (sz := s.heap.size)
  generalize hAe : va_A [((g 0), .inr (9, [.int 0, .ref (g 1), .ref (g 2), .ref (g 3), .ref (g 4), .ref (g 5), .int 0, .int 0, .int 0, .int 0, .int 0, .long 0, .int 0, .int 0, .int 0, .int (-1), .ref (g 6), .ref (g 7), .ref (g 8), .ref (g 9), .ref (g 10), .ref (g 11), .int 0, .int 0, .int 0, .int 0, .int 0, .ref (g 12), .ref (g 13), .int 0, .ref (g 14), .ref (g 15), .long 0, .int 0, .int 0, .int 0, .ref (g 16), .ref (g 17)]))] s.heap.size = A at hD ⊢
  have hA : ∀ q : Nat, s.heap.size ≤ q → A q := fun q h => by rw [← hAe]; exact Or.inr h
  have hS : va_S A s.heap s.heap [] := va_S.rf
  have hl := lv_entry ([.ref (g 0), .int p0]) (n := 2) (Nat.le_of_ble_eq_true rfl)
  rw [lg_entry_eq]
  generalize (lg_sl ([.ref (g 0), .int p0]) ++ List.replicate (2 - (lg_sl ([.ref (g 0), .int p0])).length) Slot.unset).toArray = ls at hl ⊢
  have hl : lv_has ls 2 [(0, .ref (g 0)), (1, .int p0)] := hl
  have hP : va_P (dC, dI) vwCl [((g 0), .inr (9, [.int 0, .ref (g 1), .ref (g 2), .ref (g 3), .ref (g 4), .ref (g 5), .int 0, .int 0, .int 0, .int 0, .int 0, .long 0, .int 0, .int 0, .int 0, .int (-1), .ref (g 6), .ref (g 7), .ref (g 8), .ref (g 9), .ref (g 10), .ref (g 11), .int 0, .int 0, .int 0, .int 0, .int 0, .ref (g 12), .ref (g 13), .int 0, .ref (g 14), .ref (g 15), .long 0, .int 0, .int 0, .int 0, .ref (g 16), .ref (g 17)]))] s.heap := hP
  have hD : va_D A [((g 0), .inr (9, [.int 0, .ref (g 1), .ref (g 2), .ref (g 3), .ref (g 4), .ref (g 5), .int 0, .int 0, .int 0, .int 0, .int 0, .long 0, .int 0, .int 0, .int 0, .int (-1), .ref (g 6), .ref (g 7), .ref (g 8), .ref (g 9), .ref (g 10), .ref (g 11), .int 0, .int 0, .int 0, .int 0, .int 0, .ref (g 12), .ref (g 13), .int 0, .ref (g 14), .ref (g 15), .long 0, .int 0, .int 0, .int 0, .ref (g 16), .ref (g 17)]))] := hD
  refine lv_aload_n hx hb dX9_end_0 rfl (lv_at hl 0 rfl) ?_
  refine lv_iconst (v := 0) hx hb dX9_end_1 (by decide) ?_
  refine va_put (D := (dC, dI)) (ci := 9) (v := .int 0) (ty := .int) (C := RX9) (T := TX9) (N := 38) hx hb ht iX9 tyX9 tyX9_ok nmX9 hown hK hP hD hS 0 rfl rfl 0 (by decide) (ht _ w_1262) (fun _ h9 => h9) rfl (by decide +kernel) rfl rfl (Nat.le_of_ble_eq_true rfl) dX9_end_2 (fun H locs hP hD hS => ?_)
  have hP : va_P (dC, dI) vwCl [((g 0), .inr (9, [.int 0, .ref (g 1), .ref (g 2), .ref (g 3), .ref (g 4), .ref (g 5), .int 0, .int 0, .int 0, .int 0, .int 0, .long 0, .int 0, .int 0, .int 0, .int (-1), .ref (g 6), .ref (g 7), .ref (g 8), .ref (g 9), .ref (g 10), .ref (g 11), .int 0, .int 0, .int 0, .int 0, .int 0, .ref (g 12), .ref (g 13), .int 0, .ref (g 14), .ref (g 15), .long 0, .int 0, .int 0, .int 0, .ref (g 16), .ref (g 17)]))] H := hP
  have hD : va_D A [((g 0), .inr (9, [.int 0, .ref (g 1), .ref (g 2), .ref (g 3), .ref (g 4), .ref (g 5), .int 0, .int 0, .int 0, .int 0, .int 0, .long 0, .int 0, .int 0, .int 0, .int (-1), .ref (g 6), .ref (g 7), .ref (g 8), .ref (g 9), .ref (g 10), .ref (g 11), .int 0, .int 0, .int 0, .int 0, .int 0, .ref (g 12), .ref (g 13), .int 0, .ref (g 14), .ref (g 15), .long 0, .int 0, .int 0, .int 0, .ref (g 16), .ref (g 17)]))] := hD
  refine lv_iload_n hx hb dX9_end_5 rfl (lv_at hl 1 rfl) ?_
  refine lv_i2l (v := (Int32.toInt64 p0)) hx hb dX9_end_6 (by first | rfl | decide) ?_
  refine lv_lconst (v := 0) hx hb dX9_end_7 (by decide) ?_
  refine lv_aload_n hx hb dX9_end_8 rfl (lv_at hl 0 rfl) ?_
  refine va_get (D := (dC, dI)) (ci := 9) (v := .int 0) (C := RX9) (T := TX9) (N := 38) hx hb ht iX9 hown hK hP 0 rfl rfl 6 (by decide) (ht _ w_1268) (fun _ h9 => h9) rfl dX9_end_9 ?_
  refine lv_i2l (v := 0) hx hb dX9_end_12 (by first | rfl | decide) ?_
  have hPc := hP.sub (ws' := []) [] rfl
  refine vp_callSi (W.runS (As := [.long (Int32.toInt64 p0), .long 0, .long 0]) (rest := []) ⟨hx, hb, hml, hown, ht⟩ (k_X9_in l dC dI cB cI cJ cZ cL (Int32.toInt64 p0) 0 0) (va_cwS 3 ht (gQ w_1386 w_1387 w_114 w_1388) rfl rfl rfl (by decide +kernel) ⟨Nat.le_of_ble_eq_true rfl, Nat.le_of_ble_eq_true rfl⟩) (pSS hK hPc) rfl rfl hl.1 rfl (lv_room (Nat.le_of_ble_eq_true rfl)) dX9_end_13 ⟨Nat.le_of_ble_eq_true rfl, Nat.le_of_ble_eq_true rfl⟩) (fun r_1 hw => ?_)
  rcases hw with ⟨hw, c_2⟩ | ⟨hw, c_2⟩
  · subst hw
    refine lv_if_ne (tgt := 21) hx hb dX9_end_16 (by decide) (fun _ => ?_) (fun c9 => by first | exact absurd (by decide) c9 | exact absurd c9 (by decide))
    refine lv_aload_n hx hb dX9_end_21 rfl (lv_at hl 0 rfl) ?_
    refine lv_iload_n hx hb dX9_end_22 rfl (lv_at hl 1 rfl) ?_
    refine va_put (D := (dC, dI)) (ci := 9) (v := .int p0) (ty := .int) (C := RX9) (T := TX9) (N := 38) hx hb ht iX9 tyX9 tyX9_ok nmX9 hown hK hP hD hS 0 rfl rfl 6 (by decide) (ht _ w_1268) (fun _ h9 => h9) rfl (by decide +kernel) rfl rfl (Nat.le_of_ble_eq_true rfl) dX9_end_23 (fun H locs hP hD hS => ?_)
    have hP : va_P (dC, dI) vwCl [((g 0), .inr (9, [.int 0, .ref (g 1), .ref (g 2), .ref (g 3), .ref (g 4), .ref (g 5), .int p0, .int 0, .int 0, .int 0, .int 0, .long 0, .int 0, .int 0, .int 0, .int (-1), .ref (g 6), .ref (g 7), .ref (g 8), .ref (g 9), .ref (g 10), .ref (g 11), .int 0, .int 0, .int 0, .int 0, .int 0, .ref (g 12), .ref (g 13), .int 0, .ref (g 14), .ref (g 15), .long 0, .int 0, .int 0, .int 0, .ref (g 16), .ref (g 17)]))] H := hP
    have hD : va_D A [((g 0), .inr (9, [.int 0, .ref (g 1), .ref (g 2), .ref (g 3), .ref (g 4), .ref (g 5), .int p0, .int 0, .int 0, .int 0, .int 0, .long 0, .int 0, .int 0, .int 0, .int (-1), .ref (g 6), .ref (g 7), .ref (g 8), .ref (g 9), .ref (g 10), .ref (g 11), .int 0, .int 0, .int 0, .int 0, .int 0, .ref (g 12), .ref (g 13), .int 0, .ref (g 14), .ref (g 15), .long 0, .int 0, .int 0, .int 0, .ref (g 16), .ref (g 17)]))] := hD
    refine lv_iload_n hx hb dX9_end_26 rfl (lv_at hl 1 rfl) ?_
    refine W.widen (k := 0) (n := 0) (Nat.le_of_ble_eq_true rfl) (Nat.le_of_ble_eq_true rfl) ?_
    exact W.iret (v := p0) hx hb hr (fun t ht hW => ⟨⟨p0, (), rfl, (by (try simp only [i_lt, i_le, i_eq, l_lt, l_le, l_wd, T0, T1, T2, T3, T4, T5, T6, T7, T8, T9, T60, Tm1, L0, L1, L2, L3, L6, Lm1, L20, L60, L2e9] at c_2); first | exact Or.inl ⟨rfl, by omega⟩ | exact Or.inr ⟨rfl, by omega⟩ | exact Or.inl ⟨by rw [i_eq, T0]; omega, by omega⟩), trivial⟩, hS.F ht⟩) hS.2.2 dX9_end_27
  · subst hw
    refine lv_if_ne (tgt := 21) hx hb dX9_end_16 (by decide) (fun c9 => by first | exact absurd c9 (by decide) | exact absurd (by decide) c9) (fun _ => ?_)
    refine lv_iconst (v := (-1)) hx hb dX9_end_19 (by decide) ?_
    refine W.widen (k := 0) (n := 0) (Nat.le_of_ble_eq_true rfl) (Nat.le_of_ble_eq_true rfl) ?_
    exact W.iret (v := (-1)) hx hb hr (fun t ht hW => ⟨⟨(-1), (), rfl, (by (try simp only [i_lt, i_le, i_eq, l_lt, l_le, l_wd, T0, T1, T2, T3, T4, T5, T6, T7, T8, T9, T60, Tm1, L0, L1, L2, L3, L6, Lm1, L20, L60, L2e9] at c_2); first | exact Or.inl ⟨rfl, by omega⟩ | exact Or.inr ⟨rfl, by omega⟩ | exact Or.inl ⟨by rw [i_eq, T0]; omega, by omega⟩), trivial⟩, hS.F ht⟩) hS.2.2 dX9_end_20
set_option maxHeartbeats 4000000 in
set_option maxRecDepth 100000 in
theorem k_X9_fault (l : Launch) (dC : Nat → ClassId) (dI : Nat → Nat → Nat) (cB cI cJ cZ cL : ClassId) (sz : Nat) (g : Nat → Nat) (p0 : Int32) : Met l yX9_fault (wy yX9_fault cX9_fault 2 (some .int)) ({ frames := 0, cells := 0, slots := 0, locals := 0 }) (va_Pc [.ref (g 0), .int p0] (fun U => U.heap.size = sz ∧ va_P (dC, dI) vwCl [((g 0), .inr (9, [.int 0, .ref (g 1), .ref (g 2), .ref (g 3), .ref (g 4), .ref (g 5), .int 0, .int 0, .int 0, .int 0, .int 0, .long 0, .int 0, .int 0, .int 0, .int (-1), .ref (g 6), .ref (g 7), .ref (g 8), .ref (g 9), .ref (g 10), .ref (g 11), .int 0, .int 0, .int 0, .int 0, .int 0, .ref (g 12), .ref (g 13), .int 0, .ref (g 14), .ref (g 15), .long 0, .int 0, .int 0, .int 0, .ref (g 16), .ref (g 17)]))] U.heap ∧ va_K (dC, dI) vwCl (tyL cB cI cJ cZ cL) U ∧ va_D (fun _ => True) [((g 0), .inr (9, [.int 0, .ref (g 1), .ref (g 2), .ref (g 3), .ref (g 4), .ref (g 5), .int 0, .int 0, .int 0, .int 0, .int 0, .long 0, .int 0, .int 0, .int 0, .int (-1), .ref (g 6), .ref (g 7), .ref (g 8), .ref (g 9), .ref (g 10), .ref (g 11), .int 0, .int 0, .int 0, .int 0, .int 0, .ref (g 12), .ref (g 13), .int 0, .ref (g 14), .ref (g 15), .long 0, .int 0, .int 0, .int 0, .ref (g 16), .ref (g 17)]))])) (va_Qi (fun r _ => PEnd (Int32.toInt p0) r) (fun (_ : Unit) _ => True) (va_A [((g 0), .inr (9, [.int 0, .ref (g 1), .ref (g 2), .ref (g 3), .ref (g 4), .ref (g 5), .int 0, .int 0, .int 0, .int 0, .int 0, .long 0, .int 0, .int 0, .int 0, .int (-1), .ref (g 6), .ref (g 7), .ref (g 8), .ref (g 9), .ref (g 10), .ref (g 11), .int 0, .int 0, .int 0, .int 0, .int 0, .ref (g 12), .ref (g 13), .int 0, .ref (g 14), .ref (g 15), .long 0, .int 0, .int 0, .int 0, .ref (g 16), .ref (g 17)]))] sz)) 0 0 (va_A [((g 0), .inr (9, [.int 0, .ref (g 1), .ref (g 2), .ref (g 3), .ref (g 4), .ref (g 5), .int 0, .int 0, .int 0, .int 0, .int 0, .long 0, .int 0, .int 0, .int 0, .int (-1), .ref (g 6), .ref (g 7), .ref (g 8), .ref (g 9), .ref (g 10), .ref (g 11), .int 0, .int 0, .int 0, .int 0, .int 0, .ref (g 12), .ref (g 13), .int 0, .ref (g 14), .ref (g 15), .long 0, .int 0, .int 0, .int 0, .ref (g 16), .ref (g 17)]))] sz) := by
  refine Met.ofW (cc := cX9_fault) (maxL := 2) (ret := (some .int)) (by decide) rfl ?_
  intro p e s m args below meth c s₁ B hml hv
  obtain ⟨rfl, hsz, hP, hK, hD0⟩ := hv
  have hx := B.exec
  have hb := B.bytes
  have hr := B.returns
  have ht : ∀ w ∈ lw_ok, w.before _ s = true := fun w h => atoms_spec (ws := wy yX9_fault cX9_fault 2 (some .int)) B.pre w (List.mem_cons_of_mem _ h)
  have hown : s.vm.findClass RX9 = some m.cls := findClass_of_methodNamed B.named
  have hlocks := B.notSynchronized
  subst hsz
  have hD := hD0.self (sz := s.heap.size)
  generalize hAe : va_A [((g 0), .inr (9, [.int 0, .ref (g 1), .ref (g 2), .ref (g 3), .ref (g 4), .ref (g 5), .int 0, .int 0, .int 0, .int 0, .int 0, .long 0, .int 0, .int 0, .int 0, .int (-1), .ref (g 6), .ref (g 7), .ref (g 8), .ref (g 9), .ref (g 10), .ref (g 11), .int 0, .int 0, .int 0, .int 0, .int 0, .ref (g 12), .ref (g 13), .int 0, .ref (g 14), .ref (g 15), .long 0, .int 0, .int 0, .int 0, .ref (g 16), .ref (g 17)]))] s.heap.size = A at hD ⊢
  have hA : ∀ q : Nat, s.heap.size ≤ q → A q := fun q h => by rw [← hAe]; exact Or.inr h
  have hS : va_S A s.heap s.heap [] := va_S.rf
  have hl := lv_entry ([.ref (g 0), .int p0]) (n := 2) (Nat.le_of_ble_eq_true rfl)
  rw [lg_entry_eq]
  generalize (lg_sl ([.ref (g 0), .int p0]) ++ List.replicate (2 - (lg_sl ([.ref (g 0), .int p0])).length) Slot.unset).toArray = ls at hl ⊢
  have hl : lv_has ls 2 [(0, .ref (g 0)), (1, .int p0)] := hl
  have hP : va_P (dC, dI) vwCl [((g 0), .inr (9, [.int 0, .ref (g 1), .ref (g 2), .ref (g 3), .ref (g 4), .ref (g 5), .int 0, .int 0, .int 0, .int 0, .int 0, .long 0, .int 0, .int 0, .int 0, .int (-1), .ref (g 6), .ref (g 7), .ref (g 8), .ref (g 9), .ref (g 10), .ref (g 11), .int 0, .int 0, .int 0, .int 0, .int 0, .ref (g 12), .ref (g 13), .int 0, .ref (g 14), .ref (g 15), .long 0, .int 0, .int 0, .int 0, .ref (g 16), .ref (g 17)]))] s.heap := hP
  have hD : va_D A [((g 0), .inr (9, [.int 0, .ref (g 1), .ref (g 2), .ref (g 3), .ref (g 4), .ref (g 5), .int 0, .int 0, .int 0, .int 0, .int 0, .long 0, .int 0, .int 0, .int 0, .int (-1), .ref (g 6), .ref (g 7), .ref (g 8), .ref (g 9), .ref (g 10), .ref (g 11), .int 0, .int 0, .int 0, .int 0, .int 0, .ref (g 12), .ref (g 13), .int 0, .ref (g 14), .ref (g 15), .long 0, .int 0, .int 0, .int 0, .ref (g 16), .ref (g 17)]))] := hD
  refine lv_aload_n hx hb dX9_fault_0 rfl (lv_at hl 0 rfl) ?_
  refine lv_iconst (v := 0) hx hb dX9_fault_1 (by decide) ?_
  refine va_put (D := (dC, dI)) (ci := 9) (v := .int 0) (ty := .int) (C := RX9) (T := TX9) (N := 38) hx hb ht iX9 tyX9 tyX9_ok nmX9 hown hK hP hD hS 0 rfl rfl 0 (by decide) (ht _ w_1262) (fun _ h9 => h9) rfl (by decide +kernel) rfl rfl (Nat.le_of_ble_eq_true rfl) dX9_fault_2 (fun H locs hP hD hS => ?_)
  have hP : va_P (dC, dI) vwCl [((g 0), .inr (9, [.int 0, .ref (g 1), .ref (g 2), .ref (g 3), .ref (g 4), .ref (g 5), .int 0, .int 0, .int 0, .int 0, .int 0, .long 0, .int 0, .int 0, .int 0, .int (-1), .ref (g 6), .ref (g 7), .ref (g 8), .ref (g 9), .ref (g 10), .ref (g 11), .int 0, .int 0, .int 0, .int 0, .int 0, .ref (g 12), .ref (g 13), .int 0, .ref (g 14), .ref (g 15), .long 0, .int 0, .int 0, .int 0, .ref (g 16), .ref (g 17)]))] H := hP
  have hD : va_D A [((g 0), .inr (9, [.int 0, .ref (g 1), .ref (g 2), .ref (g 3), .ref (g 4), .ref (g 5), .int 0, .int 0, .int 0, .int 0, .int 0, .long 0, .int 0, .int 0, .int 0, .int (-1), .ref (g 6), .ref (g 7), .ref (g 8), .ref (g 9), .ref (g 10), .ref (g 11), .int 0, .int 0, .int 0, .int 0, .int 0, .ref (g 12), .ref (g 13), .int 0, .ref (g 14), .ref (g 15), .long 0, .int 0, .int 0, .int 0, .ref (g 16), .ref (g 17)]))] := hD
  refine lv_iload_n hx hb dX9_fault_5 rfl (lv_at hl 1 rfl) ?_
  refine lv_if_ne (tgt := 16) hx hb dX9_fault_6 (by decide) (fun c_1 => ?_) (fun c_1 => ?_)
  · refine lv_iload_n hx hb dX9_fault_16 rfl (lv_at hl 1 rfl) ?_
    refine lv_iconst (v := 1) hx hb dX9_fault_17 (by decide) ?_
    refine lv_icmp_ne (tgt := 28) hx hb dX9_fault_18 (by decide) (fun c_2 => ?_) (fun c_2 => ?_)
    · refine lv_iconst (v := (-1)) hx hb dX9_fault_28 (by decide) ?_
      refine W.widen (k := 0) (n := 0) (Nat.le_of_ble_eq_true rfl) (Nat.le_of_ble_eq_true rfl) ?_
      exact W.iret (v := (-1)) hx hb hr (fun t ht hW => ⟨⟨(-1), (), rfl, (by (try simp only [i_lt, i_le, i_eq, l_lt, l_le, l_wd, T0, T1, T2, T3, T4, T5, T6, T7, T8, T9, T60, Tm1, L0, L1, L2, L3, L6, Lm1, L20, L60, L2e9] at c_1 c_2); first | exact Or.inl ⟨rfl, by omega⟩ | exact Or.inr ⟨rfl, by omega⟩), trivial⟩, hS.F ht⟩) hS.2.2 dX9_fault_29
    · refine lv_aload_n hx hb dX9_fault_21 rfl (lv_at hl 0 rfl) ?_
      refine va_get (D := (dC, dI)) (ci := 9) (v := .int (-1)) (C := RX9) (T := TX9) (N := 38) hx hb ht iX9 hown hK hP 0 rfl rfl 15 (by decide) (ht _ w_1277) (fun _ h9 => h9) rfl dX9_fault_22 ?_
      refine lv_goto (tgt := 29) hx hb dX9_fault_25 (by decide) ?_
      refine W.widen (k := 0) (n := 0) (Nat.le_of_ble_eq_true rfl) (Nat.le_of_ble_eq_true rfl) ?_
      exact W.iret (v := (-1)) hx hb hr (fun t ht hW => ⟨⟨(-1), (), rfl, (by (try simp only [i_lt, i_le, i_eq, l_lt, l_le, l_wd, T0, T1, T2, T3, T4, T5, T6, T7, T8, T9, T60, Tm1, L0, L1, L2, L3, L6, Lm1, L20, L60, L2e9] at c_1 c_2); first | exact Or.inl ⟨rfl, by omega⟩ | exact Or.inr ⟨rfl, by omega⟩), trivial⟩, hS.F ht⟩) hS.2.2 dX9_fault_29
  · refine lv_aload_n hx hb dX9_fault_9 rfl (lv_at hl 0 rfl) ?_
    refine va_get (D := (dC, dI)) (ci := 9) (v := .int 0) (C := RX9) (T := TX9) (N := 38) hx hb ht iX9 hown hK hP 0 rfl rfl 14 (by decide) (ht _ w_1276) (fun _ h9 => h9) rfl dX9_fault_10 ?_
    refine lv_goto (tgt := 29) hx hb dX9_fault_13 (by decide) ?_
    refine W.widen (k := 0) (n := 0) (Nat.le_of_ble_eq_true rfl) (Nat.le_of_ble_eq_true rfl) ?_
    exact W.iret (v := 0) hx hb hr (fun t ht hW => ⟨⟨0, (), rfl, (by (try simp only [i_lt, i_le, i_eq, l_lt, l_le, l_wd, T0, T1, T2, T3, T4, T5, T6, T7, T8, T9, T60, Tm1, L0, L1, L2, L3, L6, Lm1, L20, L60, L2e9] at c_1); first | exact Or.inl ⟨rfl, by omega⟩ | exact Or.inr ⟨rfl, by omega⟩), trivial⟩, hS.F ht⟩) hS.2.2 dX9_fault_29
set_option maxHeartbeats 4000000 in
set_option maxRecDepth 100000 in
theorem k_X9_back (l : Launch) (dC : Nat → ClassId) (dI : Nat → Nat → Nat) (cB cI cJ cZ cL : ClassId) (sz : Nat) (g : Nat → Nat) (p0 : Int32) : Met l yX9_back (wy yX9_back cX9_back 2 (some .int)) ({ frames := 1, cells := 0, slots := 0, locals := 40 }) (va_Pc [.ref (g 0), .int p0] (fun U => U.heap.size = sz ∧ va_P (dC, dI) vwCl [((g 0), .inr (9, [.int 0, .ref (g 1), .ref (g 2), .ref (g 3), .ref (g 4), .ref (g 5), .int 0, .int 0, .int 0, .int 0, .int 0, .long 0, .int 0, .int 0, .int 0, .int (-1), .ref (g 6), .ref (g 7), .ref (g 8), .ref (g 9), .ref (g 10), .ref (g 11), .int 0, .int 0, .int 0, .int 0, .int 0, .ref (g 12), .ref (g 13), .int 0, .ref (g 14), .ref (g 15), .long 0, .int 0, .int 0, .int 0, .ref (g 16), .ref (g 17)])), ((g 11), .inl (cZ, 3, .inl (fun _ => 0)))] U.heap ∧ va_K (dC, dI) vwCl (tyL cB cI cJ cZ cL) U ∧ va_D (fun _ => True) [((g 0), .inr (9, [.int 0, .ref (g 1), .ref (g 2), .ref (g 3), .ref (g 4), .ref (g 5), .int 0, .int 0, .int 0, .int 0, .int 0, .long 0, .int 0, .int 0, .int 0, .int (-1), .ref (g 6), .ref (g 7), .ref (g 8), .ref (g 9), .ref (g 10), .ref (g 11), .int 0, .int 0, .int 0, .int 0, .int 0, .ref (g 12), .ref (g 13), .int 0, .ref (g 14), .ref (g 15), .long 0, .int 0, .int 0, .int 0, .ref (g 16), .ref (g 17)])), ((g 11), .inl (cZ, 3, .inl (fun _ => 0)))])) (va_Qi (fun r _ => PBck (Int32.toInt p0) r) (fun (_ : Unit) _ => True) (va_A [((g 0), .inr (9, [.int 0, .ref (g 1), .ref (g 2), .ref (g 3), .ref (g 4), .ref (g 5), .int 0, .int 0, .int 0, .int 0, .int 0, .long 0, .int 0, .int 0, .int 0, .int (-1), .ref (g 6), .ref (g 7), .ref (g 8), .ref (g 9), .ref (g 10), .ref (g 11), .int 0, .int 0, .int 0, .int 0, .int 0, .ref (g 12), .ref (g 13), .int 0, .ref (g 14), .ref (g 15), .long 0, .int 0, .int 0, .int 0, .ref (g 16), .ref (g 17)])), ((g 11), .inl (cZ, 3, .inl (fun _ => 0)))] sz)) 0 0 (va_A [((g 0), .inr (9, [.int 0, .ref (g 1), .ref (g 2), .ref (g 3), .ref (g 4), .ref (g 5), .int 0, .int 0, .int 0, .int 0, .int 0, .long 0, .int 0, .int 0, .int 0, .int (-1), .ref (g 6), .ref (g 7), .ref (g 8), .ref (g 9), .ref (g 10), .ref (g 11), .int 0, .int 0, .int 0, .int 0, .int 0, .ref (g 12), .ref (g 13), .int 0, .ref (g 14), .ref (g 15), .long 0, .int 0, .int 0, .int 0, .ref (g 16), .ref (g 17)])), ((g 11), .inl (cZ, 3, .inl (fun _ => 0)))] sz) := by
  refine Met.ofW (cc := cX9_back) (maxL := 2) (ret := (some .int)) (by decide) rfl ?_
  intro p e s m args below meth c s₁ B hml hv
  obtain ⟨rfl, hsz, hP, hK, hD0⟩ := hv
  have hx := B.exec
  have hb := B.bytes
  have hr := B.returns
  have ht : ∀ w ∈ lw_ok, w.before _ s = true := fun w h => atoms_spec (ws := wy yX9_back cX9_back 2 (some .int)) B.pre w (List.mem_cons_of_mem _ h)
  have hown : s.vm.findClass RX9 = some m.cls := findClass_of_methodNamed B.named
  have hlocks := B.notSynchronized
  subst hsz
  have hD := hD0.self (sz := s.heap.size)
  generalize hAe : va_A [((g 0), .inr (9, [.int 0, .ref (g 1), .ref (g 2), .ref (g 3), .ref (g 4), .ref (g 5), .int 0, .int 0, .int 0, .int 0, .int 0, .long 0, .int 0, .int 0, .int 0, .int (-1), .ref (g 6), .ref (g 7), .ref (g 8), .ref (g 9), .ref (g 10), .ref (g 11), .int 0, .int 0, .int 0, .int 0, .int 0, .ref (g 12), .ref (g 13), .int 0, .ref (g 14), .ref (g 15), .long 0, .int 0, .int 0, .int 0, .ref (g 16), .ref (g 17)])), ((g 11), .inl (cZ, 3, .inl (fun _ => 0)))] s.heap.size = A at hD ⊢
  have hA : ∀ q : Nat, s.heap.size ≤ q → A q := fun q h => by rw [← hAe]; exact Or.inr h
  have hS : va_S A s.heap s.heap [] := va_S.rf
  have hl := lv_entry ([.ref (g 0), .int p0]) (n := 2) (Nat.le_of_ble_eq_true rfl)
  rw [lg_entry_eq]
  generalize (lg_sl ([.ref (g 0), .int p0]) ++ List.replicate (2 - (lg_sl ([.ref (g 0), .int p0])).length) Slot.unset).toArray = ls at hl ⊢
  have hl : lv_has ls 2 [(0, .ref (g 0)), (1, .int p0)] := hl
  have hP : va_P (dC, dI) vwCl [((g 0), .inr (9, [.int 0, .ref (g 1), .ref (g 2), .ref (g 3), .ref (g 4), .ref (g 5), .int 0, .int 0, .int 0, .int 0, .int 0, .long 0, .int 0, .int 0, .int 0, .int (-1), .ref (g 6), .ref (g 7), .ref (g 8), .ref (g 9), .ref (g 10), .ref (g 11), .int 0, .int 0, .int 0, .int 0, .int 0, .ref (g 12), .ref (g 13), .int 0, .ref (g 14), .ref (g 15), .long 0, .int 0, .int 0, .int 0, .ref (g 16), .ref (g 17)])), ((g 11), .inl (cZ, 3, .inl (fun _ => 0)))] s.heap := hP
  have hD : va_D A [((g 0), .inr (9, [.int 0, .ref (g 1), .ref (g 2), .ref (g 3), .ref (g 4), .ref (g 5), .int 0, .int 0, .int 0, .int 0, .int 0, .long 0, .int 0, .int 0, .int 0, .int (-1), .ref (g 6), .ref (g 7), .ref (g 8), .ref (g 9), .ref (g 10), .ref (g 11), .int 0, .int 0, .int 0, .int 0, .int 0, .ref (g 12), .ref (g 13), .int 0, .ref (g 14), .ref (g 15), .long 0, .int 0, .int 0, .int 0, .ref (g 16), .ref (g 17)])), ((g 11), .inl (cZ, 3, .inl (fun _ => 0)))] := hD
  refine lv_aload_n hx hb dX9_back_0 rfl (lv_at hl 0 rfl) ?_
  refine lv_iconst (v := 0) hx hb dX9_back_1 (by decide) ?_
  refine va_put (D := (dC, dI)) (ci := 9) (v := .int 0) (ty := .int) (C := RX9) (T := TX9) (N := 38) hx hb ht iX9 tyX9 tyX9_ok nmX9 hown hK hP hD hS 0 rfl rfl 0 (by decide) (ht _ w_1262) (fun _ h9 => h9) rfl (by decide +kernel) rfl rfl (Nat.le_of_ble_eq_true rfl) dX9_back_2 (fun H locs hP hD hS => ?_)
  have hP : va_P (dC, dI) vwCl [((g 0), .inr (9, [.int 0, .ref (g 1), .ref (g 2), .ref (g 3), .ref (g 4), .ref (g 5), .int 0, .int 0, .int 0, .int 0, .int 0, .long 0, .int 0, .int 0, .int 0, .int (-1), .ref (g 6), .ref (g 7), .ref (g 8), .ref (g 9), .ref (g 10), .ref (g 11), .int 0, .int 0, .int 0, .int 0, .int 0, .ref (g 12), .ref (g 13), .int 0, .ref (g 14), .ref (g 15), .long 0, .int 0, .int 0, .int 0, .ref (g 16), .ref (g 17)])), ((g 11), .inl (cZ, 3, .inl (fun _ => 0)))] H := hP
  have hD : va_D A [((g 0), .inr (9, [.int 0, .ref (g 1), .ref (g 2), .ref (g 3), .ref (g 4), .ref (g 5), .int 0, .int 0, .int 0, .int 0, .int 0, .long 0, .int 0, .int 0, .int 0, .int (-1), .ref (g 6), .ref (g 7), .ref (g 8), .ref (g 9), .ref (g 10), .ref (g 11), .int 0, .int 0, .int 0, .int 0, .int 0, .ref (g 12), .ref (g 13), .int 0, .ref (g 14), .ref (g 15), .long 0, .int 0, .int 0, .int 0, .ref (g 16), .ref (g 17)])), ((g 11), .inl (cZ, 3, .inl (fun _ => 0)))] := hD
  refine lv_iload_n hx hb dX9_back_5 rfl (lv_at hl 1 rfl) ?_
  refine lv_i2l (v := (Int32.toInt64 p0)) hx hb dX9_back_6 (by first | rfl | decide) ?_
  refine lv_lconst (v := 0) hx hb dX9_back_7 (by decide) ?_
  refine lv_ldc2 hx hb hown (ht _ w_1525) dX9_back_8 ?_
  have hPc := hP.sub (ws' := []) [] rfl
  refine vp_callSi (W.runS (As := [.long (Int32.toInt64 p0), .long 0, .long 2]) (rest := []) ⟨hx, hb, hml, hown, ht⟩ (k_X9_in l dC dI cB cI cJ cZ cL (Int32.toInt64 p0) 0 2) (va_cwS 3 ht (gQ w_1386 w_1387 w_114 w_1388) rfl rfl rfl (by decide +kernel) ⟨Nat.le_of_ble_eq_true rfl, Nat.le_of_ble_eq_true rfl⟩) (pSS hK hPc) rfl rfl hl.1 rfl (lv_room (Nat.le_of_ble_eq_true rfl)) dX9_back_11 ⟨Nat.le_of_ble_eq_true rfl, Nat.le_of_ble_eq_true rfl⟩) (fun r_1 hw => ?_)
  rcases hw with ⟨hw, c_2⟩ | ⟨hw, c_2⟩
  · subst hw
    refine lv_if_ne (tgt := 20) hx hb dX9_back_14 (by decide) (fun _ => ?_) (fun c9 => by first | exact absurd (by decide) c9 | exact absurd c9 (by decide))
    refine lv_aload_n hx hb dX9_back_20 rfl (lv_at hl 0 rfl) ?_
    refine va_get (D := (dC, dI)) (ci := 9) (v := .ref (g 11)) (C := RX9) (T := TX9) (N := 38) hx hb ht iX9 hown hK hP 0 rfl rfl 21 (by decide) (ht _ w_1283) (fun _ h9 => h9) rfl dX9_back_21 ?_
    refine lv_iload_n hx hb dX9_back_24 rfl (lv_at hl 1 rfl) ?_
    refine va_zald hx hb hK hP 1 3 rfl rfl (vp_in_iff.mpr (by (try simp only [i_lt, i_le, i_eq, l_lt, l_le, l_wd, T0, T1, T2, T3, T4, T5, T6, T7, T8, T9, T60, Tm1, L0, L1, L2, L3, L6, Lm1, L20, L60, L2e9] at c_2); omega)) dX9_back_25 ?_
    refine W.eq (g2 := F0 m 26 ls [.int 0]) rfl ?_
    refine lv_if_ne (tgt := 32) hx hb dX9_back_26 (by decide) (fun c9 => by first | exact absurd c9 (by decide) | exact absurd (by decide) c9) (fun _ => ?_)
    refine lv_bipush (v := (-6)) hx hb dX9_back_29 (by decide) ?_
    refine W.widen (k := 0) (n := 0) (Nat.le_of_ble_eq_true rfl) (Nat.le_of_ble_eq_true rfl) ?_
    exact W.iret (v := (-6)) hx hb hr (fun t ht hW => ⟨⟨(-6), (), rfl, (by (try simp only [i_lt, i_le, i_eq, l_lt, l_le, l_wd, T0, T1, T2, T3, T4, T5, T6, T7, T8, T9, T60, Tm1, L0, L1, L2, L3, L6, Lm1, L20, L60, L2e9] at c_2); first | exact Or.inl ⟨rfl, by omega⟩ | exact Or.inr ⟨rfl, by omega⟩), trivial⟩, hS.F ht⟩) hS.2.2 dX9_back_31
  · subst hw
    refine lv_if_ne (tgt := 20) hx hb dX9_back_14 (by decide) (fun c9 => by first | exact absurd c9 (by decide) | exact absurd (by decide) c9) (fun _ => ?_)
    refine lv_bipush (v := (-2)) hx hb dX9_back_17 (by decide) ?_
    refine W.widen (k := 0) (n := 0) (Nat.le_of_ble_eq_true rfl) (Nat.le_of_ble_eq_true rfl) ?_
    exact W.iret (v := (-2)) hx hb hr (fun t ht hW => ⟨⟨(-2), (), rfl, (by (try simp only [i_lt, i_le, i_eq, l_lt, l_le, l_wd, T0, T1, T2, T3, T4, T5, T6, T7, T8, T9, T60, Tm1, L0, L1, L2, L3, L6, Lm1, L20, L60, L2e9] at c_2); first | exact Or.inl ⟨rfl, by omega⟩ | exact Or.inr ⟨rfl, by omega⟩), trivial⟩, hS.F ht⟩) hS.2.2 dX9_back_19
set_option maxHeartbeats 4000000 in
set_option maxRecDepth 100000 in
theorem k_X9_count (l : Launch) (dC : Nat → ClassId) (dI : Nat → Nat → Nat) (cB cI cJ cZ cL : ClassId) (sz : Nat) (g : Nat → Nat) (fw : Nat → Int32) (p0 : Int32) (hfw : ∀ j, j < 4 → fw j = -1): Met l yX9_count (wy yX9_count cX9_count 4 (some .int)) ({ frames := 1, cells := 0, slots := 0, locals := 40 }) (va_Pc [.ref (g 0), .int p0] (fun U => U.heap.size = sz ∧ va_P (dC, dI) vwCl [((g 0), .inr (9, [.int 0, .ref (g 1), .ref (g 2), .ref (g 3), .ref (g 4), .ref (g 5), .int 0, .int 0, .int 0, .int 0, .int 0, .long 0, .int 0, .int 0, .int 0, .int (-1), .ref (g 6), .ref (g 7), .ref (g 8), .ref (g 9), .ref (g 10), .ref (g 11), .int 0, .int 0, .int 0, .int 0, .int 0, .ref (g 12), .ref (g 13), .int 0, .ref (g 14), .ref (g 15), .long 0, .int 0, .int 0, .int 0, .ref (g 16), .ref (g 17)])), ((g 7), .inl (cI, 35, .inl (fun _ => 0))), ((g 6), .inl (cI, 5, .inl (fun _ => 0))), ((g 1), .inl (cI, 4, .inl fw))] U.heap ∧ va_K (dC, dI) vwCl (tyL cB cI cJ cZ cL) U ∧ va_D (fun _ => True) [((g 0), .inr (9, [.int 0, .ref (g 1), .ref (g 2), .ref (g 3), .ref (g 4), .ref (g 5), .int 0, .int 0, .int 0, .int 0, .int 0, .long 0, .int 0, .int 0, .int 0, .int (-1), .ref (g 6), .ref (g 7), .ref (g 8), .ref (g 9), .ref (g 10), .ref (g 11), .int 0, .int 0, .int 0, .int 0, .int 0, .ref (g 12), .ref (g 13), .int 0, .ref (g 14), .ref (g 15), .long 0, .int 0, .int 0, .int 0, .ref (g 16), .ref (g 17)])), ((g 7), .inl (cI, 35, .inl (fun _ => 0))), ((g 6), .inl (cI, 5, .inl (fun _ => 0))), ((g 1), .inl (cI, 4, .inl fw))])) (va_Qi (fun r _ => PCnt (Int32.toInt p0) r) (fun (_ : Unit) _ => True) (va_A [((g 0), .inr (9, [.int 0, .ref (g 1), .ref (g 2), .ref (g 3), .ref (g 4), .ref (g 5), .int 0, .int 0, .int 0, .int 0, .int 0, .long 0, .int 0, .int 0, .int 0, .int (-1), .ref (g 6), .ref (g 7), .ref (g 8), .ref (g 9), .ref (g 10), .ref (g 11), .int 0, .int 0, .int 0, .int 0, .int 0, .ref (g 12), .ref (g 13), .int 0, .ref (g 14), .ref (g 15), .long 0, .int 0, .int 0, .int 0, .ref (g 16), .ref (g 17)])), ((g 7), .inl (cI, 35, .inl (fun _ => 0))), ((g 6), .inl (cI, 5, .inl (fun _ => 0))), ((g 1), .inl (cI, 4, .inl fw))] sz)) 0 0 (va_A [((g 0), .inr (9, [.int 0, .ref (g 1), .ref (g 2), .ref (g 3), .ref (g 4), .ref (g 5), .int 0, .int 0, .int 0, .int 0, .int 0, .long 0, .int 0, .int 0, .int 0, .int (-1), .ref (g 6), .ref (g 7), .ref (g 8), .ref (g 9), .ref (g 10), .ref (g 11), .int 0, .int 0, .int 0, .int 0, .int 0, .ref (g 12), .ref (g 13), .int 0, .ref (g 14), .ref (g 15), .long 0, .int 0, .int 0, .int 0, .ref (g 16), .ref (g 17)])), ((g 7), .inl (cI, 35, .inl (fun _ => 0))), ((g 6), .inl (cI, 5, .inl (fun _ => 0))), ((g 1), .inl (cI, 4, .inl fw))] sz) := by
  refine Met.ofW (cc := cX9_count) (maxL := 4) (ret := (some .int)) (by decide) rfl ?_
  intro p e s m args below meth c s₁ B hml hv
  obtain ⟨rfl, hsz, hP, hK, hD0⟩ := hv
  have hx := B.exec
  have hb := B.bytes
  have hr := B.returns
  have ht : ∀ w ∈ lw_ok, w.before _ s = true := fun w h => atoms_spec (ws := wy yX9_count cX9_count 4 (some .int)) B.pre w (List.mem_cons_of_mem _ h)
  have hown : s.vm.findClass RX9 = some m.cls := findClass_of_methodNamed B.named
  have hlocks := B.notSynchronized
  subst hsz
  have hD := hD0.self (sz := s.heap.size)
  generalize hAe : va_A [((g 0), .inr (9, [.int 0, .ref (g 1), .ref (g 2), .ref (g 3), .ref (g 4), .ref (g 5), .int 0, .int 0, .int 0, .int 0, .int 0, .long 0, .int 0, .int 0, .int 0, .int (-1), .ref (g 6), .ref (g 7), .ref (g 8), .ref (g 9), .ref (g 10), .ref (g 11), .int 0, .int 0, .int 0, .int 0, .int 0, .ref (g 12), .ref (g 13), .int 0, .ref (g 14), .ref (g 15), .long 0, .int 0, .int 0, .int 0, .ref (g 16), .ref (g 17)])), ((g 7), .inl (cI, 35, .inl (fun _ => 0))), ((g 6), .inl (cI, 5, .inl (fun _ => 0))), ((g 1), .inl (cI, 4, .inl fw))] s.heap.size = A at hD ⊢
  have hA : ∀ q : Nat, s.heap.size ≤ q → A q := fun q h => by rw [← hAe]; exact Or.inr h
  have hS : va_S A s.heap s.heap [] := va_S.rf
  have hl := lv_entry ([.ref (g 0), .int p0]) (n := 4) (Nat.le_of_ble_eq_true rfl)
  rw [lg_entry_eq]
  generalize (lg_sl ([.ref (g 0), .int p0]) ++ List.replicate (4 - (lg_sl ([.ref (g 0), .int p0])).length) Slot.unset).toArray = ls at hl ⊢
  have hl : lv_has ls 4 [(0, .ref (g 0)), (1, .int p0)] := hl
  have hP : va_P (dC, dI) vwCl [((g 0), .inr (9, [.int 0, .ref (g 1), .ref (g 2), .ref (g 3), .ref (g 4), .ref (g 5), .int 0, .int 0, .int 0, .int 0, .int 0, .long 0, .int 0, .int 0, .int 0, .int (-1), .ref (g 6), .ref (g 7), .ref (g 8), .ref (g 9), .ref (g 10), .ref (g 11), .int 0, .int 0, .int 0, .int 0, .int 0, .ref (g 12), .ref (g 13), .int 0, .ref (g 14), .ref (g 15), .long 0, .int 0, .int 0, .int 0, .ref (g 16), .ref (g 17)])), ((g 7), .inl (cI, 35, .inl (fun _ => 0))), ((g 6), .inl (cI, 5, .inl (fun _ => 0))), ((g 1), .inl (cI, 4, .inl fw))] s.heap := hP
  have hD : va_D A [((g 0), .inr (9, [.int 0, .ref (g 1), .ref (g 2), .ref (g 3), .ref (g 4), .ref (g 5), .int 0, .int 0, .int 0, .int 0, .int 0, .long 0, .int 0, .int 0, .int 0, .int (-1), .ref (g 6), .ref (g 7), .ref (g 8), .ref (g 9), .ref (g 10), .ref (g 11), .int 0, .int 0, .int 0, .int 0, .int 0, .ref (g 12), .ref (g 13), .int 0, .ref (g 14), .ref (g 15), .long 0, .int 0, .int 0, .int 0, .ref (g 16), .ref (g 17)])), ((g 7), .inl (cI, 35, .inl (fun _ => 0))), ((g 6), .inl (cI, 5, .inl (fun _ => 0))), ((g 1), .inl (cI, 4, .inl fw))] := hD
  refine lv_aload_n hx hb dX9_count_0 rfl (lv_at hl 0 rfl) ?_
  refine lv_iconst (v := 0) hx hb dX9_count_1 (by decide) ?_
  refine va_put (D := (dC, dI)) (ci := 9) (v := .int 0) (ty := .int) (C := RX9) (T := TX9) (N := 38) hx hb ht iX9 tyX9 tyX9_ok nmX9 hown hK hP hD hS 0 rfl rfl 0 (by decide) (ht _ w_1262) (fun _ h9 => h9) rfl (by decide +kernel) rfl rfl (Nat.le_of_ble_eq_true rfl) dX9_count_2 (fun H locs hP hD hS => ?_)
  have hP : va_P (dC, dI) vwCl [((g 0), .inr (9, [.int 0, .ref (g 1), .ref (g 2), .ref (g 3), .ref (g 4), .ref (g 5), .int 0, .int 0, .int 0, .int 0, .int 0, .long 0, .int 0, .int 0, .int 0, .int (-1), .ref (g 6), .ref (g 7), .ref (g 8), .ref (g 9), .ref (g 10), .ref (g 11), .int 0, .int 0, .int 0, .int 0, .int 0, .ref (g 12), .ref (g 13), .int 0, .ref (g 14), .ref (g 15), .long 0, .int 0, .int 0, .int 0, .ref (g 16), .ref (g 17)])), ((g 7), .inl (cI, 35, .inl (fun _ => 0))), ((g 6), .inl (cI, 5, .inl (fun _ => 0))), ((g 1), .inl (cI, 4, .inl fw))] H := hP
  have hD : va_D A [((g 0), .inr (9, [.int 0, .ref (g 1), .ref (g 2), .ref (g 3), .ref (g 4), .ref (g 5), .int 0, .int 0, .int 0, .int 0, .int 0, .long 0, .int 0, .int 0, .int 0, .int (-1), .ref (g 6), .ref (g 7), .ref (g 8), .ref (g 9), .ref (g 10), .ref (g 11), .int 0, .int 0, .int 0, .int 0, .int 0, .ref (g 12), .ref (g 13), .int 0, .ref (g 14), .ref (g 15), .long 0, .int 0, .int 0, .int 0, .ref (g 16), .ref (g 17)])), ((g 7), .inl (cI, 35, .inl (fun _ => 0))), ((g 6), .inl (cI, 5, .inl (fun _ => 0))), ((g 1), .inl (cI, 4, .inl fw))] := hD
  refine lv_iload_n hx hb dX9_count_5 rfl (lv_at hl 1 rfl) ?_
  refine lv_i2l (v := (Int32.toInt64 p0)) hx hb dX9_count_6 (by first | rfl | decide) ?_
  refine lv_lconst (v := 0) hx hb dX9_count_7 (by decide) ?_
  refine lv_ldc2 hx hb hown (ht _ w_2011) dX9_count_8 ?_
  have hPc := hP.sub (ws' := []) [] rfl
  refine vp_callSi (W.runS (As := [.long (Int32.toInt64 p0), .long 0, .long 6]) (rest := []) ⟨hx, hb, hml, hown, ht⟩ (k_X9_in l dC dI cB cI cJ cZ cL (Int32.toInt64 p0) 0 6) (va_cwS 3 ht (gQ w_1386 w_1387 w_114 w_1388) rfl rfl rfl (by decide +kernel) ⟨Nat.le_of_ble_eq_true rfl, Nat.le_of_ble_eq_true rfl⟩) (pSS hK hPc) rfl rfl hl.1 rfl (lv_room (Nat.le_of_ble_eq_true rfl)) dX9_count_11 ⟨Nat.le_of_ble_eq_true rfl, Nat.le_of_ble_eq_true rfl⟩) (fun r_1 hw => ?_)
  rcases hw with ⟨hw, c_2⟩ | ⟨hw, c_2⟩
  · subst hw
    refine lv_if_eq (tgt := 24) hx hb dX9_count_14 (by decide) (fun c9 => by first | exact absurd c9 (by decide) | exact absurd (by decide) c9) (fun _ => ?_)
    refine lv_aload_n hx hb dX9_count_17 rfl (lv_at hl 0 rfl) ?_
    refine va_get (D := (dC, dI)) (ci := 9) (v := .ref (g 7)) (C := RX9) (T := TX9) (N := 38) hx hb ht iX9 hown hK hP 0 rfl rfl 17 (by decide) (ht _ w_1279) (fun _ h9 => h9) rfl dX9_count_18 ?_
    refine lv_iload_n hx hb dX9_count_21 rfl (lv_at hl 1 rfl) ?_
    refine va_iald hx hb hK hP 1 1 rfl rfl (vp_in_iff.mpr (by (try simp only [i_lt, i_le, i_eq, l_lt, l_le, l_wd, T0, T1, T2, T3, T4, T5, T6, T7, T8, T9, T60, Tm1, L0, L1, L2, L3, L6, Lm1, L20, L60, L2e9] at c_2); omega)) dX9_count_22 ?_
    refine W.eq (g2 := F0 m 23 ls [.int 0]) rfl ?_
    refine W.widen (k := 0) (n := 0) (Nat.le_of_ble_eq_true rfl) (Nat.le_of_ble_eq_true rfl) ?_
    exact W.iret (v := 0) hx hb hr (fun t ht hW => ⟨⟨0, (), rfl, (by (try simp only [i_lt, i_le, i_eq, l_lt, l_le, l_wd, T0, T1, T2, T3, T4, T5, T6, T7, T8, T9, T60, Tm1, L0, L1, L2, L3, L6, Lm1, L20, L60, L2e9] at c_2); first | exact Or.inl ⟨rfl, by omega⟩ | exact Or.inr ⟨rfl, by omega⟩), trivial⟩, hS.F ht⟩) hS.2.2 dX9_count_23
  · subst hw
    refine lv_if_eq (tgt := 24) hx hb dX9_count_14 (by decide) (fun _ => ?_) (fun c9 => by first | exact absurd (by decide) c9 | exact absurd c9 (by decide))
    refine lv_iconst (v := 0) hx hb dX9_count_24 (by decide) ?_
    refine lv_istore_n (lv' := [(2, .int 0), (0, .ref (g 0)), (1, .int p0)]) hx hb dX9_count_25 rfl hl (by decide) rfl (fun ls hl => ?_)
    refine lv_iload_n hx hb dX9_count_26 rfl (lv_at hl 2 rfl) ?_
    by_cases c_3 : p0 = 7
    · refine lv_topi (fun y_4 ey_4 => ?_)
      obtain rfl : y_4 = 7 := ey_4.trans c_3
      refine lv_tableIn (off := 25) (tgt := 52) hx hb dX9_count_27 (by decide) (by decide) (by decide) (by decide) ?_
      refine lv_aload_n hx hb dX9_count_52 rfl (lv_at hl 1 rfl) ?_
      refine va_get (D := (dC, dI)) (ci := 9) (v := .ref (g 6)) (C := RX9) (T := TX9) (N := 38) hx hb ht iX9 hown hK hP 0 rfl rfl 16 (by decide) (ht _ w_1278) (fun _ h9 => h9) rfl dX9_count_53 ?_
      refine lv_iconst (v := 0) hx hb dX9_count_56 (by decide) ?_
      refine va_iald hx hb hK hP 2 1 rfl rfl (by unfold vp_in; decide) dX9_count_57 ?_
      refine W.eq (g2 := F0 m 58 ls [.int 0]) rfl ?_
      refine W.widen (k := 0) (n := 0) (Nat.le_of_ble_eq_true rfl) (Nat.le_of_ble_eq_true rfl) ?_
      exact W.iret (v := 0) hx hb hr (fun t ht hW => ⟨⟨0, (), rfl, (by (try simp only [i_lt, i_le, i_eq, l_lt, l_le, l_wd, T0, T1, T2, T3, T4, T5, T6, T7, T8, T9, T60, Tm1, L0, L1, L2, L3, L6, Lm1, L20, L60, L2e9] at c_2 c_3); first | exact Or.inl ⟨rfl, by omega⟩ | exact Or.inr ⟨rfl, by omega⟩), trivial⟩, hS.F ht⟩) hS.2.2 dX9_count_58
    by_cases c_5 : p0 = 8
    · refine lv_topi (fun y_6 ey_6 => ?_)
      obtain rfl : y_6 = 8 := ey_6.trans c_5
      refine lv_tableIn (off := 32) (tgt := 59) hx hb dX9_count_27 (by decide) (by decide) (by decide) (by decide) ?_
      refine lv_aload_n hx hb dX9_count_59 rfl (lv_at hl 1 rfl) ?_
      refine va_get (D := (dC, dI)) (ci := 9) (v := .int 0) (C := RX9) (T := TX9) (N := 38) hx hb ht iX9 hown hK hP 0 rfl rfl 6 (by decide) (ht _ w_1268) (fun _ h9 => h9) rfl dX9_count_60 ?_
      refine W.widen (k := 0) (n := 0) (Nat.le_of_ble_eq_true rfl) (Nat.le_of_ble_eq_true rfl) ?_
      exact W.iret (v := 0) hx hb hr (fun t ht hW => ⟨⟨0, (), rfl, (by (try simp only [i_lt, i_le, i_eq, l_lt, l_le, l_wd, T0, T1, T2, T3, T4, T5, T6, T7, T8, T9, T60, Tm1, L0, L1, L2, L3, L6, Lm1, L20, L60, L2e9] at c_2 c_3 c_5); first | exact Or.inl ⟨rfl, by omega⟩ | exact Or.inr ⟨rfl, by omega⟩), trivial⟩, hS.F ht⟩) hS.2.2 dX9_count_63
    by_cases c_7 : p0 = 9
    · refine lv_topi (fun y_8 ey_8 => ?_)
      obtain rfl : y_8 = 9 := ey_8.trans c_7
      refine lv_tableIn (off := 37) (tgt := 64) hx hb dX9_count_27 (by decide) (by decide) (by decide) (by decide) ?_
      refine lv_iconst (v := 0) hx hb dX9_count_64 (by decide) ?_
      refine lv_istore_n (lv' := [(3, .int 0), (2, .int 0), (0, .ref (g 0)), (1, .int p0)]) hx hb dX9_count_65 rfl hl (by decide) rfl (fun ls hl => ?_)
      refine lv_iload_n hx hb dX9_count_66 rfl (lv_at hl 0 rfl) ?_
      refine lv_iconst (v := 4) hx hb dX9_count_67 (by decide) ?_
      refine lv_icmp_ge (tgt := 95) hx hb dX9_count_68 (by decide) (fun c9 => by first | exact absurd c9 (by decide) | exact absurd (by decide) c9) (fun _ => ?_)
      refine lv_iload_n hx hb dX9_count_71 rfl (lv_at hl 1 rfl) ?_
      refine lv_aload_n hx hb dX9_count_72 rfl (lv_at hl 2 rfl) ?_
      refine va_get (D := (dC, dI)) (ci := 9) (v := .ref (g 1)) (C := RX9) (T := TX9) (N := 38) hx hb ht iX9 hown hK hP 0 rfl rfl 1 (by decide) (ht _ w_1263) (fun _ h9 => h9) rfl dX9_count_73 ?_
      refine lv_iload_n hx hb dX9_count_76 rfl (lv_at hl 0 rfl) ?_
      refine va_iald hx hb hK hP 3 1 rfl rfl (by unfold vp_in; decide) dX9_count_77 ?_
      refine lv_topi (fun y_9 ey_9 => ?_)
      obtain rfl : y_9 = (-1) := ey_9.trans (hfw _ (Nat.not_le.mp (fun q => (vp_in_iff.mpr (by decide) : vp_in 0 4) (Or.inr q))))
      refine lv_iconst (v := (-1)) hx hb dX9_count_78 (by decide) ?_
      refine lv_icmp_ne (tgt := 86) hx hb dX9_count_79 (by decide) (fun c9 => by first | exact absurd c9 (by decide) | exact absurd (by decide) c9) (fun _ => ?_)
      refine lv_iconst (v := 0) hx hb dX9_count_82 (by decide) ?_
      refine lv_goto (tgt := 87) hx hb dX9_count_83 (by decide) ?_
      refine lv_iadd hx hb dX9_count_87 ?_
      refine lv_topi (fun y_10 ey_10 => ?_)
      obtain rfl : y_10 = 0 := ey_10.trans (by decide)
      refine lv_istore_n (lv' := [(2, .int 0), (3, .int 0), (0, .ref (g 0)), (1, .int p0)]) hx hb dX9_count_88 rfl hl (by decide) rfl (fun ls hl => ?_)
      refine lv_iinc (v := 1) (lv' := [(3, .int 1), (2, .int 0), (0, .ref (g 0)), (1, .int p0)]) hx hb dX9_count_89 hl (k := 1) rfl (by decide) (by decide) rfl (fun ls hl => ?_)
      refine lv_goto (tgt := 66) hx hb dX9_count_92 (by decide) ?_
      refine lv_iload_n hx hb dX9_count_66 rfl (lv_at hl 0 rfl) ?_
      refine lv_iconst (v := 4) hx hb dX9_count_67 (by decide) ?_
      refine lv_icmp_ge (tgt := 95) hx hb dX9_count_68 (by decide) (fun c9 => by first | exact absurd c9 (by decide) | exact absurd (by decide) c9) (fun _ => ?_)
      refine lv_iload_n hx hb dX9_count_71 rfl (lv_at hl 1 rfl) ?_
      refine lv_aload_n hx hb dX9_count_72 rfl (lv_at hl 2 rfl) ?_
      refine va_get (D := (dC, dI)) (ci := 9) (v := .ref (g 1)) (C := RX9) (T := TX9) (N := 38) hx hb ht iX9 hown hK hP 0 rfl rfl 1 (by decide) (ht _ w_1263) (fun _ h9 => h9) rfl dX9_count_73 ?_
      refine lv_iload_n hx hb dX9_count_76 rfl (lv_at hl 0 rfl) ?_
      refine va_iald hx hb hK hP 3 1 rfl rfl (by unfold vp_in; decide) dX9_count_77 ?_
      refine lv_topi (fun y_11 ey_11 => ?_)
      obtain rfl : y_11 = (-1) := ey_11.trans (hfw _ (Nat.not_le.mp (fun q => (vp_in_iff.mpr (by decide) : vp_in 1 4) (Or.inr q))))
      refine lv_iconst (v := (-1)) hx hb dX9_count_78 (by decide) ?_
      refine lv_icmp_ne (tgt := 86) hx hb dX9_count_79 (by decide) (fun c9 => by first | exact absurd c9 (by decide) | exact absurd (by decide) c9) (fun _ => ?_)
      refine lv_iconst (v := 0) hx hb dX9_count_82 (by decide) ?_
      refine lv_goto (tgt := 87) hx hb dX9_count_83 (by decide) ?_
      refine lv_iadd hx hb dX9_count_87 ?_
      refine lv_topi (fun y_12 ey_12 => ?_)
      obtain rfl : y_12 = 0 := ey_12.trans (by decide)
      refine lv_istore_n (lv' := [(2, .int 0), (3, .int 1), (0, .ref (g 0)), (1, .int p0)]) hx hb dX9_count_88 rfl hl (by decide) rfl (fun ls hl => ?_)
      refine lv_iinc (v := 2) (lv' := [(3, .int 2), (2, .int 0), (0, .ref (g 0)), (1, .int p0)]) hx hb dX9_count_89 hl (k := 1) rfl (by decide) (by decide) rfl (fun ls hl => ?_)
      refine lv_goto (tgt := 66) hx hb dX9_count_92 (by decide) ?_
      refine lv_iload_n hx hb dX9_count_66 rfl (lv_at hl 0 rfl) ?_
      refine lv_iconst (v := 4) hx hb dX9_count_67 (by decide) ?_
      refine lv_icmp_ge (tgt := 95) hx hb dX9_count_68 (by decide) (fun c9 => by first | exact absurd c9 (by decide) | exact absurd (by decide) c9) (fun _ => ?_)
      refine lv_iload_n hx hb dX9_count_71 rfl (lv_at hl 1 rfl) ?_
      refine lv_aload_n hx hb dX9_count_72 rfl (lv_at hl 2 rfl) ?_
      refine va_get (D := (dC, dI)) (ci := 9) (v := .ref (g 1)) (C := RX9) (T := TX9) (N := 38) hx hb ht iX9 hown hK hP 0 rfl rfl 1 (by decide) (ht _ w_1263) (fun _ h9 => h9) rfl dX9_count_73 ?_
      refine lv_iload_n hx hb dX9_count_76 rfl (lv_at hl 0 rfl) ?_
      refine va_iald hx hb hK hP 3 1 rfl rfl (by unfold vp_in; decide) dX9_count_77 ?_
      refine lv_topi (fun y_13 ey_13 => ?_)
      obtain rfl : y_13 = (-1) := ey_13.trans (hfw _ (Nat.not_le.mp (fun q => (vp_in_iff.mpr (by decide) : vp_in 2 4) (Or.inr q))))
      refine lv_iconst (v := (-1)) hx hb dX9_count_78 (by decide) ?_
      refine lv_icmp_ne (tgt := 86) hx hb dX9_count_79 (by decide) (fun c9 => by first | exact absurd c9 (by decide) | exact absurd (by decide) c9) (fun _ => ?_)
      refine lv_iconst (v := 0) hx hb dX9_count_82 (by decide) ?_
      refine lv_goto (tgt := 87) hx hb dX9_count_83 (by decide) ?_
      refine lv_iadd hx hb dX9_count_87 ?_
      refine lv_topi (fun y_14 ey_14 => ?_)
      obtain rfl : y_14 = 0 := ey_14.trans (by decide)
      refine lv_istore_n (lv' := [(2, .int 0), (3, .int 2), (0, .ref (g 0)), (1, .int p0)]) hx hb dX9_count_88 rfl hl (by decide) rfl (fun ls hl => ?_)
      refine lv_iinc (v := 3) (lv' := [(3, .int 3), (2, .int 0), (0, .ref (g 0)), (1, .int p0)]) hx hb dX9_count_89 hl (k := 1) rfl (by decide) (by decide) rfl (fun ls hl => ?_)
      refine lv_goto (tgt := 66) hx hb dX9_count_92 (by decide) ?_
      refine lv_iload_n hx hb dX9_count_66 rfl (lv_at hl 0 rfl) ?_
      refine lv_iconst (v := 4) hx hb dX9_count_67 (by decide) ?_
      refine lv_icmp_ge (tgt := 95) hx hb dX9_count_68 (by decide) (fun c9 => by first | exact absurd c9 (by decide) | exact absurd (by decide) c9) (fun _ => ?_)
      refine lv_iload_n hx hb dX9_count_71 rfl (lv_at hl 1 rfl) ?_
      refine lv_aload_n hx hb dX9_count_72 rfl (lv_at hl 2 rfl) ?_
      refine va_get (D := (dC, dI)) (ci := 9) (v := .ref (g 1)) (C := RX9) (T := TX9) (N := 38) hx hb ht iX9 hown hK hP 0 rfl rfl 1 (by decide) (ht _ w_1263) (fun _ h9 => h9) rfl dX9_count_73 ?_
      refine lv_iload_n hx hb dX9_count_76 rfl (lv_at hl 0 rfl) ?_
      refine va_iald hx hb hK hP 3 1 rfl rfl (by unfold vp_in; decide) dX9_count_77 ?_
      refine lv_topi (fun y_15 ey_15 => ?_)
      obtain rfl : y_15 = (-1) := ey_15.trans (hfw _ (Nat.not_le.mp (fun q => (vp_in_iff.mpr (by decide) : vp_in 3 4) (Or.inr q))))
      refine lv_iconst (v := (-1)) hx hb dX9_count_78 (by decide) ?_
      refine lv_icmp_ne (tgt := 86) hx hb dX9_count_79 (by decide) (fun c9 => by first | exact absurd c9 (by decide) | exact absurd (by decide) c9) (fun _ => ?_)
      refine lv_iconst (v := 0) hx hb dX9_count_82 (by decide) ?_
      refine lv_goto (tgt := 87) hx hb dX9_count_83 (by decide) ?_
      refine lv_iadd hx hb dX9_count_87 ?_
      refine lv_topi (fun y_16 ey_16 => ?_)
      obtain rfl : y_16 = 0 := ey_16.trans (by decide)
      refine lv_istore_n (lv' := [(2, .int 0), (3, .int 3), (0, .ref (g 0)), (1, .int p0)]) hx hb dX9_count_88 rfl hl (by decide) rfl (fun ls hl => ?_)
      refine lv_iinc (v := 4) (lv' := [(3, .int 4), (2, .int 0), (0, .ref (g 0)), (1, .int p0)]) hx hb dX9_count_89 hl (k := 1) rfl (by decide) (by decide) rfl (fun ls hl => ?_)
      refine lv_goto (tgt := 66) hx hb dX9_count_92 (by decide) ?_
      refine lv_iload_n hx hb dX9_count_66 rfl (lv_at hl 0 rfl) ?_
      refine lv_iconst (v := 4) hx hb dX9_count_67 (by decide) ?_
      refine lv_icmp_ge (tgt := 95) hx hb dX9_count_68 (by decide) (fun _ => ?_) (fun c9 => by first | exact absurd (by decide) c9 | exact absurd c9 (by decide))
      refine lv_iload_n hx hb dX9_count_95 rfl (lv_at hl 1 rfl) ?_
      refine W.widen (k := 0) (n := 0) (Nat.le_of_ble_eq_true rfl) (Nat.le_of_ble_eq_true rfl) ?_
      exact W.iret (v := 0) hx hb hr (fun t ht hW => ⟨⟨0, (), rfl, (by (try simp only [i_lt, i_le, i_eq, l_lt, l_le, l_wd, T0, T1, T2, T3, T4, T5, T6, T7, T8, T9, T60, Tm1, L0, L1, L2, L3, L6, Lm1, L20, L60, L2e9] at c_2 c_3 c_5 c_7); first | exact Or.inl ⟨rfl, by omega⟩ | exact Or.inr ⟨rfl, by omega⟩), trivial⟩, hS.F ht⟩) hS.2.2 dX9_count_96
    refine lv_tableOut (tgt := 97) hx hb dX9_count_27 (by (try simp only [i_lt, i_le, i_eq, l_lt, l_le, l_wd, T0, T1, T2, T3, T4, T5, T6, T7, T8, T9, T60, Tm1, L0, L1, L2, L3, L6, Lm1, L20, L60, L2e9] at c_2 c_3 c_5 c_7); omega) (by decide) ?_
    refine lv_iconst (v := (-1)) hx hb dX9_count_97 (by decide) ?_
    refine W.widen (k := 0) (n := 0) (Nat.le_of_ble_eq_true rfl) (Nat.le_of_ble_eq_true rfl) ?_
    exact W.iret (v := (-1)) hx hb hr (fun t ht hW => ⟨⟨(-1), (), rfl, (by (try simp only [i_lt, i_le, i_eq, l_lt, l_le, l_wd, T0, T1, T2, T3, T4, T5, T6, T7, T8, T9, T60, Tm1, L0, L1, L2, L3, L6, Lm1, L20, L60, L2e9] at c_2 c_3 c_5 c_7); first | exact Or.inl ⟨rfl, by omega⟩ | exact Or.inr ⟨rfl, by omega⟩), trivial⟩, hS.F ht⟩) hS.2.2 dX9_count_98
set_option maxHeartbeats 4000000 in
set_option maxRecDepth 100000 in
theorem k_X9_write (l : Launch) (dC : Nat → ClassId) (dI : Nat → Nat → Nat) (cB cI cJ cZ cL : ClassId) (sz : Nat) (g : Nat → Nat) (fw : Nat → Int32) (p0 : Int32) (p1 : Int32) (v : Int64) (hfw : ∀ j, j < 4 → fw j = -1): Met l yX9_write (wy yX9_write cX9_write 5 (some .int)) ({ frames := 2, cells := 0, slots := 0, locals := 80 }) (va_Pc [.ref (g 0), .int p0, .int p1, .long v] (fun U => U.heap.size = sz ∧ va_P (dC, dI) vwCl [((g 0), .inr (9, [.int 0, .ref (g 1), .ref (g 2), .ref (g 3), .ref (g 4), .ref (g 5), .int 0, .int 0, .int 0, .int 0, .int 0, .long 0, .int 0, .int 0, .int 0, .int (-1), .ref (g 6), .ref (g 7), .ref (g 8), .ref (g 9), .ref (g 10), .ref (g 11), .int 0, .int 0, .int 0, .int 0, .int 0, .ref (g 12), .ref (g 13), .int 0, .ref (g 14), .ref (g 15), .long 0, .int 0, .int 0, .int 0, .ref (g 16), .ref (g 17)])), ((g 1), .inl (cI, 4, .inl fw))] U.heap ∧ va_K (dC, dI) vwCl (tyL cB cI cJ cZ cL) U ∧ va_D (fun _ => True) [((g 0), .inr (9, [.int 0, .ref (g 1), .ref (g 2), .ref (g 3), .ref (g 4), .ref (g 5), .int 0, .int 0, .int 0, .int 0, .int 0, .long 0, .int 0, .int 0, .int 0, .int (-1), .ref (g 6), .ref (g 7), .ref (g 8), .ref (g 9), .ref (g 10), .ref (g 11), .int 0, .int 0, .int 0, .int 0, .int 0, .ref (g 12), .ref (g 13), .int 0, .ref (g 14), .ref (g 15), .long 0, .int 0, .int 0, .int 0, .ref (g 16), .ref (g 17)])), ((g 1), .inl (cI, 4, .inl fw))])) (va_Qi (fun r _ => PWri (Int32.toInt p0) r) (fun (_ : Unit) _ => True) (va_A [((g 0), .inr (9, [.int 0, .ref (g 1), .ref (g 2), .ref (g 3), .ref (g 4), .ref (g 5), .int 0, .int 0, .int 0, .int 0, .int 0, .long 0, .int 0, .int 0, .int 0, .int (-1), .ref (g 6), .ref (g 7), .ref (g 8), .ref (g 9), .ref (g 10), .ref (g 11), .int 0, .int 0, .int 0, .int 0, .int 0, .ref (g 12), .ref (g 13), .int 0, .ref (g 14), .ref (g 15), .long 0, .int 0, .int 0, .int 0, .ref (g 16), .ref (g 17)])), ((g 1), .inl (cI, 4, .inl fw))] sz)) 0 0 (va_A [((g 0), .inr (9, [.int 0, .ref (g 1), .ref (g 2), .ref (g 3), .ref (g 4), .ref (g 5), .int 0, .int 0, .int 0, .int 0, .int 0, .long 0, .int 0, .int 0, .int 0, .int (-1), .ref (g 6), .ref (g 7), .ref (g 8), .ref (g 9), .ref (g 10), .ref (g 11), .int 0, .int 0, .int 0, .int 0, .int 0, .ref (g 12), .ref (g 13), .int 0, .ref (g 14), .ref (g 15), .long 0, .int 0, .int 0, .int 0, .ref (g 16), .ref (g 17)])), ((g 1), .inl (cI, 4, .inl fw))] sz) := by
  refine Met.ofW (cc := cX9_write) (maxL := 5) (ret := (some .int)) (by decide) rfl ?_
  intro p e s m args below meth c s₁ B hml hv
  obtain ⟨rfl, hsz, hP, hK, hD0⟩ := hv
  have hx := B.exec
  have hb := B.bytes
  have hr := B.returns
  have ht : ∀ w ∈ lw_ok, w.before _ s = true := fun w h => atoms_spec (ws := wy yX9_write cX9_write 5 (some .int)) B.pre w (List.mem_cons_of_mem _ h)
  have hown : s.vm.findClass RX9 = some m.cls := findClass_of_methodNamed B.named
  have hlocks := B.notSynchronized
  subst hsz
  have hD := hD0.self (sz := s.heap.size)
  generalize hAe : va_A [((g 0), .inr (9, [.int 0, .ref (g 1), .ref (g 2), .ref (g 3), .ref (g 4), .ref (g 5), .int 0, .int 0, .int 0, .int 0, .int 0, .long 0, .int 0, .int 0, .int 0, .int (-1), .ref (g 6), .ref (g 7), .ref (g 8), .ref (g 9), .ref (g 10), .ref (g 11), .int 0, .int 0, .int 0, .int 0, .int 0, .ref (g 12), .ref (g 13), .int 0, .ref (g 14), .ref (g 15), .long 0, .int 0, .int 0, .int 0, .ref (g 16), .ref (g 17)])), ((g 1), .inl (cI, 4, .inl fw))] s.heap.size = A at hD ⊢
  have hA : ∀ q : Nat, s.heap.size ≤ q → A q := fun q h => by rw [← hAe]; exact Or.inr h
  have hS : va_S A s.heap s.heap [] := va_S.rf
  have hl := lv_entry ([.ref (g 0), .int p0, .int p1, .long v]) (n := 5) (Nat.le_of_ble_eq_true rfl)
  rw [lg_entry_eq]
  generalize (lg_sl ([.ref (g 0), .int p0, .int p1, .long v]) ++ List.replicate (5 - (lg_sl ([.ref (g 0), .int p0, .int p1, .long v])).length) Slot.unset).toArray = ls at hl ⊢
  have hl : lv_has ls 5 [(0, .ref (g 0)), (1, .int p0), (2, .int p1), (3, .long v)] := hl
  have hP : va_P (dC, dI) vwCl [((g 0), .inr (9, [.int 0, .ref (g 1), .ref (g 2), .ref (g 3), .ref (g 4), .ref (g 5), .int 0, .int 0, .int 0, .int 0, .int 0, .long 0, .int 0, .int 0, .int 0, .int (-1), .ref (g 6), .ref (g 7), .ref (g 8), .ref (g 9), .ref (g 10), .ref (g 11), .int 0, .int 0, .int 0, .int 0, .int 0, .ref (g 12), .ref (g 13), .int 0, .ref (g 14), .ref (g 15), .long 0, .int 0, .int 0, .int 0, .ref (g 16), .ref (g 17)])), ((g 1), .inl (cI, 4, .inl fw))] s.heap := hP
  have hD : va_D A [((g 0), .inr (9, [.int 0, .ref (g 1), .ref (g 2), .ref (g 3), .ref (g 4), .ref (g 5), .int 0, .int 0, .int 0, .int 0, .int 0, .long 0, .int 0, .int 0, .int 0, .int (-1), .ref (g 6), .ref (g 7), .ref (g 8), .ref (g 9), .ref (g 10), .ref (g 11), .int 0, .int 0, .int 0, .int 0, .int 0, .ref (g 12), .ref (g 13), .int 0, .ref (g 14), .ref (g 15), .long 0, .int 0, .int 0, .int 0, .ref (g 16), .ref (g 17)])), ((g 1), .inl (cI, 4, .inl fw))] := hD
  refine lv_aload_n hx hb dX9_write_0 rfl (lv_at hl 0 rfl) ?_
  refine lv_iconst (v := 0) hx hb dX9_write_1 (by decide) ?_
  refine va_put (D := (dC, dI)) (ci := 9) (v := .int 0) (ty := .int) (C := RX9) (T := TX9) (N := 38) hx hb ht iX9 tyX9 tyX9_ok nmX9 hown hK hP hD hS 0 rfl rfl 0 (by decide) (ht _ w_1262) (fun _ h9 => h9) rfl (by decide +kernel) rfl rfl (Nat.le_of_ble_eq_true rfl) dX9_write_2 (fun H locs hP hD hS => ?_)
  have hP : va_P (dC, dI) vwCl [((g 0), .inr (9, [.int 0, .ref (g 1), .ref (g 2), .ref (g 3), .ref (g 4), .ref (g 5), .int 0, .int 0, .int 0, .int 0, .int 0, .long 0, .int 0, .int 0, .int 0, .int (-1), .ref (g 6), .ref (g 7), .ref (g 8), .ref (g 9), .ref (g 10), .ref (g 11), .int 0, .int 0, .int 0, .int 0, .int 0, .ref (g 12), .ref (g 13), .int 0, .ref (g 14), .ref (g 15), .long 0, .int 0, .int 0, .int 0, .ref (g 16), .ref (g 17)])), ((g 1), .inl (cI, 4, .inl fw))] H := hP
  have hD : va_D A [((g 0), .inr (9, [.int 0, .ref (g 1), .ref (g 2), .ref (g 3), .ref (g 4), .ref (g 5), .int 0, .int 0, .int 0, .int 0, .int 0, .long 0, .int 0, .int 0, .int 0, .int (-1), .ref (g 6), .ref (g 7), .ref (g 8), .ref (g 9), .ref (g 10), .ref (g 11), .int 0, .int 0, .int 0, .int 0, .int 0, .ref (g 12), .ref (g 13), .int 0, .ref (g 14), .ref (g 15), .long 0, .int 0, .int 0, .int 0, .ref (g 16), .ref (g 17)])), ((g 1), .inl (cI, 4, .inl fw))] := hD
  refine lv_iload_n hx hb dX9_write_5 rfl (lv_at hl 1 rfl) ?_
  have hPc := hP.sub (ws' := []) [] rfl
  refine vp_callSi (W.runS (As := [.int p0]) (rest := []) ⟨hx, hb, hml, hown, ht⟩ (k_X9_isSlot l dC dI cB cI cJ cZ cL p0) (va_cwS 1 ht (gQ w_1382 w_1383 w_114 w_1384) rfl rfl rfl (by decide +kernel) ⟨Nat.le_of_ble_eq_true rfl, Nat.le_of_ble_eq_true rfl⟩) (pSS hK hPc) rfl rfl hl.1 rfl (lv_room (Nat.le_of_ble_eq_true rfl)) dX9_write_6 ⟨Nat.le_of_ble_eq_true rfl, Nat.le_of_ble_eq_true rfl⟩) (fun r_1 hw => ?_)
  rcases hw with ⟨hw, c_2⟩ | ⟨hw, c_2⟩
  · subst hw
    refine lv_if_ne (tgt := 15) hx hb dX9_write_9 (by decide) (fun _ => ?_) (fun c9 => by first | exact absurd (by decide) c9 | exact absurd c9 (by decide))
    refine lv_aload_n hx hb dX9_write_15 rfl (lv_at hl 0 rfl) ?_
    refine va_get (D := (dC, dI)) (ci := 9) (v := .ref (g 1)) (C := RX9) (T := TX9) (N := 38) hx hb ht iX9 hown hK hP 0 rfl rfl 1 (by decide) (ht _ w_1263) (fun _ h9 => h9) rfl dX9_write_16 ?_
    refine lv_iload_n hx hb dX9_write_19 rfl (lv_at hl 1 rfl) ?_
    refine va_iald hx hb hK hP 1 1 rfl rfl (vp_in_iff.mpr (by (try simp only [i_lt, i_le, i_eq, l_lt, l_le, l_wd, T0, T1, T2, T3, T4, T5, T6, T7, T8, T9, T60, Tm1, L0, L1, L2, L3, L6, Lm1, L20, L60, L2e9] at c_2); omega)) dX9_write_20 ?_
    refine lv_topi (fun y_3 ey_3 => ?_)
    obtain rfl : y_3 = (-1) := ey_3.trans (hfw _ (Nat.not_le.mp (fun q => (vp_in_iff.mpr (by (try simp only [i_lt, i_le, i_eq, l_lt, l_le, l_wd, T0, T1, T2, T3, T4, T5, T6, T7, T8, T9, T60, Tm1, L0, L1, L2, L3, L6, Lm1, L20, L60, L2e9] at c_2); omega) : vp_in p0 4) (Or.inr q))))
    refine lv_iconst (v := (-1)) hx hb dX9_write_21 (by decide) ?_
    refine lv_icmp_ne (tgt := 28) hx hb dX9_write_22 (by decide) (fun c9 => by first | exact absurd c9 (by decide) | exact absurd (by decide) c9) (fun _ => ?_)
    refine lv_bipush (v := (-6)) hx hb dX9_write_25 (by decide) ?_
    refine W.widen (k := 0) (n := 0) (Nat.le_of_ble_eq_true rfl) (Nat.le_of_ble_eq_true rfl) ?_
    exact W.iret (v := (-6)) hx hb hr (fun t ht hW => ⟨⟨(-6), (), rfl, (by (try simp only [i_lt, i_le, i_eq, l_lt, l_le, l_wd, T0, T1, T2, T3, T4, T5, T6, T7, T8, T9, T60, Tm1, L0, L1, L2, L3, L6, Lm1, L20, L60, L2e9] at c_2); first | exact Or.inl ⟨rfl, by omega⟩ | exact Or.inr ⟨rfl, by omega⟩), trivial⟩, hS.F ht⟩) hS.2.2 dX9_write_27
  · subst hw
    refine lv_if_ne (tgt := 15) hx hb dX9_write_9 (by decide) (fun c9 => by first | exact absurd c9 (by decide) | exact absurd (by decide) c9) (fun _ => ?_)
    refine lv_bipush (v := (-2)) hx hb dX9_write_12 (by decide) ?_
    refine W.widen (k := 0) (n := 0) (Nat.le_of_ble_eq_true rfl) (Nat.le_of_ble_eq_true rfl) ?_
    exact W.iret (v := (-2)) hx hb hr (fun t ht hW => ⟨⟨(-2), (), rfl, (by (try simp only [i_lt, i_le, i_eq, l_lt, l_le, l_wd, T0, T1, T2, T3, T4, T5, T6, T7, T8, T9, T60, Tm1, L0, L1, L2, L3, L6, Lm1, L20, L60, L2e9] at c_2); first | exact Or.inl ⟨rfl, by omega⟩ | exact Or.inr ⟨rfl, by omega⟩), trivial⟩, hS.F ht⟩) hS.2.2 dX9_write_14
set_option maxHeartbeats 4000000 in
set_option maxRecDepth 100000 in
theorem k_X9_paste (l : Launch) (dC : Nat → ClassId) (dI : Nat → Nat → Nat) (cB cI cJ cZ cL : ClassId) (sz : Nat) (g : Nat → Nat) (fw : Nat → Int32) (p0 : Int32) (p1 : Int32) (p2 : Int32) (p3 : Int32) (p4 : Int32) (hfw : ∀ j, j < 4 → fw j = -1): Met l yX9_paste (wy yX9_paste cX9_paste 7 (some .int)) ({ frames := 2, cells := 0, slots := 0, locals := 80 }) (va_Pc [.ref (g 0), .int p0, .int p1, .int p2, .int p3, .int p4] (fun U => U.heap.size = sz ∧ va_P (dC, dI) vwCl [((g 0), .inr (9, [.int 0, .ref (g 1), .ref (g 2), .ref (g 3), .ref (g 4), .ref (g 5), .int 0, .int 0, .int 0, .int 0, .int 0, .long 0, .int 0, .int 0, .int 0, .int (-1), .ref (g 6), .ref (g 7), .ref (g 8), .ref (g 9), .ref (g 10), .ref (g 11), .int 0, .int 0, .int 0, .int 0, .int 0, .ref (g 12), .ref (g 13), .int 0, .ref (g 14), .ref (g 15), .long 0, .int 0, .int 0, .int 0, .ref (g 16), .ref (g 17)])), ((g 1), .inl (cI, 4, .inl fw))] U.heap ∧ va_K (dC, dI) vwCl (tyL cB cI cJ cZ cL) U ∧ va_D (fun _ => True) [((g 0), .inr (9, [.int 0, .ref (g 1), .ref (g 2), .ref (g 3), .ref (g 4), .ref (g 5), .int 0, .int 0, .int 0, .int 0, .int 0, .long 0, .int 0, .int 0, .int 0, .int (-1), .ref (g 6), .ref (g 7), .ref (g 8), .ref (g 9), .ref (g 10), .ref (g 11), .int 0, .int 0, .int 0, .int 0, .int 0, .ref (g 12), .ref (g 13), .int 0, .ref (g 14), .ref (g 15), .long 0, .int 0, .int 0, .int 0, .ref (g 16), .ref (g 17)])), ((g 1), .inl (cI, 4, .inl fw))])) (va_Qi (fun r _ => PPas (Int32.toInt p0) (Int32.toInt p2) r) (fun (_ : Unit) _ => True) (va_A [((g 0), .inr (9, [.int 0, .ref (g 1), .ref (g 2), .ref (g 3), .ref (g 4), .ref (g 5), .int 0, .int 0, .int 0, .int 0, .int 0, .long 0, .int 0, .int 0, .int 0, .int (-1), .ref (g 6), .ref (g 7), .ref (g 8), .ref (g 9), .ref (g 10), .ref (g 11), .int 0, .int 0, .int 0, .int 0, .int 0, .ref (g 12), .ref (g 13), .int 0, .ref (g 14), .ref (g 15), .long 0, .int 0, .int 0, .int 0, .ref (g 16), .ref (g 17)])), ((g 1), .inl (cI, 4, .inl fw))] sz)) 0 0 (va_A [((g 0), .inr (9, [.int 0, .ref (g 1), .ref (g 2), .ref (g 3), .ref (g 4), .ref (g 5), .int 0, .int 0, .int 0, .int 0, .int 0, .long 0, .int 0, .int 0, .int 0, .int (-1), .ref (g 6), .ref (g 7), .ref (g 8), .ref (g 9), .ref (g 10), .ref (g 11), .int 0, .int 0, .int 0, .int 0, .int 0, .ref (g 12), .ref (g 13), .int 0, .ref (g 14), .ref (g 15), .long 0, .int 0, .int 0, .int 0, .ref (g 16), .ref (g 17)])), ((g 1), .inl (cI, 4, .inl fw))] sz) := by
  refine Met.ofW (cc := cX9_paste) (maxL := 7) (ret := (some .int)) (by decide) rfl ?_
  intro p e s m args below meth c s₁ B hml hv
  obtain ⟨rfl, hsz, hP, hK, hD0⟩ := hv
  have hx := B.exec
  have hb := B.bytes
  have hr := B.returns
  have ht : ∀ w ∈ lw_ok, w.before _ s = true := fun w h => atoms_spec (ws := wy yX9_paste cX9_paste 7 (some .int)) B.pre w (List.mem_cons_of_mem _ h)
  have hown : s.vm.findClass RX9 = some m.cls := findClass_of_methodNamed B.named
  have hlocks := B.notSynchronized
  subst hsz
  have hD := hD0.self (sz := s.heap.size)
  generalize hAe : va_A [((g 0), .inr (9, [.int 0, .ref (g 1), .ref (g 2), .ref (g 3), .ref (g 4), .ref (g 5), .int 0, .int 0, .int 0, .int 0, .int 0, .long 0, .int 0, .int 0, .int 0, .int (-1), .ref (g 6), .ref (g 7), .ref (g 8), .ref (g 9), .ref (g 10), .ref (g 11), .int 0, .int 0, .int 0, .int 0, .int 0, .ref (g 12), .ref (g 13), .int 0, .ref (g 14), .ref (g 15), .long 0, .int 0, .int 0, .int 0, .ref (g 16), .ref (g 17)])), ((g 1), .inl (cI, 4, .inl fw))] s.heap.size = A at hD ⊢
  have hA : ∀ q : Nat, s.heap.size ≤ q → A q := fun q h => by rw [← hAe]; exact Or.inr h
  have hS : va_S A s.heap s.heap [] := va_S.rf
  have hl := lv_entry ([.ref (g 0), .int p0, .int p1, .int p2, .int p3, .int p4]) (n := 7) (Nat.le_of_ble_eq_true rfl)
  rw [lg_entry_eq]
  generalize (lg_sl ([.ref (g 0), .int p0, .int p1, .int p2, .int p3, .int p4]) ++ List.replicate (7 - (lg_sl ([.ref (g 0), .int p0, .int p1, .int p2, .int p3, .int p4])).length) Slot.unset).toArray = ls at hl ⊢
  have hl : lv_has ls 7 [(0, .ref (g 0)), (1, .int p0), (2, .int p1), (3, .int p2), (4, .int p3), (5, .int p4)] := hl
  have hP : va_P (dC, dI) vwCl [((g 0), .inr (9, [.int 0, .ref (g 1), .ref (g 2), .ref (g 3), .ref (g 4), .ref (g 5), .int 0, .int 0, .int 0, .int 0, .int 0, .long 0, .int 0, .int 0, .int 0, .int (-1), .ref (g 6), .ref (g 7), .ref (g 8), .ref (g 9), .ref (g 10), .ref (g 11), .int 0, .int 0, .int 0, .int 0, .int 0, .ref (g 12), .ref (g 13), .int 0, .ref (g 14), .ref (g 15), .long 0, .int 0, .int 0, .int 0, .ref (g 16), .ref (g 17)])), ((g 1), .inl (cI, 4, .inl fw))] s.heap := hP
  have hD : va_D A [((g 0), .inr (9, [.int 0, .ref (g 1), .ref (g 2), .ref (g 3), .ref (g 4), .ref (g 5), .int 0, .int 0, .int 0, .int 0, .int 0, .long 0, .int 0, .int 0, .int 0, .int (-1), .ref (g 6), .ref (g 7), .ref (g 8), .ref (g 9), .ref (g 10), .ref (g 11), .int 0, .int 0, .int 0, .int 0, .int 0, .ref (g 12), .ref (g 13), .int 0, .ref (g 14), .ref (g 15), .long 0, .int 0, .int 0, .int 0, .ref (g 16), .ref (g 17)])), ((g 1), .inl (cI, 4, .inl fw))] := hD
  refine lv_aload_n hx hb dX9_paste_0 rfl (lv_at hl 0 rfl) ?_
  refine lv_iconst (v := 0) hx hb dX9_paste_1 (by decide) ?_
  refine va_put (D := (dC, dI)) (ci := 9) (v := .int 0) (ty := .int) (C := RX9) (T := TX9) (N := 38) hx hb ht iX9 tyX9 tyX9_ok nmX9 hown hK hP hD hS 0 rfl rfl 0 (by decide) (ht _ w_1262) (fun _ h9 => h9) rfl (by decide +kernel) rfl rfl (Nat.le_of_ble_eq_true rfl) dX9_paste_2 (fun H locs hP hD hS => ?_)
  have hP : va_P (dC, dI) vwCl [((g 0), .inr (9, [.int 0, .ref (g 1), .ref (g 2), .ref (g 3), .ref (g 4), .ref (g 5), .int 0, .int 0, .int 0, .int 0, .int 0, .long 0, .int 0, .int 0, .int 0, .int (-1), .ref (g 6), .ref (g 7), .ref (g 8), .ref (g 9), .ref (g 10), .ref (g 11), .int 0, .int 0, .int 0, .int 0, .int 0, .ref (g 12), .ref (g 13), .int 0, .ref (g 14), .ref (g 15), .long 0, .int 0, .int 0, .int 0, .ref (g 16), .ref (g 17)])), ((g 1), .inl (cI, 4, .inl fw))] H := hP
  have hD : va_D A [((g 0), .inr (9, [.int 0, .ref (g 1), .ref (g 2), .ref (g 3), .ref (g 4), .ref (g 5), .int 0, .int 0, .int 0, .int 0, .int 0, .long 0, .int 0, .int 0, .int 0, .int (-1), .ref (g 6), .ref (g 7), .ref (g 8), .ref (g 9), .ref (g 10), .ref (g 11), .int 0, .int 0, .int 0, .int 0, .int 0, .ref (g 12), .ref (g 13), .int 0, .ref (g 14), .ref (g 15), .long 0, .int 0, .int 0, .int 0, .ref (g 16), .ref (g 17)])), ((g 1), .inl (cI, 4, .inl fw))] := hD
  refine lv_iload_n hx hb dX9_paste_5 rfl (lv_at hl 1 rfl) ?_
  have hPc := hP.sub (ws' := []) [] rfl
  refine vp_callSi (W.runS (As := [.int p0]) (rest := []) ⟨hx, hb, hml, hown, ht⟩ (k_X9_isSlot l dC dI cB cI cJ cZ cL p0) (va_cwS 1 ht (gQ w_1382 w_1383 w_114 w_1384) rfl rfl rfl (by decide +kernel) ⟨Nat.le_of_ble_eq_true rfl, Nat.le_of_ble_eq_true rfl⟩) (pSS hK hPc) rfl rfl hl.1 rfl (lv_room (Nat.le_of_ble_eq_true rfl)) dX9_paste_6 ⟨Nat.le_of_ble_eq_true rfl, Nat.le_of_ble_eq_true rfl⟩) (fun r_1 hw => ?_)
  rcases hw with ⟨hw, c_2⟩ | ⟨hw, c_2⟩
  · subst hw
    refine lv_if_eq (tgt := 19) hx hb dX9_paste_9 (by decide) (fun c9 => by first | exact absurd c9 (by decide) | exact absurd (by decide) c9) (fun _ => ?_)
    refine lv_iload_n hx hb dX9_paste_12 rfl (lv_at hl 3 rfl) ?_
    have hPc := hP.sub (ws' := []) [] rfl
    refine vp_callSi (W.runS (As := [.int p2]) (rest := []) ⟨hx, hb, hml, hown, ht⟩ (k_X9_isSlot l dC dI cB cI cJ cZ cL p2) (va_cwS 1 ht (gQ w_1382 w_1383 w_114 w_1384) rfl rfl rfl (by decide +kernel) ⟨Nat.le_of_ble_eq_true rfl, Nat.le_of_ble_eq_true rfl⟩) (pSS hK hPc) rfl rfl hl.1 rfl (lv_room (Nat.le_of_ble_eq_true rfl)) dX9_paste_13 ⟨Nat.le_of_ble_eq_true rfl, Nat.le_of_ble_eq_true rfl⟩) (fun r_3 hw => ?_)
    rcases hw with ⟨hw, c_4⟩ | ⟨hw, c_4⟩
    · subst hw
      refine lv_if_ne (tgt := 22) hx hb dX9_paste_16 (by decide) (fun _ => ?_) (fun c9 => by first | exact absurd (by decide) c9 | exact absurd c9 (by decide))
      refine lv_aload_n hx hb dX9_paste_22 rfl (lv_at hl 0 rfl) ?_
      refine va_get (D := (dC, dI)) (ci := 9) (v := .ref (g 1)) (C := RX9) (T := TX9) (N := 38) hx hb ht iX9 hown hK hP 0 rfl rfl 1 (by decide) (ht _ w_1263) (fun _ h9 => h9) rfl dX9_paste_23 ?_
      refine lv_iload_n hx hb dX9_paste_26 rfl (lv_at hl 1 rfl) ?_
      refine va_iald hx hb hK hP 1 1 rfl rfl (vp_in_iff.mpr (by (try simp only [i_lt, i_le, i_eq, l_lt, l_le, l_wd, T0, T1, T2, T3, T4, T5, T6, T7, T8, T9, T60, Tm1, L0, L1, L2, L3, L6, Lm1, L20, L60, L2e9] at c_2 c_4); omega)) dX9_paste_27 ?_
      refine lv_topi (fun y_5 ey_5 => ?_)
      obtain rfl : y_5 = (-1) := ey_5.trans (hfw _ (Nat.not_le.mp (fun q => (vp_in_iff.mpr (by (try simp only [i_lt, i_le, i_eq, l_lt, l_le, l_wd, T0, T1, T2, T3, T4, T5, T6, T7, T8, T9, T60, Tm1, L0, L1, L2, L3, L6, Lm1, L20, L60, L2e9] at c_2 c_4); omega) : vp_in p0 4) (Or.inr q))))
      refine lv_iconst (v := (-1)) hx hb dX9_paste_28 (by decide) ?_
      refine lv_icmp_eq (tgt := 42) hx hb dX9_paste_29 (by decide) (fun _ => ?_) (fun c9 => by first | exact absurd (by decide) c9 | exact absurd c9 (by decide))
      refine lv_bipush (v := (-6)) hx hb dX9_paste_42 (by decide) ?_
      refine W.widen (k := 0) (n := 0) (Nat.le_of_ble_eq_true rfl) (Nat.le_of_ble_eq_true rfl) ?_
      exact W.iret (v := (-6)) hx hb hr (fun t ht hW => ⟨⟨(-6), (), rfl, (by (try simp only [i_lt, i_le, i_eq, l_lt, l_le, l_wd, T0, T1, T2, T3, T4, T5, T6, T7, T8, T9, T60, Tm1, L0, L1, L2, L3, L6, Lm1, L20, L60, L2e9] at c_2 c_4); first | exact Or.inl ⟨rfl, by omega⟩ | exact Or.inr ⟨rfl, by omega⟩), trivial⟩, hS.F ht⟩) hS.2.2 dX9_paste_44
    · subst hw
      refine lv_if_ne (tgt := 22) hx hb dX9_paste_16 (by decide) (fun c9 => by first | exact absurd c9 (by decide) | exact absurd (by decide) c9) (fun _ => ?_)
      refine lv_bipush (v := (-2)) hx hb dX9_paste_19 (by decide) ?_
      refine W.widen (k := 0) (n := 0) (Nat.le_of_ble_eq_true rfl) (Nat.le_of_ble_eq_true rfl) ?_
      exact W.iret (v := (-2)) hx hb hr (fun t ht hW => ⟨⟨(-2), (), rfl, (by (try simp only [i_lt, i_le, i_eq, l_lt, l_le, l_wd, T0, T1, T2, T3, T4, T5, T6, T7, T8, T9, T60, Tm1, L0, L1, L2, L3, L6, Lm1, L20, L60, L2e9] at c_2 c_4); first | exact Or.inl ⟨rfl, by omega⟩ | exact Or.inr ⟨rfl, by omega⟩), trivial⟩, hS.F ht⟩) hS.2.2 dX9_paste_21
  · subst hw
    refine lv_if_eq (tgt := 19) hx hb dX9_paste_9 (by decide) (fun _ => ?_) (fun c9 => by first | exact absurd (by decide) c9 | exact absurd c9 (by decide))
    refine lv_bipush (v := (-2)) hx hb dX9_paste_19 (by decide) ?_
    refine W.widen (k := 0) (n := 0) (Nat.le_of_ble_eq_true rfl) (Nat.le_of_ble_eq_true rfl) ?_
    exact W.iret (v := (-2)) hx hb hr (fun t ht hW => ⟨⟨(-2), (), rfl, (by (try simp only [i_lt, i_le, i_eq, l_lt, l_le, l_wd, T0, T1, T2, T3, T4, T5, T6, T7, T8, T9, T60, Tm1, L0, L1, L2, L3, L6, Lm1, L20, L60, L2e9] at c_2); first | exact Or.inl ⟨rfl, by omega⟩ | exact Or.inr ⟨rfl, by omega⟩), trivial⟩, hS.F ht⟩) hS.2.2 dX9_paste_21
set_option maxHeartbeats 4000000 in
set_option maxRecDepth 100000 in
theorem k_X9_row (l : Launch) (dC : Nat → ClassId) (dI : Nat → Nat → Nat) (cB cI cJ cZ cL : ClassId) (sz : Nat) (g : Nat → Nat) (fw : Nat → Int32) (p0 : Int32) (p1 : Int32) (p2 : Int32) : Met l yX9_row (wy yX9_row cX9_row 5 (some .int)) ({ frames := 2, cells := 0, slots := 0, locals := 80 }) (va_Pc [.ref (g 0), .int p0, .int p1, .int p2] (fun U => U.heap.size = sz ∧ va_P (dC, dI) vwCl [((g 0), .inr (9, [.int 0, .ref (g 1), .ref (g 2), .ref (g 3), .ref (g 4), .ref (g 5), .int 0, .int 0, .int 0, .int 0, .int 0, .long 0, .int 0, .int 0, .int 0, .int (-1), .ref (g 6), .ref (g 7), .ref (g 8), .ref (g 9), .ref (g 10), .ref (g 11), .int 0, .int 0, .int 0, .int 0, .int 0, .ref (g 12), .ref (g 13), .int 0, .ref (g 14), .ref (g 15), .long 0, .int 0, .int 0, .int 0, .ref (g 16), .ref (g 17)])), ((g 1), .inl (cI, 4, .inl fw)), ((g 2), .inl (cI, 4, .inl (fun _ => 0))), ((g 3), .inl (cJ, 240, .inr (.inl (fun _ => 0))))] U.heap ∧ va_K (dC, dI) vwCl (tyL cB cI cJ cZ cL) U ∧ va_D (fun _ => True) [((g 0), .inr (9, [.int 0, .ref (g 1), .ref (g 2), .ref (g 3), .ref (g 4), .ref (g 5), .int 0, .int 0, .int 0, .int 0, .int 0, .long 0, .int 0, .int 0, .int 0, .int (-1), .ref (g 6), .ref (g 7), .ref (g 8), .ref (g 9), .ref (g 10), .ref (g 11), .int 0, .int 0, .int 0, .int 0, .int 0, .ref (g 12), .ref (g 13), .int 0, .ref (g 14), .ref (g 15), .long 0, .int 0, .int 0, .int 0, .ref (g 16), .ref (g 17)])), ((g 1), .inl (cI, 4, .inl fw)), ((g 2), .inl (cI, 4, .inl (fun _ => 0))), ((g 3), .inl (cJ, 240, .inr (.inl (fun _ => 0))))])) (va_Qi (fun r _ => PRow (Int32.toInt p0) (Int32.toInt p1) (Int32.toInt p2) r) (fun (_ : Unit) _ => True) (va_A [((g 0), .inr (9, [.int 0, .ref (g 1), .ref (g 2), .ref (g 3), .ref (g 4), .ref (g 5), .int 0, .int 0, .int 0, .int 0, .int 0, .long 0, .int 0, .int 0, .int 0, .int (-1), .ref (g 6), .ref (g 7), .ref (g 8), .ref (g 9), .ref (g 10), .ref (g 11), .int 0, .int 0, .int 0, .int 0, .int 0, .ref (g 12), .ref (g 13), .int 0, .ref (g 14), .ref (g 15), .long 0, .int 0, .int 0, .int 0, .ref (g 16), .ref (g 17)])), ((g 1), .inl (cI, 4, .inl fw)), ((g 2), .inl (cI, 4, .inl (fun _ => 0))), ((g 3), .inl (cJ, 240, .inr (.inl (fun _ => 0))))] sz)) 0 0 (va_A [((g 0), .inr (9, [.int 0, .ref (g 1), .ref (g 2), .ref (g 3), .ref (g 4), .ref (g 5), .int 0, .int 0, .int 0, .int 0, .int 0, .long 0, .int 0, .int 0, .int 0, .int (-1), .ref (g 6), .ref (g 7), .ref (g 8), .ref (g 9), .ref (g 10), .ref (g 11), .int 0, .int 0, .int 0, .int 0, .int 0, .ref (g 12), .ref (g 13), .int 0, .ref (g 14), .ref (g 15), .long 0, .int 0, .int 0, .int 0, .ref (g 16), .ref (g 17)])), ((g 1), .inl (cI, 4, .inl fw)), ((g 2), .inl (cI, 4, .inl (fun _ => 0))), ((g 3), .inl (cJ, 240, .inr (.inl (fun _ => 0))))] sz) := by
  refine Met.ofW (cc := cX9_row) (maxL := 5) (ret := (some .int)) (by decide) rfl ?_
  intro p e s m args below meth c s₁ B hml hv
  obtain ⟨rfl, hsz, hP, hK, hD0⟩ := hv
  have hx := B.exec
  have hb := B.bytes
  have hr := B.returns
  have ht : ∀ w ∈ lw_ok, w.before _ s = true := fun w h => atoms_spec (ws := wy yX9_row cX9_row 5 (some .int)) B.pre w (List.mem_cons_of_mem _ h)
  have hown : s.vm.findClass RX9 = some m.cls := findClass_of_methodNamed B.named
  have hlocks := B.notSynchronized
  subst hsz
  have hD := hD0.self (sz := s.heap.size)
  generalize hAe : va_A [((g 0), .inr (9, [.int 0, .ref (g 1), .ref (g 2), .ref (g 3), .ref (g 4), .ref (g 5), .int 0, .int 0, .int 0, .int 0, .int 0, .long 0, .int 0, .int 0, .int 0, .int (-1), .ref (g 6), .ref (g 7), .ref (g 8), .ref (g 9), .ref (g 10), .ref (g 11), .int 0, .int 0, .int 0, .int 0, .int 0, .ref (g 12), .ref (g 13), .int 0, .ref (g 14), .ref (g 15), .long 0, .int 0, .int 0, .int 0, .ref (g 16), .ref (g 17)])), ((g 1), .inl (cI, 4, .inl fw)), ((g 2), .inl (cI, 4, .inl (fun _ => 0))), ((g 3), .inl (cJ, 240, .inr (.inl (fun _ => 0))))] s.heap.size = A at hD ⊢
  have hA : ∀ q : Nat, s.heap.size ≤ q → A q := fun q h => by rw [← hAe]; exact Or.inr h
  have hS : va_S A s.heap s.heap [] := va_S.rf
  have hl := lv_entry ([.ref (g 0), .int p0, .int p1, .int p2]) (n := 5) (Nat.le_of_ble_eq_true rfl)
  rw [lg_entry_eq]
  generalize (lg_sl ([.ref (g 0), .int p0, .int p1, .int p2]) ++ List.replicate (5 - (lg_sl ([.ref (g 0), .int p0, .int p1, .int p2])).length) Slot.unset).toArray = ls at hl ⊢
  have hl : lv_has ls 5 [(0, .ref (g 0)), (1, .int p0), (2, .int p1), (3, .int p2)] := hl
  have hP : va_P (dC, dI) vwCl [((g 0), .inr (9, [.int 0, .ref (g 1), .ref (g 2), .ref (g 3), .ref (g 4), .ref (g 5), .int 0, .int 0, .int 0, .int 0, .int 0, .long 0, .int 0, .int 0, .int 0, .int (-1), .ref (g 6), .ref (g 7), .ref (g 8), .ref (g 9), .ref (g 10), .ref (g 11), .int 0, .int 0, .int 0, .int 0, .int 0, .ref (g 12), .ref (g 13), .int 0, .ref (g 14), .ref (g 15), .long 0, .int 0, .int 0, .int 0, .ref (g 16), .ref (g 17)])), ((g 1), .inl (cI, 4, .inl fw)), ((g 2), .inl (cI, 4, .inl (fun _ => 0))), ((g 3), .inl (cJ, 240, .inr (.inl (fun _ => 0))))] s.heap := hP
  have hD : va_D A [((g 0), .inr (9, [.int 0, .ref (g 1), .ref (g 2), .ref (g 3), .ref (g 4), .ref (g 5), .int 0, .int 0, .int 0, .int 0, .int 0, .long 0, .int 0, .int 0, .int 0, .int (-1), .ref (g 6), .ref (g 7), .ref (g 8), .ref (g 9), .ref (g 10), .ref (g 11), .int 0, .int 0, .int 0, .int 0, .int 0, .ref (g 12), .ref (g 13), .int 0, .ref (g 14), .ref (g 15), .long 0, .int 0, .int 0, .int 0, .ref (g 16), .ref (g 17)])), ((g 1), .inl (cI, 4, .inl fw)), ((g 2), .inl (cI, 4, .inl (fun _ => 0))), ((g 3), .inl (cJ, 240, .inr (.inl (fun _ => 0))))] := hD
  refine lv_aload_n hx hb dX9_row_0 rfl (lv_at hl 0 rfl) ?_
  refine lv_iconst (v := 0) hx hb dX9_row_1 (by decide) ?_
  refine va_put (D := (dC, dI)) (ci := 9) (v := .int 0) (ty := .int) (C := RX9) (T := TX9) (N := 38) hx hb ht iX9 tyX9 tyX9_ok nmX9 hown hK hP hD hS 0 rfl rfl 0 (by decide) (ht _ w_1262) (fun _ h9 => h9) rfl (by decide +kernel) rfl rfl (Nat.le_of_ble_eq_true rfl) dX9_row_2 (fun H locs hP hD hS => ?_)
  have hP : va_P (dC, dI) vwCl [((g 0), .inr (9, [.int 0, .ref (g 1), .ref (g 2), .ref (g 3), .ref (g 4), .ref (g 5), .int 0, .int 0, .int 0, .int 0, .int 0, .long 0, .int 0, .int 0, .int 0, .int (-1), .ref (g 6), .ref (g 7), .ref (g 8), .ref (g 9), .ref (g 10), .ref (g 11), .int 0, .int 0, .int 0, .int 0, .int 0, .ref (g 12), .ref (g 13), .int 0, .ref (g 14), .ref (g 15), .long 0, .int 0, .int 0, .int 0, .ref (g 16), .ref (g 17)])), ((g 1), .inl (cI, 4, .inl fw)), ((g 2), .inl (cI, 4, .inl (fun _ => 0))), ((g 3), .inl (cJ, 240, .inr (.inl (fun _ => 0))))] H := hP
  have hD : va_D A [((g 0), .inr (9, [.int 0, .ref (g 1), .ref (g 2), .ref (g 3), .ref (g 4), .ref (g 5), .int 0, .int 0, .int 0, .int 0, .int 0, .long 0, .int 0, .int 0, .int 0, .int (-1), .ref (g 6), .ref (g 7), .ref (g 8), .ref (g 9), .ref (g 10), .ref (g 11), .int 0, .int 0, .int 0, .int 0, .int 0, .ref (g 12), .ref (g 13), .int 0, .ref (g 14), .ref (g 15), .long 0, .int 0, .int 0, .int 0, .ref (g 16), .ref (g 17)])), ((g 1), .inl (cI, 4, .inl fw)), ((g 2), .inl (cI, 4, .inl (fun _ => 0))), ((g 3), .inl (cJ, 240, .inr (.inl (fun _ => 0))))] := hD
  refine lv_iload_n hx hb dX9_row_5 rfl (lv_at hl 1 rfl) ?_
  have hPc := hP.sub (ws' := []) [] rfl
  refine vp_callSi (W.runS (As := [.int p0]) (rest := []) ⟨hx, hb, hml, hown, ht⟩ (k_X9_isSlot l dC dI cB cI cJ cZ cL p0) (va_cwS 1 ht (gQ w_1382 w_1383 w_114 w_1384) rfl rfl rfl (by decide +kernel) ⟨Nat.le_of_ble_eq_true rfl, Nat.le_of_ble_eq_true rfl⟩) (pSS hK hPc) rfl rfl hl.1 rfl (lv_room (Nat.le_of_ble_eq_true rfl)) dX9_row_6 ⟨Nat.le_of_ble_eq_true rfl, Nat.le_of_ble_eq_true rfl⟩) (fun r_1 hw => ?_)
  rcases hw with ⟨hw, c_2⟩ | ⟨hw, c_2⟩
  · subst hw
    refine lv_if_eq (tgt := 30) hx hb dX9_row_9 (by decide) (fun c9 => by first | exact absurd c9 (by decide) | exact absurd (by decide) c9) (fun _ => ?_)
    refine lv_iload_n hx hb dX9_row_12 rfl (lv_at hl 2 rfl) ?_
    refine lv_i2l (v := (Int32.toInt64 p1)) hx hb dX9_row_13 (by first | rfl | decide) ?_
    refine lv_lconst (v := 0) hx hb dX9_row_14 (by decide) ?_
    refine lv_ldc2 hx hb hown (ht _ w_1385) dX9_row_15 ?_
    have hPc := hP.sub (ws' := []) [] rfl
    refine vp_callSi (W.runS (As := [.long (Int32.toInt64 p1), .long 0, .long 3]) (rest := []) ⟨hx, hb, hml, hown, ht⟩ (k_X9_in l dC dI cB cI cJ cZ cL (Int32.toInt64 p1) 0 3) (va_cwS 3 ht (gQ w_1386 w_1387 w_114 w_1388) rfl rfl rfl (by decide +kernel) ⟨Nat.le_of_ble_eq_true rfl, Nat.le_of_ble_eq_true rfl⟩) (pSS hK hPc) rfl rfl hl.1 rfl (lv_room (Nat.le_of_ble_eq_true rfl)) dX9_row_18 ⟨Nat.le_of_ble_eq_true rfl, Nat.le_of_ble_eq_true rfl⟩) (fun r_3 hw => ?_)
    rcases hw with ⟨hw, c_4⟩ | ⟨hw, c_4⟩
    · subst hw
      refine lv_if_eq (tgt := 30) hx hb dX9_row_21 (by decide) (fun c9 => by first | exact absurd c9 (by decide) | exact absurd (by decide) c9) (fun _ => ?_)
      refine lv_iload_n hx hb dX9_row_24 rfl (lv_at hl 3 rfl) ?_
      refine lv_bipush (v := 60) hx hb dX9_row_25 (by decide) ?_
      refine lv_icmp_le (tgt := 33) hx hb dX9_row_27 (by decide) (fun c_5 => ?_) (fun c_5 => ?_)
      · refine lv_iload_n hx hb dX9_row_33 rfl (lv_at hl 3 rfl) ?_
        refine lv_if_ge (tgt := 40) hx hb dX9_row_34 (by decide) (fun c_6 => ?_) (fun c_6 => ?_)
        · have h_7 : p0 = 0 ∨ p0 = 1 ∨ p0 = 2 ∨ p0 = 3 := by
            (try simp only [i_lt, i_le, i_eq, l_lt, l_le, l_wd, T0, T1, T2, T3, T4, T5, T6, T7, T8, T9, T60, Tm1, L0, L1, L2, L3, L6, Lm1, L20, L60, L2e9] at c_2 c_4 c_5 c_6)
            simp only [i_eq, T0, T1, T2, T3, T4]; omega
          rcases h_7 with rfl | rfl | rfl | rfl
          · refine lv_aload_n hx hb dX9_row_40 rfl (lv_at hl 0 rfl) ?_
            refine va_get (D := (dC, dI)) (ci := 9) (v := .ref (g 1)) (C := RX9) (T := TX9) (N := 38) hx hb ht iX9 hown hK hP 0 rfl rfl 1 (by decide) (ht _ w_1263) (fun _ h9 => h9) rfl dX9_row_41 ?_
            refine lv_iload_n hx hb dX9_row_44 rfl (lv_at hl 1 rfl) ?_
            refine lv_iload_n hx hb dX9_row_45 rfl (lv_at hl 2 rfl) ?_
            refine va_iast hx hb hK hP hD hS 1 1 rfl rfl (by unfold vp_in; decide) dX9_row_46 (fun H locs hP hD hS => ?_)
            obtain ⟨f_8, ef_8⟩ : ∃ z : Nat → Int32, z = upd fw (Int32.toNatClampNeg 0) p1 := ⟨_, rfl⟩
            rw [← ef_8] at hP hD
            have hP : va_P (dC, dI) vwCl [((g 0), .inr (9, [.int 0, .ref (g 1), .ref (g 2), .ref (g 3), .ref (g 4), .ref (g 5), .int 0, .int 0, .int 0, .int 0, .int 0, .long 0, .int 0, .int 0, .int 0, .int (-1), .ref (g 6), .ref (g 7), .ref (g 8), .ref (g 9), .ref (g 10), .ref (g 11), .int 0, .int 0, .int 0, .int 0, .int 0, .ref (g 12), .ref (g 13), .int 0, .ref (g 14), .ref (g 15), .long 0, .int 0, .int 0, .int 0, .ref (g 16), .ref (g 17)])), ((g 1), .inl (cI, 4, .inl f_8)), ((g 2), .inl (cI, 4, .inl (fun _ => 0))), ((g 3), .inl (cJ, 240, .inr (.inl (fun _ => 0))))] H := hP
            have hD : va_D A [((g 0), .inr (9, [.int 0, .ref (g 1), .ref (g 2), .ref (g 3), .ref (g 4), .ref (g 5), .int 0, .int 0, .int 0, .int 0, .int 0, .long 0, .int 0, .int 0, .int 0, .int (-1), .ref (g 6), .ref (g 7), .ref (g 8), .ref (g 9), .ref (g 10), .ref (g 11), .int 0, .int 0, .int 0, .int 0, .int 0, .ref (g 12), .ref (g 13), .int 0, .ref (g 14), .ref (g 15), .long 0, .int 0, .int 0, .int 0, .ref (g 16), .ref (g 17)])), ((g 1), .inl (cI, 4, .inl f_8)), ((g 2), .inl (cI, 4, .inl (fun _ => 0))), ((g 3), .inl (cJ, 240, .inr (.inl (fun _ => 0))))] := hD
            refine lv_aload_n hx hb dX9_row_47 rfl (lv_at hl 0 rfl) ?_
            refine va_get (D := (dC, dI)) (ci := 9) (v := .ref (g 2)) (C := RX9) (T := TX9) (N := 38) hx hb ht iX9 hown hK hP 0 rfl rfl 2 (by decide) (ht _ w_1264) (fun _ h9 => h9) rfl dX9_row_48 ?_
            refine lv_iload_n hx hb dX9_row_51 rfl (lv_at hl 1 rfl) ?_
            refine lv_iload_n hx hb dX9_row_52 rfl (lv_at hl 3 rfl) ?_
            refine va_iast hx hb hK hP hD hS 2 1 rfl rfl (by unfold vp_in; decide) dX9_row_53 (fun H locs hP hD hS => ?_)
            obtain ⟨f_9, ef_9⟩ : ∃ z : Nat → Int32, z = upd (fun _ => 0) (Int32.toNatClampNeg 0) p2 := ⟨_, rfl⟩
            rw [← ef_9] at hP hD
            have hP : va_P (dC, dI) vwCl [((g 0), .inr (9, [.int 0, .ref (g 1), .ref (g 2), .ref (g 3), .ref (g 4), .ref (g 5), .int 0, .int 0, .int 0, .int 0, .int 0, .long 0, .int 0, .int 0, .int 0, .int (-1), .ref (g 6), .ref (g 7), .ref (g 8), .ref (g 9), .ref (g 10), .ref (g 11), .int 0, .int 0, .int 0, .int 0, .int 0, .ref (g 12), .ref (g 13), .int 0, .ref (g 14), .ref (g 15), .long 0, .int 0, .int 0, .int 0, .ref (g 16), .ref (g 17)])), ((g 1), .inl (cI, 4, .inl f_8)), ((g 2), .inl (cI, 4, .inl f_9)), ((g 3), .inl (cJ, 240, .inr (.inl (fun _ => 0))))] H := hP
            have hD : va_D A [((g 0), .inr (9, [.int 0, .ref (g 1), .ref (g 2), .ref (g 3), .ref (g 4), .ref (g 5), .int 0, .int 0, .int 0, .int 0, .int 0, .long 0, .int 0, .int 0, .int 0, .int (-1), .ref (g 6), .ref (g 7), .ref (g 8), .ref (g 9), .ref (g 10), .ref (g 11), .int 0, .int 0, .int 0, .int 0, .int 0, .ref (g 12), .ref (g 13), .int 0, .ref (g 14), .ref (g 15), .long 0, .int 0, .int 0, .int 0, .ref (g 16), .ref (g 17)])), ((g 1), .inl (cI, 4, .inl f_8)), ((g 2), .inl (cI, 4, .inl f_9)), ((g 3), .inl (cJ, 240, .inr (.inl (fun _ => 0))))] := hD
            refine lv_iconst (v := 0) hx hb dX9_row_54 (by decide) ?_
            refine lv_istore (lv' := [(4, .int 0), (0, .ref (g 0)), (1, .int 0), (2, .int p1), (3, .int p2)]) hx hb dX9_row_55 hl (by decide) rfl (fun ls hl => ?_)
            obtain ⟨N, hN2, hpN⟩ := nI_of (show ¬ p2 < 0 by rw [i_lt, T0]; (try simp only [i_lt, i_le, i_eq, l_lt, l_le, l_wd, T0, T1, T2, T3, T4, T5, T6, T7, T8, T9, T60, Tm1, L0, L1, L2, L3, L6, Lm1, L20, L60, L2e9] at c_4 c_5 c_6); omega)
            have hN : N ≤ 60 := by
              have e1 := congrArg Int32.toInt hpN
              rw [nI_toInt hN2] at e1
              (try simp only [i_lt, i_le, i_eq, l_lt, l_le, l_wd, T0, T1, T2, T3, T4, T5, T6, T7, T8, T9, T60, Tm1, L0, L1, L2, L3, L6, Lm1, L20, L60, L2e9] at c_4 c_5 c_6)
              omega
            have hPl := hP.sub (ws' := [((g 0), .inr (9, [.int 0, .ref (g 1), .ref (g 2), .ref (g 3), .ref (g 4), .ref (g 5), .int 0, .int 0, .int 0, .int 0, .int 0, .long 0, .int 0, .int 0, .int 0, .int (-1), .ref (g 6), .ref (g 7), .ref (g 8), .ref (g 9), .ref (g 10), .ref (g 11), .int 0, .int 0, .int 0, .int 0, .int 0, .ref (g 12), .ref (g 13), .int 0, .ref (g 14), .ref (g 15), .long 0, .int 0, .int 0, .int 0, .ref (g 16), .ref (g 17)])), ((g 3), .inl (cJ, 240, .inr (.inl (fun _ => 0))))]) [0, 3] rfl
            have hDl := hD.sub (ws' := [((g 0), .inr (9, [.int 0, .ref (g 1), .ref (g 2), .ref (g 3), .ref (g 4), .ref (g 5), .int 0, .int 0, .int 0, .int 0, .int 0, .long 0, .int 0, .int 0, .int 0, .int (-1), .ref (g 6), .ref (g 7), .ref (g 8), .ref (g 9), .ref (g 10), .ref (g 11), .int 0, .int 0, .int 0, .int 0, .int 0, .ref (g 12), .ref (g 13), .int 0, .ref (g 14), .ref (g 15), .long 0, .int 0, .int 0, .int 0, .ref (g 16), .ref (g 17)])), ((g 3), .inl (cJ, 240, .inr (.inl (fun _ => 0))))]) [0, 3] (by decide) rfl
            rw [hpN] at hl
            refine lp_X9_row (fw1 := fw) (fm1 := fw) (c0 := 0) hN (by decide) (by decide) hx hb ht hown hK (fun H locs ls hP hD hS hl => ?_) (N + 1) 0 (Nat.zero_le _) (by omega) _ _ _ hPl hDl hS (lv_sub hl [0, 1, 2, 3, 4] rfl)
            refine lv_iconst (v := 0) hx hb dX9_row_82 (by decide) ?_
            refine W.widen (k := 0) (n := 0) (Nat.le_of_ble_eq_true rfl) (Nat.le_of_ble_eq_true rfl) ?_
            exact W.iret (v := 0) hx hb hr (fun t ht hW => ⟨⟨0, (), rfl, (by (try simp only [i_lt, i_le, i_eq, l_lt, l_le, l_wd, T0, T1, T2, T3, T4, T5, T6, T7, T8, T9, T60, Tm1, L0, L1, L2, L3, L6, Lm1, L20, L60, L2e9] at c_4 c_5 c_6); first | exact Or.inl ⟨rfl, by omega⟩ | exact Or.inr (Or.inl ⟨rfl, by omega⟩) | exact Or.inr (Or.inr ⟨rfl, by omega⟩)), trivial⟩, hS.F ht⟩) hS.2.2 dX9_row_83
          · refine lv_aload_n hx hb dX9_row_40 rfl (lv_at hl 0 rfl) ?_
            refine va_get (D := (dC, dI)) (ci := 9) (v := .ref (g 1)) (C := RX9) (T := TX9) (N := 38) hx hb ht iX9 hown hK hP 0 rfl rfl 1 (by decide) (ht _ w_1263) (fun _ h9 => h9) rfl dX9_row_41 ?_
            refine lv_iload_n hx hb dX9_row_44 rfl (lv_at hl 1 rfl) ?_
            refine lv_iload_n hx hb dX9_row_45 rfl (lv_at hl 2 rfl) ?_
            refine va_iast hx hb hK hP hD hS 1 1 rfl rfl (by unfold vp_in; decide) dX9_row_46 (fun H locs hP hD hS => ?_)
            obtain ⟨f_11, ef_11⟩ : ∃ z : Nat → Int32, z = upd fw (Int32.toNatClampNeg 1) p1 := ⟨_, rfl⟩
            rw [← ef_11] at hP hD
            have hP : va_P (dC, dI) vwCl [((g 0), .inr (9, [.int 0, .ref (g 1), .ref (g 2), .ref (g 3), .ref (g 4), .ref (g 5), .int 0, .int 0, .int 0, .int 0, .int 0, .long 0, .int 0, .int 0, .int 0, .int (-1), .ref (g 6), .ref (g 7), .ref (g 8), .ref (g 9), .ref (g 10), .ref (g 11), .int 0, .int 0, .int 0, .int 0, .int 0, .ref (g 12), .ref (g 13), .int 0, .ref (g 14), .ref (g 15), .long 0, .int 0, .int 0, .int 0, .ref (g 16), .ref (g 17)])), ((g 1), .inl (cI, 4, .inl f_11)), ((g 2), .inl (cI, 4, .inl (fun _ => 0))), ((g 3), .inl (cJ, 240, .inr (.inl (fun _ => 0))))] H := hP
            have hD : va_D A [((g 0), .inr (9, [.int 0, .ref (g 1), .ref (g 2), .ref (g 3), .ref (g 4), .ref (g 5), .int 0, .int 0, .int 0, .int 0, .int 0, .long 0, .int 0, .int 0, .int 0, .int (-1), .ref (g 6), .ref (g 7), .ref (g 8), .ref (g 9), .ref (g 10), .ref (g 11), .int 0, .int 0, .int 0, .int 0, .int 0, .ref (g 12), .ref (g 13), .int 0, .ref (g 14), .ref (g 15), .long 0, .int 0, .int 0, .int 0, .ref (g 16), .ref (g 17)])), ((g 1), .inl (cI, 4, .inl f_11)), ((g 2), .inl (cI, 4, .inl (fun _ => 0))), ((g 3), .inl (cJ, 240, .inr (.inl (fun _ => 0))))] := hD
            refine lv_aload_n hx hb dX9_row_47 rfl (lv_at hl 0 rfl) ?_
            refine va_get (D := (dC, dI)) (ci := 9) (v := .ref (g 2)) (C := RX9) (T := TX9) (N := 38) hx hb ht iX9 hown hK hP 0 rfl rfl 2 (by decide) (ht _ w_1264) (fun _ h9 => h9) rfl dX9_row_48 ?_
            refine lv_iload_n hx hb dX9_row_51 rfl (lv_at hl 1 rfl) ?_
            refine lv_iload_n hx hb dX9_row_52 rfl (lv_at hl 3 rfl) ?_
            refine va_iast hx hb hK hP hD hS 2 1 rfl rfl (by unfold vp_in; decide) dX9_row_53 (fun H locs hP hD hS => ?_)
            obtain ⟨f_12, ef_12⟩ : ∃ z : Nat → Int32, z = upd (fun _ => 0) (Int32.toNatClampNeg 1) p2 := ⟨_, rfl⟩
            rw [← ef_12] at hP hD
            have hP : va_P (dC, dI) vwCl [((g 0), .inr (9, [.int 0, .ref (g 1), .ref (g 2), .ref (g 3), .ref (g 4), .ref (g 5), .int 0, .int 0, .int 0, .int 0, .int 0, .long 0, .int 0, .int 0, .int 0, .int (-1), .ref (g 6), .ref (g 7), .ref (g 8), .ref (g 9), .ref (g 10), .ref (g 11), .int 0, .int 0, .int 0, .int 0, .int 0, .ref (g 12), .ref (g 13), .int 0, .ref (g 14), .ref (g 15), .long 0, .int 0, .int 0, .int 0, .ref (g 16), .ref (g 17)])), ((g 1), .inl (cI, 4, .inl f_11)), ((g 2), .inl (cI, 4, .inl f_12)), ((g 3), .inl (cJ, 240, .inr (.inl (fun _ => 0))))] H := hP
            have hD : va_D A [((g 0), .inr (9, [.int 0, .ref (g 1), .ref (g 2), .ref (g 3), .ref (g 4), .ref (g 5), .int 0, .int 0, .int 0, .int 0, .int 0, .long 0, .int 0, .int 0, .int 0, .int (-1), .ref (g 6), .ref (g 7), .ref (g 8), .ref (g 9), .ref (g 10), .ref (g 11), .int 0, .int 0, .int 0, .int 0, .int 0, .ref (g 12), .ref (g 13), .int 0, .ref (g 14), .ref (g 15), .long 0, .int 0, .int 0, .int 0, .ref (g 16), .ref (g 17)])), ((g 1), .inl (cI, 4, .inl f_11)), ((g 2), .inl (cI, 4, .inl f_12)), ((g 3), .inl (cJ, 240, .inr (.inl (fun _ => 0))))] := hD
            refine lv_iconst (v := 0) hx hb dX9_row_54 (by decide) ?_
            refine lv_istore (lv' := [(4, .int 0), (0, .ref (g 0)), (1, .int 1), (2, .int p1), (3, .int p2)]) hx hb dX9_row_55 hl (by decide) rfl (fun ls hl => ?_)
            obtain ⟨N, hN2, hpN⟩ := nI_of (show ¬ p2 < 0 by rw [i_lt, T0]; (try simp only [i_lt, i_le, i_eq, l_lt, l_le, l_wd, T0, T1, T2, T3, T4, T5, T6, T7, T8, T9, T60, Tm1, L0, L1, L2, L3, L6, Lm1, L20, L60, L2e9] at c_4 c_5 c_6); omega)
            have hN : N ≤ 60 := by
              have e1 := congrArg Int32.toInt hpN
              rw [nI_toInt hN2] at e1
              (try simp only [i_lt, i_le, i_eq, l_lt, l_le, l_wd, T0, T1, T2, T3, T4, T5, T6, T7, T8, T9, T60, Tm1, L0, L1, L2, L3, L6, Lm1, L20, L60, L2e9] at c_4 c_5 c_6)
              omega
            have hPl := hP.sub (ws' := [((g 0), .inr (9, [.int 0, .ref (g 1), .ref (g 2), .ref (g 3), .ref (g 4), .ref (g 5), .int 0, .int 0, .int 0, .int 0, .int 0, .long 0, .int 0, .int 0, .int 0, .int (-1), .ref (g 6), .ref (g 7), .ref (g 8), .ref (g 9), .ref (g 10), .ref (g 11), .int 0, .int 0, .int 0, .int 0, .int 0, .ref (g 12), .ref (g 13), .int 0, .ref (g 14), .ref (g 15), .long 0, .int 0, .int 0, .int 0, .ref (g 16), .ref (g 17)])), ((g 3), .inl (cJ, 240, .inr (.inl (fun _ => 0))))]) [0, 3] rfl
            have hDl := hD.sub (ws' := [((g 0), .inr (9, [.int 0, .ref (g 1), .ref (g 2), .ref (g 3), .ref (g 4), .ref (g 5), .int 0, .int 0, .int 0, .int 0, .int 0, .long 0, .int 0, .int 0, .int 0, .int (-1), .ref (g 6), .ref (g 7), .ref (g 8), .ref (g 9), .ref (g 10), .ref (g 11), .int 0, .int 0, .int 0, .int 0, .int 0, .ref (g 12), .ref (g 13), .int 0, .ref (g 14), .ref (g 15), .long 0, .int 0, .int 0, .int 0, .ref (g 16), .ref (g 17)])), ((g 3), .inl (cJ, 240, .inr (.inl (fun _ => 0))))]) [0, 3] (by decide) rfl
            rw [hpN] at hl
            refine lp_X9_row (fw1 := fw) (fm1 := fw) (c0 := 60) hN (by decide) (by decide) hx hb ht hown hK (fun H locs ls hP hD hS hl => ?_) (N + 1) 0 (Nat.zero_le _) (by omega) _ _ _ hPl hDl hS (lv_sub hl [0, 1, 2, 3, 4] rfl)
            refine lv_iconst (v := 0) hx hb dX9_row_82 (by decide) ?_
            refine W.widen (k := 0) (n := 0) (Nat.le_of_ble_eq_true rfl) (Nat.le_of_ble_eq_true rfl) ?_
            exact W.iret (v := 0) hx hb hr (fun t ht hW => ⟨⟨0, (), rfl, (by (try simp only [i_lt, i_le, i_eq, l_lt, l_le, l_wd, T0, T1, T2, T3, T4, T5, T6, T7, T8, T9, T60, Tm1, L0, L1, L2, L3, L6, Lm1, L20, L60, L2e9] at c_4 c_5 c_6); first | exact Or.inl ⟨rfl, by omega⟩ | exact Or.inr (Or.inl ⟨rfl, by omega⟩) | exact Or.inr (Or.inr ⟨rfl, by omega⟩)), trivial⟩, hS.F ht⟩) hS.2.2 dX9_row_83
          · refine lv_aload_n hx hb dX9_row_40 rfl (lv_at hl 0 rfl) ?_
            refine va_get (D := (dC, dI)) (ci := 9) (v := .ref (g 1)) (C := RX9) (T := TX9) (N := 38) hx hb ht iX9 hown hK hP 0 rfl rfl 1 (by decide) (ht _ w_1263) (fun _ h9 => h9) rfl dX9_row_41 ?_
            refine lv_iload_n hx hb dX9_row_44 rfl (lv_at hl 1 rfl) ?_
            refine lv_iload_n hx hb dX9_row_45 rfl (lv_at hl 2 rfl) ?_
            refine va_iast hx hb hK hP hD hS 1 1 rfl rfl (by unfold vp_in; decide) dX9_row_46 (fun H locs hP hD hS => ?_)
            obtain ⟨f_14, ef_14⟩ : ∃ z : Nat → Int32, z = upd fw (Int32.toNatClampNeg 2) p1 := ⟨_, rfl⟩
            rw [← ef_14] at hP hD
            have hP : va_P (dC, dI) vwCl [((g 0), .inr (9, [.int 0, .ref (g 1), .ref (g 2), .ref (g 3), .ref (g 4), .ref (g 5), .int 0, .int 0, .int 0, .int 0, .int 0, .long 0, .int 0, .int 0, .int 0, .int (-1), .ref (g 6), .ref (g 7), .ref (g 8), .ref (g 9), .ref (g 10), .ref (g 11), .int 0, .int 0, .int 0, .int 0, .int 0, .ref (g 12), .ref (g 13), .int 0, .ref (g 14), .ref (g 15), .long 0, .int 0, .int 0, .int 0, .ref (g 16), .ref (g 17)])), ((g 1), .inl (cI, 4, .inl f_14)), ((g 2), .inl (cI, 4, .inl (fun _ => 0))), ((g 3), .inl (cJ, 240, .inr (.inl (fun _ => 0))))] H := hP
            have hD : va_D A [((g 0), .inr (9, [.int 0, .ref (g 1), .ref (g 2), .ref (g 3), .ref (g 4), .ref (g 5), .int 0, .int 0, .int 0, .int 0, .int 0, .long 0, .int 0, .int 0, .int 0, .int (-1), .ref (g 6), .ref (g 7), .ref (g 8), .ref (g 9), .ref (g 10), .ref (g 11), .int 0, .int 0, .int 0, .int 0, .int 0, .ref (g 12), .ref (g 13), .int 0, .ref (g 14), .ref (g 15), .long 0, .int 0, .int 0, .int 0, .ref (g 16), .ref (g 17)])), ((g 1), .inl (cI, 4, .inl f_14)), ((g 2), .inl (cI, 4, .inl (fun _ => 0))), ((g 3), .inl (cJ, 240, .inr (.inl (fun _ => 0))))] := hD
            refine lv_aload_n hx hb dX9_row_47 rfl (lv_at hl 0 rfl) ?_
            refine va_get (D := (dC, dI)) (ci := 9) (v := .ref (g 2)) (C := RX9) (T := TX9) (N := 38) hx hb ht iX9 hown hK hP 0 rfl rfl 2 (by decide) (ht _ w_1264) (fun _ h9 => h9) rfl dX9_row_48 ?_
            refine lv_iload_n hx hb dX9_row_51 rfl (lv_at hl 1 rfl) ?_
            refine lv_iload_n hx hb dX9_row_52 rfl (lv_at hl 3 rfl) ?_
            refine va_iast hx hb hK hP hD hS 2 1 rfl rfl (by unfold vp_in; decide) dX9_row_53 (fun H locs hP hD hS => ?_)
            obtain ⟨f_15, ef_15⟩ : ∃ z : Nat → Int32, z = upd (fun _ => 0) (Int32.toNatClampNeg 2) p2 := ⟨_, rfl⟩
            rw [← ef_15] at hP hD
            have hP : va_P (dC, dI) vwCl [((g 0), .inr (9, [.int 0, .ref (g 1), .ref (g 2), .ref (g 3), .ref (g 4), .ref (g 5), .int 0, .int 0, .int 0, .int 0, .int 0, .long 0, .int 0, .int 0, .int 0, .int (-1), .ref (g 6), .ref (g 7), .ref (g 8), .ref (g 9), .ref (g 10), .ref (g 11), .int 0, .int 0, .int 0, .int 0, .int 0, .ref (g 12), .ref (g 13), .int 0, .ref (g 14), .ref (g 15), .long 0, .int 0, .int 0, .int 0, .ref (g 16), .ref (g 17)])), ((g 1), .inl (cI, 4, .inl f_14)), ((g 2), .inl (cI, 4, .inl f_15)), ((g 3), .inl (cJ, 240, .inr (.inl (fun _ => 0))))] H := hP
            have hD : va_D A [((g 0), .inr (9, [.int 0, .ref (g 1), .ref (g 2), .ref (g 3), .ref (g 4), .ref (g 5), .int 0, .int 0, .int 0, .int 0, .int 0, .long 0, .int 0, .int 0, .int 0, .int (-1), .ref (g 6), .ref (g 7), .ref (g 8), .ref (g 9), .ref (g 10), .ref (g 11), .int 0, .int 0, .int 0, .int 0, .int 0, .ref (g 12), .ref (g 13), .int 0, .ref (g 14), .ref (g 15), .long 0, .int 0, .int 0, .int 0, .ref (g 16), .ref (g 17)])), ((g 1), .inl (cI, 4, .inl f_14)), ((g 2), .inl (cI, 4, .inl f_15)), ((g 3), .inl (cJ, 240, .inr (.inl (fun _ => 0))))] := hD
            refine lv_iconst (v := 0) hx hb dX9_row_54 (by decide) ?_
            refine lv_istore (lv' := [(4, .int 0), (0, .ref (g 0)), (1, .int 2), (2, .int p1), (3, .int p2)]) hx hb dX9_row_55 hl (by decide) rfl (fun ls hl => ?_)
            obtain ⟨N, hN2, hpN⟩ := nI_of (show ¬ p2 < 0 by rw [i_lt, T0]; (try simp only [i_lt, i_le, i_eq, l_lt, l_le, l_wd, T0, T1, T2, T3, T4, T5, T6, T7, T8, T9, T60, Tm1, L0, L1, L2, L3, L6, Lm1, L20, L60, L2e9] at c_4 c_5 c_6); omega)
            have hN : N ≤ 60 := by
              have e1 := congrArg Int32.toInt hpN
              rw [nI_toInt hN2] at e1
              (try simp only [i_lt, i_le, i_eq, l_lt, l_le, l_wd, T0, T1, T2, T3, T4, T5, T6, T7, T8, T9, T60, Tm1, L0, L1, L2, L3, L6, Lm1, L20, L60, L2e9] at c_4 c_5 c_6)
              omega
            have hPl := hP.sub (ws' := [((g 0), .inr (9, [.int 0, .ref (g 1), .ref (g 2), .ref (g 3), .ref (g 4), .ref (g 5), .int 0, .int 0, .int 0, .int 0, .int 0, .long 0, .int 0, .int 0, .int 0, .int (-1), .ref (g 6), .ref (g 7), .ref (g 8), .ref (g 9), .ref (g 10), .ref (g 11), .int 0, .int 0, .int 0, .int 0, .int 0, .ref (g 12), .ref (g 13), .int 0, .ref (g 14), .ref (g 15), .long 0, .int 0, .int 0, .int 0, .ref (g 16), .ref (g 17)])), ((g 3), .inl (cJ, 240, .inr (.inl (fun _ => 0))))]) [0, 3] rfl
            have hDl := hD.sub (ws' := [((g 0), .inr (9, [.int 0, .ref (g 1), .ref (g 2), .ref (g 3), .ref (g 4), .ref (g 5), .int 0, .int 0, .int 0, .int 0, .int 0, .long 0, .int 0, .int 0, .int 0, .int (-1), .ref (g 6), .ref (g 7), .ref (g 8), .ref (g 9), .ref (g 10), .ref (g 11), .int 0, .int 0, .int 0, .int 0, .int 0, .ref (g 12), .ref (g 13), .int 0, .ref (g 14), .ref (g 15), .long 0, .int 0, .int 0, .int 0, .ref (g 16), .ref (g 17)])), ((g 3), .inl (cJ, 240, .inr (.inl (fun _ => 0))))]) [0, 3] (by decide) rfl
            rw [hpN] at hl
            refine lp_X9_row (fw1 := fw) (fm1 := fw) (c0 := 120) hN (by decide) (by decide) hx hb ht hown hK (fun H locs ls hP hD hS hl => ?_) (N + 1) 0 (Nat.zero_le _) (by omega) _ _ _ hPl hDl hS (lv_sub hl [0, 1, 2, 3, 4] rfl)
            refine lv_iconst (v := 0) hx hb dX9_row_82 (by decide) ?_
            refine W.widen (k := 0) (n := 0) (Nat.le_of_ble_eq_true rfl) (Nat.le_of_ble_eq_true rfl) ?_
            exact W.iret (v := 0) hx hb hr (fun t ht hW => ⟨⟨0, (), rfl, (by (try simp only [i_lt, i_le, i_eq, l_lt, l_le, l_wd, T0, T1, T2, T3, T4, T5, T6, T7, T8, T9, T60, Tm1, L0, L1, L2, L3, L6, Lm1, L20, L60, L2e9] at c_4 c_5 c_6); first | exact Or.inl ⟨rfl, by omega⟩ | exact Or.inr (Or.inl ⟨rfl, by omega⟩) | exact Or.inr (Or.inr ⟨rfl, by omega⟩)), trivial⟩, hS.F ht⟩) hS.2.2 dX9_row_83
          · refine lv_aload_n hx hb dX9_row_40 rfl (lv_at hl 0 rfl) ?_
            refine va_get (D := (dC, dI)) (ci := 9) (v := .ref (g 1)) (C := RX9) (T := TX9) (N := 38) hx hb ht iX9 hown hK hP 0 rfl rfl 1 (by decide) (ht _ w_1263) (fun _ h9 => h9) rfl dX9_row_41 ?_
            refine lv_iload_n hx hb dX9_row_44 rfl (lv_at hl 1 rfl) ?_
            refine lv_iload_n hx hb dX9_row_45 rfl (lv_at hl 2 rfl) ?_
            refine va_iast hx hb hK hP hD hS 1 1 rfl rfl (by unfold vp_in; decide) dX9_row_46 (fun H locs hP hD hS => ?_)
            obtain ⟨f_17, ef_17⟩ : ∃ z : Nat → Int32, z = upd fw (Int32.toNatClampNeg 3) p1 := ⟨_, rfl⟩
            rw [← ef_17] at hP hD
            have hP : va_P (dC, dI) vwCl [((g 0), .inr (9, [.int 0, .ref (g 1), .ref (g 2), .ref (g 3), .ref (g 4), .ref (g 5), .int 0, .int 0, .int 0, .int 0, .int 0, .long 0, .int 0, .int 0, .int 0, .int (-1), .ref (g 6), .ref (g 7), .ref (g 8), .ref (g 9), .ref (g 10), .ref (g 11), .int 0, .int 0, .int 0, .int 0, .int 0, .ref (g 12), .ref (g 13), .int 0, .ref (g 14), .ref (g 15), .long 0, .int 0, .int 0, .int 0, .ref (g 16), .ref (g 17)])), ((g 1), .inl (cI, 4, .inl f_17)), ((g 2), .inl (cI, 4, .inl (fun _ => 0))), ((g 3), .inl (cJ, 240, .inr (.inl (fun _ => 0))))] H := hP
            have hD : va_D A [((g 0), .inr (9, [.int 0, .ref (g 1), .ref (g 2), .ref (g 3), .ref (g 4), .ref (g 5), .int 0, .int 0, .int 0, .int 0, .int 0, .long 0, .int 0, .int 0, .int 0, .int (-1), .ref (g 6), .ref (g 7), .ref (g 8), .ref (g 9), .ref (g 10), .ref (g 11), .int 0, .int 0, .int 0, .int 0, .int 0, .ref (g 12), .ref (g 13), .int 0, .ref (g 14), .ref (g 15), .long 0, .int 0, .int 0, .int 0, .ref (g 16), .ref (g 17)])), ((g 1), .inl (cI, 4, .inl f_17)), ((g 2), .inl (cI, 4, .inl (fun _ => 0))), ((g 3), .inl (cJ, 240, .inr (.inl (fun _ => 0))))] := hD
            refine lv_aload_n hx hb dX9_row_47 rfl (lv_at hl 0 rfl) ?_
            refine va_get (D := (dC, dI)) (ci := 9) (v := .ref (g 2)) (C := RX9) (T := TX9) (N := 38) hx hb ht iX9 hown hK hP 0 rfl rfl 2 (by decide) (ht _ w_1264) (fun _ h9 => h9) rfl dX9_row_48 ?_
            refine lv_iload_n hx hb dX9_row_51 rfl (lv_at hl 1 rfl) ?_
            refine lv_iload_n hx hb dX9_row_52 rfl (lv_at hl 3 rfl) ?_
            refine va_iast hx hb hK hP hD hS 2 1 rfl rfl (by unfold vp_in; decide) dX9_row_53 (fun H locs hP hD hS => ?_)
            obtain ⟨f_18, ef_18⟩ : ∃ z : Nat → Int32, z = upd (fun _ => 0) (Int32.toNatClampNeg 3) p2 := ⟨_, rfl⟩
            rw [← ef_18] at hP hD
            have hP : va_P (dC, dI) vwCl [((g 0), .inr (9, [.int 0, .ref (g 1), .ref (g 2), .ref (g 3), .ref (g 4), .ref (g 5), .int 0, .int 0, .int 0, .int 0, .int 0, .long 0, .int 0, .int 0, .int 0, .int (-1), .ref (g 6), .ref (g 7), .ref (g 8), .ref (g 9), .ref (g 10), .ref (g 11), .int 0, .int 0, .int 0, .int 0, .int 0, .ref (g 12), .ref (g 13), .int 0, .ref (g 14), .ref (g 15), .long 0, .int 0, .int 0, .int 0, .ref (g 16), .ref (g 17)])), ((g 1), .inl (cI, 4, .inl f_17)), ((g 2), .inl (cI, 4, .inl f_18)), ((g 3), .inl (cJ, 240, .inr (.inl (fun _ => 0))))] H := hP
            have hD : va_D A [((g 0), .inr (9, [.int 0, .ref (g 1), .ref (g 2), .ref (g 3), .ref (g 4), .ref (g 5), .int 0, .int 0, .int 0, .int 0, .int 0, .long 0, .int 0, .int 0, .int 0, .int (-1), .ref (g 6), .ref (g 7), .ref (g 8), .ref (g 9), .ref (g 10), .ref (g 11), .int 0, .int 0, .int 0, .int 0, .int 0, .ref (g 12), .ref (g 13), .int 0, .ref (g 14), .ref (g 15), .long 0, .int 0, .int 0, .int 0, .ref (g 16), .ref (g 17)])), ((g 1), .inl (cI, 4, .inl f_17)), ((g 2), .inl (cI, 4, .inl f_18)), ((g 3), .inl (cJ, 240, .inr (.inl (fun _ => 0))))] := hD
            refine lv_iconst (v := 0) hx hb dX9_row_54 (by decide) ?_
            refine lv_istore (lv' := [(4, .int 0), (0, .ref (g 0)), (1, .int 3), (2, .int p1), (3, .int p2)]) hx hb dX9_row_55 hl (by decide) rfl (fun ls hl => ?_)
            obtain ⟨N, hN2, hpN⟩ := nI_of (show ¬ p2 < 0 by rw [i_lt, T0]; (try simp only [i_lt, i_le, i_eq, l_lt, l_le, l_wd, T0, T1, T2, T3, T4, T5, T6, T7, T8, T9, T60, Tm1, L0, L1, L2, L3, L6, Lm1, L20, L60, L2e9] at c_4 c_5 c_6); omega)
            have hN : N ≤ 60 := by
              have e1 := congrArg Int32.toInt hpN
              rw [nI_toInt hN2] at e1
              (try simp only [i_lt, i_le, i_eq, l_lt, l_le, l_wd, T0, T1, T2, T3, T4, T5, T6, T7, T8, T9, T60, Tm1, L0, L1, L2, L3, L6, Lm1, L20, L60, L2e9] at c_4 c_5 c_6)
              omega
            have hPl := hP.sub (ws' := [((g 0), .inr (9, [.int 0, .ref (g 1), .ref (g 2), .ref (g 3), .ref (g 4), .ref (g 5), .int 0, .int 0, .int 0, .int 0, .int 0, .long 0, .int 0, .int 0, .int 0, .int (-1), .ref (g 6), .ref (g 7), .ref (g 8), .ref (g 9), .ref (g 10), .ref (g 11), .int 0, .int 0, .int 0, .int 0, .int 0, .ref (g 12), .ref (g 13), .int 0, .ref (g 14), .ref (g 15), .long 0, .int 0, .int 0, .int 0, .ref (g 16), .ref (g 17)])), ((g 3), .inl (cJ, 240, .inr (.inl (fun _ => 0))))]) [0, 3] rfl
            have hDl := hD.sub (ws' := [((g 0), .inr (9, [.int 0, .ref (g 1), .ref (g 2), .ref (g 3), .ref (g 4), .ref (g 5), .int 0, .int 0, .int 0, .int 0, .int 0, .long 0, .int 0, .int 0, .int 0, .int (-1), .ref (g 6), .ref (g 7), .ref (g 8), .ref (g 9), .ref (g 10), .ref (g 11), .int 0, .int 0, .int 0, .int 0, .int 0, .ref (g 12), .ref (g 13), .int 0, .ref (g 14), .ref (g 15), .long 0, .int 0, .int 0, .int 0, .ref (g 16), .ref (g 17)])), ((g 3), .inl (cJ, 240, .inr (.inl (fun _ => 0))))]) [0, 3] (by decide) rfl
            rw [hpN] at hl
            refine lp_X9_row (fw1 := fw) (fm1 := fw) (c0 := 180) hN (by decide) (by decide) hx hb ht hown hK (fun H locs ls hP hD hS hl => ?_) (N + 1) 0 (Nat.zero_le _) (by omega) _ _ _ hPl hDl hS (lv_sub hl [0, 1, 2, 3, 4] rfl)
            refine lv_iconst (v := 0) hx hb dX9_row_82 (by decide) ?_
            refine W.widen (k := 0) (n := 0) (Nat.le_of_ble_eq_true rfl) (Nat.le_of_ble_eq_true rfl) ?_
            exact W.iret (v := 0) hx hb hr (fun t ht hW => ⟨⟨0, (), rfl, (by (try simp only [i_lt, i_le, i_eq, l_lt, l_le, l_wd, T0, T1, T2, T3, T4, T5, T6, T7, T8, T9, T60, Tm1, L0, L1, L2, L3, L6, Lm1, L20, L60, L2e9] at c_4 c_5 c_6); first | exact Or.inl ⟨rfl, by omega⟩ | exact Or.inr (Or.inl ⟨rfl, by omega⟩) | exact Or.inr (Or.inr ⟨rfl, by omega⟩)), trivial⟩, hS.F ht⟩) hS.2.2 dX9_row_83
        · refine lv_bipush (v := (-3)) hx hb dX9_row_37 (by decide) ?_
          refine W.widen (k := 0) (n := 0) (Nat.le_of_ble_eq_true rfl) (Nat.le_of_ble_eq_true rfl) ?_
          exact W.iret (v := (-3)) hx hb hr (fun t ht hW => ⟨⟨(-3), (), rfl, (by (try simp only [i_lt, i_le, i_eq, l_lt, l_le, l_wd, T0, T1, T2, T3, T4, T5, T6, T7, T8, T9, T60, Tm1, L0, L1, L2, L3, L6, Lm1, L20, L60, L2e9] at c_2 c_4 c_5 c_6); first | exact Or.inl ⟨rfl, by omega⟩ | exact Or.inr (Or.inl ⟨rfl, by omega⟩) | exact Or.inr (Or.inr ⟨rfl, by omega⟩)), trivial⟩, hS.F ht⟩) hS.2.2 dX9_row_39
      · refine lv_bipush (v := (-2)) hx hb dX9_row_30 (by decide) ?_
        refine W.widen (k := 0) (n := 0) (Nat.le_of_ble_eq_true rfl) (Nat.le_of_ble_eq_true rfl) ?_
        exact W.iret (v := (-2)) hx hb hr (fun t ht hW => ⟨⟨(-2), (), rfl, (by (try simp only [i_lt, i_le, i_eq, l_lt, l_le, l_wd, T0, T1, T2, T3, T4, T5, T6, T7, T8, T9, T60, Tm1, L0, L1, L2, L3, L6, Lm1, L20, L60, L2e9] at c_2 c_4 c_5); first | exact Or.inl ⟨rfl, by omega⟩ | exact Or.inr (Or.inl ⟨rfl, by omega⟩) | exact Or.inr (Or.inr ⟨rfl, by omega⟩)), trivial⟩, hS.F ht⟩) hS.2.2 dX9_row_32
    · subst hw
      refine lv_if_eq (tgt := 30) hx hb dX9_row_21 (by decide) (fun _ => ?_) (fun c9 => by first | exact absurd (by decide) c9 | exact absurd c9 (by decide))
      refine lv_bipush (v := (-2)) hx hb dX9_row_30 (by decide) ?_
      refine W.widen (k := 0) (n := 0) (Nat.le_of_ble_eq_true rfl) (Nat.le_of_ble_eq_true rfl) ?_
      exact W.iret (v := (-2)) hx hb hr (fun t ht hW => ⟨⟨(-2), (), rfl, (by (try simp only [i_lt, i_le, i_eq, l_lt, l_le, l_wd, T0, T1, T2, T3, T4, T5, T6, T7, T8, T9, T60, Tm1, L0, L1, L2, L3, L6, Lm1, L20, L60, L2e9] at c_2 c_4); first | exact Or.inl ⟨rfl, by omega⟩ | exact Or.inr (Or.inl ⟨rfl, by omega⟩) | exact Or.inr (Or.inr ⟨rfl, by omega⟩)), trivial⟩, hS.F ht⟩) hS.2.2 dX9_row_32
  · subst hw
    refine lv_if_eq (tgt := 30) hx hb dX9_row_9 (by decide) (fun _ => ?_) (fun c9 => by first | exact absurd (by decide) c9 | exact absurd c9 (by decide))
    refine lv_bipush (v := (-2)) hx hb dX9_row_30 (by decide) ?_
    refine W.widen (k := 0) (n := 0) (Nat.le_of_ble_eq_true rfl) (Nat.le_of_ble_eq_true rfl) ?_
    exact W.iret (v := (-2)) hx hb hr (fun t ht hW => ⟨⟨(-2), (), rfl, (by (try simp only [i_lt, i_le, i_eq, l_lt, l_le, l_wd, T0, T1, T2, T3, T4, T5, T6, T7, T8, T9, T60, Tm1, L0, L1, L2, L3, L6, Lm1, L20, L60, L2e9] at c_2); first | exact Or.inl ⟨rfl, by omega⟩ | exact Or.inr (Or.inl ⟨rfl, by omega⟩) | exact Or.inr (Or.inr ⟨rfl, by omega⟩)), trivial⟩, hS.F ht⟩) hS.2.2 dX9_row_32
