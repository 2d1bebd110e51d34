set_option maxHeartbeats 4000000 in
set_option maxRecDepth 100000 in
theorem k_X5_append_12 (l : Launch) (dC : Nat → ClassId) (dI : Nat → Nat → Nat) (cB cI cJ cZ cL : ClassId) (sz : Nat) (tA : Nat) (bA : Nat) (f : Nat → Int32) (p0 : Int32) : Met l yX5_append (wy yX5_append cX5_append 3 none) ({ frames := 0, cells := 0, slots := 0, locals := 0 }) (va_Pc [.ref tA, .int p0] (fun U => U.heap.size = sz ∧ va_P (dC, dI) vwCl [(tA, .inr (5, [.ref bA, .int 12])), (bA, .inl (cB, 500, .inl f))] U.heap ∧ va_K (dC, dI) vwCl (tyL cB cI cJ cZ cL) U ∧ va_D (fun _ => True) [(tA, .inr (5, [.ref bA, .int 12])), (bA, .inl (cB, 500, .inl f))])) (va_Qv (fun _ => True) (fun (u : Nat → Int32) t => va_P (dC, dI) vwCl [(tA, .inr (5, [.ref bA, .int 16])), (bA, .inl (cB, 500, .inl u))] t.heap ∧ va_D (va_A [(tA, .inr (5, [.ref bA, .int 12])), (bA, .inl (cB, 500, .inl f))] sz) [(tA, .inr (5, [.ref bA, .int 16])), (bA, .inl (cB, 500, .inl u))]) (va_A [(tA, .inr (5, [.ref bA, .int 12])), (bA, .inl (cB, 500, .inl f))] sz)) 0 0 (va_A [(tA, .inr (5, [.ref bA, .int 12])), (bA, .inl (cB, 500, .inl f))] sz) := by
  refine Met.ofW (cc := cX5_append) (maxL := 3) (ret := none) (by decide) rfl ?_
  intro p e s m args below meth c s₁ B hml hv
  obtain ⟨rfl, hsz, hP, hK, hD0⟩ := hv
  have hx := B.exec
  have hb := B.bytes
  have hr := B.returns
  have ht : ∀ w ∈ lw_ok, w.before _ s = true := fun w h => atoms_spec (ws := wy yX5_append cX5_append 3 none) B.pre w (List.mem_cons_of_mem _ h)
  have hown : s.vm.findClass RX5 = some m.cls := findClass_of_methodNamed B.named
  have hlocks := B.notSynchronized
  subst hsz
  have hD := hD0.self (sz := s.heap.size)
  generalize hAe : va_A [(tA, .inr (5, [.ref bA, .int 12])), (bA, .inl (cB, 500, .inl f))] s.heap.size = A at hD ⊢
  have hA : ∀ q : Nat, s.heap.size ≤ q → A q := fun q h => by rw [← hAe]; exact Or.inr h
  have hS : va_S A s.heap s.heap [] := va_S.rf
  have hl := lv_entry ([.ref tA, .int p0]) (n := 3) (Nat.le_of_ble_eq_true rfl)
  rw [lg_entry_eq]
  generalize (lg_sl ([.ref tA, .int p0]) ++ List.replicate (3 - (lg_sl ([.ref tA, .int p0])).length) Slot.unset).toArray = ls at hl ⊢
  have hl : lv_has ls 3 [(0, .ref tA), (1, .int p0)] := hl
  have hP : va_P (dC, dI) vwCl [(tA, .inr (5, [.ref bA, .int 12])), (bA, .inl (cB, 500, .inl f))] s.heap := hP
  have hD : va_D A [(tA, .inr (5, [.ref bA, .int 12])), (bA, .inl (cB, 500, .inl f))] := hD
  refine lv_bipush (v := 24) hx hb dX5_append_0 (by decide) ?_
  refine lv_istore_n (lv' := [(2, .int 24), (0, .ref tA), (1, .int p0)]) hx hb dX5_append_2 rfl hl (by decide) rfl (fun ls hl => ?_)
  refine lv_iload_n hx hb dX5_append_3 rfl (lv_at hl 0 rfl) ?_
  refine lv_if_lt (tgt := 46) hx hb dX5_append_4 (by decide) (fun c9 => by first | exact absurd c9 (by decide) | exact absurd (by decide) c9) (fun _ => ?_)
  refine lv_aload_n hx hb dX5_append_7 rfl (lv_at hl 1 rfl) ?_
  refine va_get (D := (dC, dI)) (ci := 5) (v := .int 12) (C := RX5) (T := TX5) (N := 2) hx hb ht iX5 hown hK hP 0 rfl rfl 1 (by decide) (ht _ w_138) (fun _ h9 => h9) rfl dX5_append_8 ?_
  refine lv_sipush (v := 500) hx hb dX5_append_11 (by decide) ?_
  refine lv_icmp_ge (tgt := 46) hx hb dX5_append_14 (by decide) (fun c9 => by first | exact absurd c9 (by decide) | exact absurd (by decide) c9) (fun _ => ?_)
  refine lv_aload_n hx hb dX5_append_17 rfl (lv_at hl 1 rfl) ?_
  refine va_get (D := (dC, dI)) (ci := 5) (v := .ref bA) (C := RX5) (T := TX5) (N := 2) hx hb ht iX5 hown hK hP 0 rfl rfl 0 (by decide) (ht _ w_137) (fun _ h9 => h9) rfl dX5_append_18 ?_
  refine lv_aload_n hx hb dX5_append_21 rfl (lv_at hl 1 rfl) ?_
  refine va_get (D := (dC, dI)) (ci := 5) (v := .int 12) (C := RX5) (T := TX5) (N := 2) hx hb ht iX5 hown hK hP 0 rfl rfl 1 (by decide) (ht _ w_138) (fun _ h9 => h9) rfl dX5_append_22 ?_
  refine lv_iload_n hx hb dX5_append_25 rfl (lv_at hl 2 rfl) ?_
  refine lv_iload_n hx hb dX5_append_26 rfl (lv_at hl 0 rfl) ?_
  refine lv_ishr hx hb dX5_append_27 ?_
  refine lv_i2b (v := (Int8.toInt32 (Int32.toInt8 (p0 >>> (24 &&& 31))))) hx hb dX5_append_28 rfl ?_
  refine va_bast hx hb hK hP hD hS 1 0 rfl rfl (by unfold vp_in; decide) dX5_append_29 (fun H locs hP hD hS => ?_)
  obtain ⟨f_1, ef_1⟩ : ∃ z : Nat → Int32, z = upd f (Int32.toNatClampNeg 12) (vp_nar .byte (Int8.toInt32 (Int32.toInt8 (p0 >>> (24 &&& 31))))) := ⟨_, rfl⟩
  rw [← ef_1] at hP hD
  have hP : va_P (dC, dI) vwCl [(tA, .inr (5, [.ref bA, .int 12])), (bA, .inl (cB, 500, .inl f_1))] H := hP
  have hD : va_D A [(tA, .inr (5, [.ref bA, .int 12])), (bA, .inl (cB, 500, .inl f_1))] := hD
  refine lv_aload_n hx hb dX5_append_30 rfl (lv_at hl 1 rfl) ?_
  refine lv_dup hx hb dX5_append_31 rfl ?_
  refine va_get (D := (dC, dI)) (ci := 5) (v := .int 12) (C := RX5) (T := TX5) (N := 2) hx hb ht iX5 hown hK hP 0 rfl rfl 1 (by decide) (ht _ w_138) (fun _ h9 => h9) rfl dX5_append_32 ?_
  refine lv_iconst (v := 1) hx hb dX5_append_35 (by decide) ?_
  refine lv_iadd hx hb dX5_append_36 ?_
  refine lv_topi (fun y_2 ey_2 => ?_)
  obtain rfl : y_2 = 13 := ey_2.trans (by decide)
  refine va_put (D := (dC, dI)) (ci := 5) (v := .int 13) (ty := .int) (C := RX5) (T := TX5) (N := 2) hx hb ht iX5 tyX5 tyX5_ok nmX5 hown hK hP hD hS 0 rfl rfl 1 (by decide) (ht _ w_138) (fun _ h9 => h9) rfl (by decide +kernel) rfl rfl (Nat.le_of_ble_eq_true rfl) dX5_append_37 (fun H locs hP hD hS => ?_)
  have hP : va_P (dC, dI) vwCl [(tA, .inr (5, [.ref bA, .int 13])), (bA, .inl (cB, 500, .inl f_1))] H := hP
  have hD : va_D A [(tA, .inr (5, [.ref bA, .int 13])), (bA, .inl (cB, 500, .inl f_1))] := hD
  refine lv_iinc (v := 16) (lv' := [(2, .int 16), (0, .ref tA), (1, .int p0)]) hx hb dX5_append_40 hl (k := 0) rfl (by decide) (by decide) rfl (fun ls hl => ?_)
  refine lv_goto (tgt := 3) hx hb dX5_append_43 (by decide) ?_
  refine lv_iload_n hx hb dX5_append_3 rfl (lv_at hl 0 rfl) ?_
  refine lv_if_lt (tgt := 46) hx hb dX5_append_4 (by decide) (fun c9 => by first | exact absurd c9 (by decide) | exact absurd (by decide) c9) (fun _ => ?_)
  refine lv_aload_n hx hb dX5_append_7 rfl (lv_at hl 1 rfl) ?_
  refine va_get (D := (dC, dI)) (ci := 5) (v := .int 13) (C := RX5) (T := TX5) (N := 2) hx hb ht iX5 hown hK hP 0 rfl rfl 1 (by decide) (ht _ w_138) (fun _ h9 => h9) rfl dX5_append_8 ?_
  refine lv_sipush (v := 500) hx hb dX5_append_11 (by decide) ?_
  refine lv_icmp_ge (tgt := 46) hx hb dX5_append_14 (by decide) (fun c9 => by first | exact absurd c9 (by decide) | exact absurd (by decide) c9) (fun _ => ?_)
  refine lv_aload_n hx hb dX5_append_17 rfl (lv_at hl 1 rfl) ?_
  refine va_get (D := (dC, dI)) (ci := 5) (v := .ref bA) (C := RX5) (T := TX5) (N := 2) hx hb ht iX5 hown hK hP 0 rfl rfl 0 (by decide) (ht _ w_137) (fun _ h9 => h9) rfl dX5_append_18 ?_
  refine lv_aload_n hx hb dX5_append_21 rfl (lv_at hl 1 rfl) ?_
  refine va_get (D := (dC, dI)) (ci := 5) (v := .int 13) (C := RX5) (T := TX5) (N := 2) hx hb ht iX5 hown hK hP 0 rfl rfl 1 (by decide) (ht _ w_138) (fun _ h9 => h9) rfl dX5_append_22 ?_
  refine lv_iload_n hx hb dX5_append_25 rfl (lv_at hl 2 rfl) ?_
  refine lv_iload_n hx hb dX5_append_26 rfl (lv_at hl 0 rfl) ?_
  refine lv_ishr hx hb dX5_append_27 ?_
  refine lv_i2b (v := (Int8.toInt32 (Int32.toInt8 (p0 >>> (16 &&& 31))))) hx hb dX5_append_28 rfl ?_
  refine va_bast hx hb hK hP hD hS 1 0 rfl rfl (by unfold vp_in; decide) dX5_append_29 (fun H locs hP hD hS => ?_)
  obtain ⟨f_3, ef_3⟩ : ∃ z : Nat → Int32, z = upd f_1 (Int32.toNatClampNeg 13) (vp_nar .byte (Int8.toInt32 (Int32.toInt8 (p0 >>> (16 &&& 31))))) := ⟨_, rfl⟩
  rw [← ef_3] at hP hD
  have hP : va_P (dC, dI) vwCl [(tA, .inr (5, [.ref bA, .int 13])), (bA, .inl (cB, 500, .inl f_3))] H := hP
  have hD : va_D A [(tA, .inr (5, [.ref bA, .int 13])), (bA, .inl (cB, 500, .inl f_3))] := hD
  refine lv_aload_n hx hb dX5_append_30 rfl (lv_at hl 1 rfl) ?_
  refine lv_dup hx hb dX5_append_31 rfl ?_
  refine va_get (D := (dC, dI)) (ci := 5) (v := .int 13) (C := RX5) (T := TX5) (N := 2) hx hb ht iX5 hown hK hP 0 rfl rfl 1 (by decide) (ht _ w_138) (fun _ h9 => h9) rfl dX5_append_32 ?_
  refine lv_iconst (v := 1) hx hb dX5_append_35 (by decide) ?_
  refine lv_iadd hx hb dX5_append_36 ?_
  refine lv_topi (fun y_4 ey_4 => ?_)
  obtain rfl : y_4 = 14 := ey_4.trans (by decide)
  refine va_put (D := (dC, dI)) (ci := 5) (v := .int 14) (ty := .int) (C := RX5) (T := TX5) (N := 2) hx hb ht iX5 tyX5 tyX5_ok nmX5 hown hK hP hD hS 0 rfl rfl 1 (by decide) (ht _ w_138) (fun _ h9 => h9) rfl (by decide +kernel) rfl rfl (Nat.le_of_ble_eq_true rfl) dX5_append_37 (fun H locs hP hD hS => ?_)
  have hP : va_P (dC, dI) vwCl [(tA, .inr (5, [.ref bA, .int 14])), (bA, .inl (cB, 500, .inl f_3))] H := hP
  have hD : va_D A [(tA, .inr (5, [.ref bA, .int 14])), (bA, .inl (cB, 500, .inl f_3))] := hD
  refine lv_iinc (v := 8) (lv' := [(2, .int 8), (0, .ref tA), (1, .int p0)]) hx hb dX5_append_40 hl (k := 0) rfl (by decide) (by decide) rfl (fun ls hl => ?_)
  refine lv_goto (tgt := 3) hx hb dX5_append_43 (by decide) ?_
  refine lv_iload_n hx hb dX5_append_3 rfl (lv_at hl 0 rfl) ?_
  refine lv_if_lt (tgt := 46) hx hb dX5_append_4 (by decide) (fun c9 => by first | exact absurd c9 (by decide) | exact absurd (by decide) c9) (fun _ => ?_)
  refine lv_aload_n hx hb dX5_append_7 rfl (lv_at hl 1 rfl) ?_
  refine va_get (D := (dC, dI)) (ci := 5) (v := .int 14) (C := RX5) (T := TX5) (N := 2) hx hb ht iX5 hown hK hP 0 rfl rfl 1 (by decide) (ht _ w_138) (fun _ h9 => h9) rfl dX5_append_8 ?_
  refine lv_sipush (v := 500) hx hb dX5_append_11 (by decide) ?_
  refine lv_icmp_ge (tgt := 46) hx hb dX5_append_14 (by decide) (fun c9 => by first | exact absurd c9 (by decide) | exact absurd (by decide) c9) (fun _ => ?_)
  refine lv_aload_n hx hb dX5_append_17 rfl (lv_at hl 1 rfl) ?_
  refine va_get (D := (dC, dI)) (ci := 5) (v := .ref bA) (C := RX5) (T := TX5) (N := 2) hx hb ht iX5 hown hK hP 0 rfl rfl 0 (by decide) (ht _ w_137) (fun _ h9 => h9) rfl dX5_append_18 ?_
  refine lv_aload_n hx hb dX5_append_21 rfl (lv_at hl 1 rfl) ?_
  refine va_get (D := (dC, dI)) (ci := 5) (v := .int 14) (C := RX5) (T := TX5) (N := 2) hx hb ht iX5 hown hK hP 0 rfl rfl 1 (by decide) (ht _ w_138) (fun _ h9 => h9) rfl dX5_append_22 ?_
  refine lv_iload_n hx hb dX5_append_25 rfl (lv_at hl 2 rfl) ?_
  refine lv_iload_n hx hb dX5_append_26 rfl (lv_at hl 0 rfl) ?_
  refine lv_ishr hx hb dX5_append_27 ?_
  refine lv_i2b (v := (Int8.toInt32 (Int32.toInt8 (p0 >>> (8 &&& 31))))) hx hb dX5_append_28 rfl ?_
  refine va_bast hx hb hK hP hD hS 1 0 rfl rfl (by unfold vp_in; decide) dX5_append_29 (fun H locs hP hD hS => ?_)
  obtain ⟨f_5, ef_5⟩ : ∃ z : Nat → Int32, z = upd f_3 (Int32.toNatClampNeg 14) (vp_nar .byte (Int8.toInt32 (Int32.toInt8 (p0 >>> (8 &&& 31))))) := ⟨_, rfl⟩
  rw [← ef_5] at hP hD
  have hP : va_P (dC, dI) vwCl [(tA, .inr (5, [.ref bA, .int 14])), (bA, .inl (cB, 500, .inl f_5))] H := hP
  have hD : va_D A [(tA, .inr (5, [.ref bA, .int 14])), (bA, .inl (cB, 500, .inl f_5))] := hD
  refine lv_aload_n hx hb dX5_append_30 rfl (lv_at hl 1 rfl) ?_
  refine lv_dup hx hb dX5_append_31 rfl ?_
  refine va_get (D := (dC, dI)) (ci := 5) (v := .int 14) (C := RX5) (T := TX5) (N := 2) hx hb ht iX5 hown hK hP 0 rfl rfl 1 (by decide) (ht _ w_138) (fun _ h9 => h9) rfl dX5_append_32 ?_
  refine lv_iconst (v := 1) hx hb dX5_append_35 (by decide) ?_
  refine lv_iadd hx hb dX5_append_36 ?_
  refine lv_topi (fun y_6 ey_6 => ?_)
  obtain rfl : y_6 = 15 := ey_6.trans (by decide)
  refine va_put (D := (dC, dI)) (ci := 5) (v := .int 15) (ty := .int) (C := RX5) (T := TX5) (N := 2) hx hb ht iX5 tyX5 tyX5_ok nmX5 hown hK hP hD hS 0 rfl rfl 1 (by decide) (ht _ w_138) (fun _ h9 => h9) rfl (by decide +kernel) rfl rfl (Nat.le_of_ble_eq_true rfl) dX5_append_37 (fun H locs hP hD hS => ?_)
  have hP : va_P (dC, dI) vwCl [(tA, .inr (5, [.ref bA, .int 15])), (bA, .inl (cB, 500, .inl f_5))] H := hP
  have hD : va_D A [(tA, .inr (5, [.ref bA, .int 15])), (bA, .inl (cB, 500, .inl f_5))] := hD
  refine lv_iinc (v := 0) (lv' := [(2, .int 0), (0, .ref tA), (1, .int p0)]) hx hb dX5_append_40 hl (k := 0) rfl (by decide) (by decide) rfl (fun ls hl => ?_)
  refine lv_goto (tgt := 3) hx hb dX5_append_43 (by decide) ?_
  refine lv_iload_n hx hb dX5_append_3 rfl (lv_at hl 0 rfl) ?_
  refine lv_if_lt (tgt := 46) hx hb dX5_append_4 (by decide) (fun c9 => by first | exact absurd c9 (by decide) | exact absurd (by decide) c9) (fun _ => ?_)
  refine lv_aload_n hx hb dX5_append_7 rfl (lv_at hl 1 rfl) ?_
  refine va_get (D := (dC, dI)) (ci := 5) (v := .int 15) (C := RX5) (T := TX5) (N := 2) hx hb ht iX5 hown hK hP 0 rfl rfl 1 (by decide) (ht _ w_138) (fun _ h9 => h9) rfl dX5_append_8 ?_
  refine lv_sipush (v := 500) hx hb dX5_append_11 (by decide) ?_
  refine lv_icmp_ge (tgt := 46) hx hb dX5_append_14 (by decide) (fun c9 => by first | exact absurd c9 (by decide) | exact absurd (by decide) c9) (fun _ => ?_)
  refine lv_aload_n hx hb dX5_append_17 rfl (lv_at hl 1 rfl) ?_
  refine va_get (D := (dC, dI)) (ci := 5) (v := .ref bA) (C := RX5) (T := TX5) (N := 2) hx hb ht iX5 hown hK hP 0 rfl rfl 0 (by decide) (ht _ w_137) (fun _ h9 => h9) rfl dX5_append_18 ?_
  refine lv_aload_n hx hb dX5_append_21 rfl (lv_at hl 1 rfl) ?_
  refine va_get (D := (dC, dI)) (ci := 5) (v := .int 15) (C := RX5) (T := TX5) (N := 2) hx hb ht iX5 hown hK hP 0 rfl rfl 1 (by decide) (ht _ w_138) (fun _ h9 => h9) rfl dX5_append_22 ?_
  refine lv_iload_n hx hb dX5_append_25 rfl (lv_at hl 2 rfl) ?_
  refine lv_iload_n hx hb dX5_append_26 rfl (lv_at hl 0 rfl) ?_
  refine lv_ishr hx hb dX5_append_27 ?_
  refine lv_i2b (v := (Int8.toInt32 (Int32.toInt8 (p0 >>> (0 &&& 31))))) hx hb dX5_append_28 rfl ?_
  refine va_bast hx hb hK hP hD hS 1 0 rfl rfl (by unfold vp_in; decide) dX5_append_29 (fun H locs hP hD hS => ?_)
  obtain ⟨f_7, ef_7⟩ : ∃ z : Nat → Int32, z = upd f_5 (Int32.toNatClampNeg 15) (vp_nar .byte (Int8.toInt32 (Int32.toInt8 (p0 >>> (0 &&& 31))))) := ⟨_, rfl⟩
  rw [← ef_7] at hP hD
  have hP : va_P (dC, dI) vwCl [(tA, .inr (5, [.ref bA, .int 15])), (bA, .inl (cB, 500, .inl f_7))] H := hP
  have hD : va_D A [(tA, .inr (5, [.ref bA, .int 15])), (bA, .inl (cB, 500, .inl f_7))] := hD
  refine lv_aload_n hx hb dX5_append_30 rfl (lv_at hl 1 rfl) ?_
  refine lv_dup hx hb dX5_append_31 rfl ?_
  refine va_get (D := (dC, dI)) (ci := 5) (v := .int 15) (C := RX5) (T := TX5) (N := 2) hx hb ht iX5 hown hK hP 0 rfl rfl 1 (by decide) (ht _ w_138) (fun _ h9 => h9) rfl dX5_append_32 ?_
  refine lv_iconst (v := 1) hx hb dX5_append_35 (by decide) ?_
  refine lv_iadd hx hb dX5_append_36 ?_
  refine lv_topi (fun y_8 ey_8 => ?_)
  obtain rfl : y_8 = 16 := ey_8.trans (by decide)
  refine va_put (D := (dC, dI)) (ci := 5) (v := .int 16) (ty := .int) (C := RX5) (T := TX5) (N := 2) hx hb ht iX5 tyX5 tyX5_ok nmX5 hown hK hP hD hS 0 rfl rfl 1 (by decide) (ht _ w_138) (fun _ h9 => h9) rfl (by decide +kernel) rfl rfl (Nat.le_of_ble_eq_true rfl) dX5_append_37 (fun H locs hP hD hS => ?_)
  have hP : va_P (dC, dI) vwCl [(tA, .inr (5, [.ref bA, .int 16])), (bA, .inl (cB, 500, .inl f_7))] H := hP
  have hD : va_D A [(tA, .inr (5, [.ref bA, .int 16])), (bA, .inl (cB, 500, .inl f_7))] := hD
  refine lv_iinc (v := (-8)) (lv' := [(2, .int (-8)), (0, .ref tA), (1, .int p0)]) hx hb dX5_append_40 hl (k := 0) rfl (by decide) (by decide) rfl (fun ls hl => ?_)
  refine lv_goto (tgt := 3) hx hb dX5_append_43 (by decide) ?_
  refine lv_iload_n hx hb dX5_append_3 rfl (lv_at hl 0 rfl) ?_
  refine lv_if_lt (tgt := 46) hx hb dX5_append_4 (by decide) (fun _ => ?_) (fun c9 => by first | exact absurd (by decide) c9 | exact absurd c9 (by decide))
  have hP9 := hP.sub (ws' := [(tA, .inr (5, [.ref bA, .int 16])), (bA, .inl (cB, 500, .inl f_7))]) [0, 1] rfl
  have hD9 := hD.sub (ws' := [(tA, .inr (5, [.ref bA, .int 16])), (bA, .inl (cB, 500, .inl f_7))]) [0, 1] (by decide) rfl
  refine W.widen (k := 0) (n := 0) (Nat.le_of_ble_eq_true rfl) (Nat.le_of_ble_eq_true rfl) ?_
  exact W.vret hx hb hr (fun t ht hW => ⟨⟨f_7, rfl, trivial, ⟨by rw [ht]; exact hP9, hD9⟩⟩, hS.F ht⟩) hS.2.2 dX5_append_46
set_option maxHeartbeats 4000000 in
set_option maxRecDepth 100000 in
theorem k_X5_append_16 (l : Launch) (dC : Nat → ClassId) (dI : Nat → Nat → Nat) (cB cI cJ cZ cL : ClassId) (sz : Nat) (tA : Nat) (bA : Nat) (f : Nat → Int32) (p0 : Int32) : Met l yX5_append (wy yX5_append cX5_append 3 none) ({ frames := 0, cells := 0, slots := 0, locals := 0 }) (va_Pc [.ref tA, .int p0] (fun U => U.heap.size = sz ∧ va_P (dC, dI) vwCl [(tA, .inr (5, [.ref bA, .int 16])), (bA, .inl (cB, 500, .inl f))] U.heap ∧ va_K (dC, dI) vwCl (tyL cB cI cJ cZ cL) U ∧ va_D (fun _ => True) [(tA, .inr (5, [.ref bA, .int 16])), (bA, .inl (cB, 500, .inl f))])) (va_Qv (fun _ => True) (fun (u : Nat → Int32) t => va_P (dC, dI) vwCl [(tA, .inr (5, [.ref bA, .int 20])), (bA, .inl (cB, 500, .inl u))] t.heap ∧ va_D (va_A [(tA, .inr (5, [.ref bA, .int 16])), (bA, .inl (cB, 500, .inl f))] sz) [(tA, .inr (5, [.ref bA, .int 20])), (bA, .inl (cB, 500, .inl u))]) (va_A [(tA, .inr (5, [.ref bA, .int 16])), (bA, .inl (cB, 500, .inl f))] sz)) 0 0 (va_A [(tA, .inr (5, [.ref bA, .int 16])), (bA, .inl (cB, 500, .inl f))] sz) := by
  refine Met.ofW (cc := cX5_append) (maxL := 3) (ret := none) (by decide) rfl ?_
  intro p e s m args below meth c s₁ B hml hv
  obtain ⟨rfl, hsz, hP, hK, hD0⟩ := hv
  have hx := B.exec
  have hb := B.bytes
  have hr := B.returns
  have ht : ∀ w ∈ lw_ok, w.before _ s = true := fun w h => atoms_spec (ws := wy yX5_append cX5_append 3 none) B.pre w (List.mem_cons_of_mem _ h)
  have hown : s.vm.findClass RX5 = some m.cls := findClass_of_methodNamed B.named
  have hlocks := B.notSynchronized
  subst hsz
  have hD := hD0.self (sz := s.heap.size)
  generalize hAe : va_A [(tA, .inr (5, [.ref bA, .int 16])), (bA, .inl (cB, 500, .inl f))] s.heap.size = A at hD ⊢
  have hA : ∀ q : Nat, s.heap.size ≤ q → A q := fun q h => by rw [← hAe]; exact Or.inr h
  have hS : va_S A s.heap s.heap [] := va_S.rf
  have hl := lv_entry ([.ref tA, .int p0]) (n := 3) (Nat.le_of_ble_eq_true rfl)
  rw [lg_entry_eq]
  generalize (lg_sl ([.ref tA, .int p0]) ++ List.replicate (3 - (lg_sl ([.ref tA, .int p0])).length) Slot.unset).toArray = ls at hl ⊢
  have hl : lv_has ls 3 [(0, .ref tA), (1, .int p0)] := hl
  have hP : va_P (dC, dI) vwCl [(tA, .inr (5, [.ref bA, .int 16])), (bA, .inl (cB, 500, .inl f))] s.heap := hP
  have hD : va_D A [(tA, .inr (5, [.ref bA, .int 16])), (bA, .inl (cB, 500, .inl f))] := hD
  refine lv_bipush (v := 24) hx hb dX5_append_0 (by decide) ?_
  refine lv_istore_n (lv' := [(2, .int 24), (0, .ref tA), (1, .int p0)]) hx hb dX5_append_2 rfl hl (by decide) rfl (fun ls hl => ?_)
  refine lv_iload_n hx hb dX5_append_3 rfl (lv_at hl 0 rfl) ?_
  refine lv_if_lt (tgt := 46) hx hb dX5_append_4 (by decide) (fun c9 => by first | exact absurd c9 (by decide) | exact absurd (by decide) c9) (fun _ => ?_)
  refine lv_aload_n hx hb dX5_append_7 rfl (lv_at hl 1 rfl) ?_
  refine va_get (D := (dC, dI)) (ci := 5) (v := .int 16) (C := RX5) (T := TX5) (N := 2) hx hb ht iX5 hown hK hP 0 rfl rfl 1 (by decide) (ht _ w_138) (fun _ h9 => h9) rfl dX5_append_8 ?_
  refine lv_sipush (v := 500) hx hb dX5_append_11 (by decide) ?_
  refine lv_icmp_ge (tgt := 46) hx hb dX5_append_14 (by decide) (fun c9 => by first | exact absurd c9 (by decide) | exact absurd (by decide) c9) (fun _ => ?_)
  refine lv_aload_n hx hb dX5_append_17 rfl (lv_at hl 1 rfl) ?_
  refine va_get (D := (dC, dI)) (ci := 5) (v := .ref bA) (C := RX5) (T := TX5) (N := 2) hx hb ht iX5 hown hK hP 0 rfl rfl 0 (by decide) (ht _ w_137) (fun _ h9 => h9) rfl dX5_append_18 ?_
  refine lv_aload_n hx hb dX5_append_21 rfl (lv_at hl 1 rfl) ?_
  refine va_get (D := (dC, dI)) (ci := 5) (v := .int 16) (C := RX5) (T := TX5) (N := 2) hx hb ht iX5 hown hK hP 0 rfl rfl 1 (by decide) (ht _ w_138) (fun _ h9 => h9) rfl dX5_append_22 ?_
  refine lv_iload_n hx hb dX5_append_25 rfl (lv_at hl 2 rfl) ?_
  refine lv_iload_n hx hb dX5_append_26 rfl (lv_at hl 0 rfl) ?_
  refine lv_ishr hx hb dX5_append_27 ?_
  refine lv_i2b (v := (Int8.toInt32 (Int32.toInt8 (p0 >>> (24 &&& 31))))) hx hb dX5_append_28 rfl ?_
  refine va_bast hx hb hK hP hD hS 1 0 rfl rfl (by unfold vp_in; decide) dX5_append_29 (fun H locs hP hD hS => ?_)
  obtain ⟨f_1, ef_1⟩ : ∃ z : Nat → Int32, z = upd f (Int32.toNatClampNeg 16) (vp_nar .byte (Int8.toInt32 (Int32.toInt8 (p0 >>> (24 &&& 31))))) := ⟨_, rfl⟩
  rw [← ef_1] at hP hD
  have hP : va_P (dC, dI) vwCl [(tA, .inr (5, [.ref bA, .int 16])), (bA, .inl (cB, 500, .inl f_1))] H := hP
  have hD : va_D A [(tA, .inr (5, [.ref bA, .int 16])), (bA, .inl (cB, 500, .inl f_1))] := hD
  refine lv_aload_n hx hb dX5_append_30 rfl (lv_at hl 1 rfl) ?_
  refine lv_dup hx hb dX5_append_31 rfl ?_
  refine va_get (D := (dC, dI)) (ci := 5) (v := .int 16) (C := RX5) (T := TX5) (N := 2) hx hb ht iX5 hown hK hP 0 rfl rfl 1 (by decide) (ht _ w_138) (fun _ h9 => h9) rfl dX5_append_32 ?_
  refine lv_iconst (v := 1) hx hb dX5_append_35 (by decide) ?_
  refine lv_iadd hx hb dX5_append_36 ?_
  refine lv_topi (fun y_2 ey_2 => ?_)
  obtain rfl : y_2 = 17 := ey_2.trans (by decide)
  refine va_put (D := (dC, dI)) (ci := 5) (v := .int 17) (ty := .int) (C := RX5) (T := TX5) (N := 2) hx hb ht iX5 tyX5 tyX5_ok nmX5 hown hK hP hD hS 0 rfl rfl 1 (by decide) (ht _ w_138) (fun _ h9 => h9) rfl (by decide +kernel) rfl rfl (Nat.le_of_ble_eq_true rfl) dX5_append_37 (fun H locs hP hD hS => ?_)
  have hP : va_P (dC, dI) vwCl [(tA, .inr (5, [.ref bA, .int 17])), (bA, .inl (cB, 500, .inl f_1))] H := hP
  have hD : va_D A [(tA, .inr (5, [.ref bA, .int 17])), (bA, .inl (cB, 500, .inl f_1))] := hD
  refine lv_iinc (v := 16) (lv' := [(2, .int 16), (0, .ref tA), (1, .int p0)]) hx hb dX5_append_40 hl (k := 0) rfl (by decide) (by decide) rfl (fun ls hl => ?_)
  refine lv_goto (tgt := 3) hx hb dX5_append_43 (by decide) ?_
  refine lv_iload_n hx hb dX5_append_3 rfl (lv_at hl 0 rfl) ?_
  refine lv_if_lt (tgt := 46) hx hb dX5_append_4 (by decide) (fun c9 => by first | exact absurd c9 (by decide) | exact absurd (by decide) c9) (fun _ => ?_)
  refine lv_aload_n hx hb dX5_append_7 rfl (lv_at hl 1 rfl) ?_
  refine va_get (D := (dC, dI)) (ci := 5) (v := .int 17) (C := RX5) (T := TX5) (N := 2) hx hb ht iX5 hown hK hP 0 rfl rfl 1 (by decide) (ht _ w_138) (fun _ h9 => h9) rfl dX5_append_8 ?_
  refine lv_sipush (v := 500) hx hb dX5_append_11 (by decide) ?_
  refine lv_icmp_ge (tgt := 46) hx hb dX5_append_14 (by decide) (fun c9 => by first | exact absurd c9 (by decide) | exact absurd (by decide) c9) (fun _ => ?_)
  refine lv_aload_n hx hb dX5_append_17 rfl (lv_at hl 1 rfl) ?_
  refine va_get (D := (dC, dI)) (ci := 5) (v := .ref bA) (C := RX5) (T := TX5) (N := 2) hx hb ht iX5 hown hK hP 0 rfl rfl 0 (by decide) (ht _ w_137) (fun _ h9 => h9) rfl dX5_append_18 ?_
  refine lv_aload_n hx hb dX5_append_21 rfl (lv_at hl 1 rfl) ?_
  refine va_get (D := (dC, dI)) (ci := 5) (v := .int 17) (C := RX5) (T := TX5) (N := 2) hx hb ht iX5 hown hK hP 0 rfl rfl 1 (by decide) (ht _ w_138) (fun _ h9 => h9) rfl dX5_append_22 ?_
  refine lv_iload_n hx hb dX5_append_25 rfl (lv_at hl 2 rfl) ?_
  refine lv_iload_n hx hb dX5_append_26 rfl (lv_at hl 0 rfl) ?_
  refine lv_ishr hx hb dX5_append_27 ?_
  refine lv_i2b (v := (Int8.toInt32 (Int32.toInt8 (p0 >>> (16 &&& 31))))) hx hb dX5_append_28 rfl ?_
  refine va_bast hx hb hK hP hD hS 1 0 rfl rfl (by unfold vp_in; decide) dX5_append_29 (fun H locs hP hD hS => ?_)
  obtain ⟨f_3, ef_3⟩ : ∃ z : Nat → Int32, z = upd f_1 (Int32.toNatClampNeg 17) (vp_nar .byte (Int8.toInt32 (Int32.toInt8 (p0 >>> (16 &&& 31))))) := ⟨_, rfl⟩
  rw [← ef_3] at hP hD
  have hP : va_P (dC, dI) vwCl [(tA, .inr (5, [.ref bA, .int 17])), (bA, .inl (cB, 500, .inl f_3))] H := hP
  have hD : va_D A [(tA, .inr (5, [.ref bA, .int 17])), (bA, .inl (cB, 500, .inl f_3))] := hD
  refine lv_aload_n hx hb dX5_append_30 rfl (lv_at hl 1 rfl) ?_
  refine lv_dup hx hb dX5_append_31 rfl ?_
  refine va_get (D := (dC, dI)) (ci := 5) (v := .int 17) (C := RX5) (T := TX5) (N := 2) hx hb ht iX5 hown hK hP 0 rfl rfl 1 (by decide) (ht _ w_138) (fun _ h9 => h9) rfl dX5_append_32 ?_
  refine lv_iconst (v := 1) hx hb dX5_append_35 (by decide) ?_
  refine lv_iadd hx hb dX5_append_36 ?_
  refine lv_topi (fun y_4 ey_4 => ?_)
  obtain rfl : y_4 = 18 := ey_4.trans (by decide)
  refine va_put (D := (dC, dI)) (ci := 5) (v := .int 18) (ty := .int) (C := RX5) (T := TX5) (N := 2) hx hb ht iX5 tyX5 tyX5_ok nmX5 hown hK hP hD hS 0 rfl rfl 1 (by decide) (ht _ w_138) (fun _ h9 => h9) rfl (by decide +kernel) rfl rfl (Nat.le_of_ble_eq_true rfl) dX5_append_37 (fun H locs hP hD hS => ?_)
  have hP : va_P (dC, dI) vwCl [(tA, .inr (5, [.ref bA, .int 18])), (bA, .inl (cB, 500, .inl f_3))] H := hP
  have hD : va_D A [(tA, .inr (5, [.ref bA, .int 18])), (bA, .inl (cB, 500, .inl f_3))] := hD
  refine lv_iinc (v := 8) (lv' := [(2, .int 8), (0, .ref tA), (1, .int p0)]) hx hb dX5_append_40 hl (k := 0) rfl (by decide) (by decide) rfl (fun ls hl => ?_)
  refine lv_goto (tgt := 3) hx hb dX5_append_43 (by decide) ?_
  refine lv_iload_n hx hb dX5_append_3 rfl (lv_at hl 0 rfl) ?_
  refine lv_if_lt (tgt := 46) hx hb dX5_append_4 (by decide) (fun c9 => by first | exact absurd c9 (by decide) | exact absurd (by decide) c9) (fun _ => ?_)
  refine lv_aload_n hx hb dX5_append_7 rfl (lv_at hl 1 rfl) ?_
  refine va_get (D := (dC, dI)) (ci := 5) (v := .int 18) (C := RX5) (T := TX5) (N := 2) hx hb ht iX5 hown hK hP 0 rfl rfl 1 (by decide) (ht _ w_138) (fun _ h9 => h9) rfl dX5_append_8 ?_
  refine lv_sipush (v := 500) hx hb dX5_append_11 (by decide) ?_
  refine lv_icmp_ge (tgt := 46) hx hb dX5_append_14 (by decide) (fun c9 => by first | exact absurd c9 (by decide) | exact absurd (by decide) c9) (fun _ => ?_)
  refine lv_aload_n hx hb dX5_append_17 rfl (lv_at hl 1 rfl) ?_
  refine va_get (D := (dC, dI)) (ci := 5) (v := .ref bA) (C := RX5) (T := TX5) (N := 2) hx hb ht iX5 hown hK hP 0 rfl rfl 0 (by decide) (ht _ w_137) (fun _ h9 => h9) rfl dX5_append_18 ?_
  refine lv_aload_n hx hb dX5_append_21 rfl (lv_at hl 1 rfl) ?_
  refine va_get (D := (dC, dI)) (ci := 5) (v := .int 18) (C := RX5) (T := TX5) (N := 2) hx hb ht iX5 hown hK hP 0 rfl rfl 1 (by decide) (ht _ w_138) (fun _ h9 => h9) rfl dX5_append_22 ?_
  refine lv_iload_n hx hb dX5_append_25 rfl (lv_at hl 2 rfl) ?_
  refine lv_iload_n hx hb dX5_append_26 rfl (lv_at hl 0 rfl) ?_
  refine lv_ishr hx hb dX5_append_27 ?_
  refine lv_i2b (v := (Int8.toInt32 (Int32.toInt8 (p0 >>> (8 &&& 31))))) hx hb dX5_append_28 rfl ?_
  refine va_bast hx hb hK hP hD hS 1 0 rfl rfl (by unfold vp_in; decide) dX5_append_29 (fun H locs hP hD hS => ?_)
  obtain ⟨f_5, ef_5⟩ : ∃ z : Nat → Int32, z = upd f_3 (Int32.toNatClampNeg 18) (vp_nar .byte (Int8.toInt32 (Int32.toInt8 (p0 >>> (8 &&& 31))))) := ⟨_, rfl⟩
  rw [← ef_5] at hP hD
  have hP : va_P (dC, dI) vwCl [(tA, .inr (5, [.ref bA, .int 18])), (bA, .inl (cB, 500, .inl f_5))] H := hP
  have hD : va_D A [(tA, .inr (5, [.ref bA, .int 18])), (bA, .inl (cB, 500, .inl f_5))] := hD
  refine lv_aload_n hx hb dX5_append_30 rfl (lv_at hl 1 rfl) ?_
  refine lv_dup hx hb dX5_append_31 rfl ?_
  refine va_get (D := (dC, dI)) (ci := 5) (v := .int 18) (C := RX5) (T := TX5) (N := 2) hx hb ht iX5 hown hK hP 0 rfl rfl 1 (by decide) (ht _ w_138) (fun _ h9 => h9) rfl dX5_append_32 ?_
  refine lv_iconst (v := 1) hx hb dX5_append_35 (by decide) ?_
  refine lv_iadd hx hb dX5_append_36 ?_
  refine lv_topi (fun y_6 ey_6 => ?_)
  obtain rfl : y_6 = 19 := ey_6.trans (by decide)
  refine va_put (D := (dC, dI)) (ci := 5) (v := .int 19) (ty := .int) (C := RX5) (T := TX5) (N := 2) hx hb ht iX5 tyX5 tyX5_ok nmX5 hown hK hP hD hS 0 rfl rfl 1 (by decide) (ht _ w_138) (fun _ h9 => h9) rfl (by decide +kernel) rfl rfl (Nat.le_of_ble_eq_true rfl) dX5_append_37 (fun H locs hP hD hS => ?_)
  have hP : va_P (dC, dI) vwCl [(tA, .inr (5, [.ref bA, .int 19])), (bA, .inl (cB, 500, .inl f_5))] H := hP
  have hD : va_D A [(tA, .inr (5, [.ref bA, .int 19])), (bA, .inl (cB, 500, .inl f_5))] := hD
  refine lv_iinc (v := 0) (lv' := [(2, .int 0), (0, .ref tA), (1, .int p0)]) hx hb dX5_append_40 hl (k := 0) rfl (by decide) (by decide) rfl (fun ls hl => ?_)
  refine lv_goto (tgt := 3) hx hb dX5_append_43 (by decide) ?_
  refine lv_iload_n hx hb dX5_append_3 rfl (lv_at hl 0 rfl) ?_
  refine lv_if_lt (tgt := 46) hx hb dX5_append_4 (by decide) (fun c9 => by first | exact absurd c9 (by decide) | exact absurd (by decide) c9) (fun _ => ?_)
  refine lv_aload_n hx hb dX5_append_7 rfl (lv_at hl 1 rfl) ?_
  refine va_get (D := (dC, dI)) (ci := 5) (v := .int 19) (C := RX5) (T := TX5) (N := 2) hx hb ht iX5 hown hK hP 0 rfl rfl 1 (by decide) (ht _ w_138) (fun _ h9 => h9) rfl dX5_append_8 ?_
  refine lv_sipush (v := 500) hx hb dX5_append_11 (by decide) ?_
  refine lv_icmp_ge (tgt := 46) hx hb dX5_append_14 (by decide) (fun c9 => by first | exact absurd c9 (by decide) | exact absurd (by decide) c9) (fun _ => ?_)
  refine lv_aload_n hx hb dX5_append_17 rfl (lv_at hl 1 rfl) ?_
  refine va_get (D := (dC, dI)) (ci := 5) (v := .ref bA) (C := RX5) (T := TX5) (N := 2) hx hb ht iX5 hown hK hP 0 rfl rfl 0 (by decide) (ht _ w_137) (fun _ h9 => h9) rfl dX5_append_18 ?_
  refine lv_aload_n hx hb dX5_append_21 rfl (lv_at hl 1 rfl) ?_
  refine va_get (D := (dC, dI)) (ci := 5) (v := .int 19) (C := RX5) (T := TX5) (N := 2) hx hb ht iX5 hown hK hP 0 rfl rfl 1 (by decide) (ht _ w_138) (fun _ h9 => h9) rfl dX5_append_22 ?_
  refine lv_iload_n hx hb dX5_append_25 rfl (lv_at hl 2 rfl) ?_
  refine lv_iload_n hx hb dX5_append_26 rfl (lv_at hl 0 rfl) ?_
  refine lv_ishr hx hb dX5_append_27 ?_
  refine lv_i2b (v := (Int8.toInt32 (Int32.toInt8 (p0 >>> (0 &&& 31))))) hx hb dX5_append_28 rfl ?_
  refine va_bast hx hb hK hP hD hS 1 0 rfl rfl (by unfold vp_in; decide) dX5_append_29 (fun H locs hP hD hS => ?_)
  obtain ⟨f_7, ef_7⟩ : ∃ z : Nat → Int32, z = upd f_5 (Int32.toNatClampNeg 19) (vp_nar .byte (Int8.toInt32 (Int32.toInt8 (p0 >>> (0 &&& 31))))) := ⟨_, rfl⟩
  rw [← ef_7] at hP hD
  have hP : va_P (dC, dI) vwCl [(tA, .inr (5, [.ref bA, .int 19])), (bA, .inl (cB, 500, .inl f_7))] H := hP
  have hD : va_D A [(tA, .inr (5, [.ref bA, .int 19])), (bA, .inl (cB, 500, .inl f_7))] := hD
  refine lv_aload_n hx hb dX5_append_30 rfl (lv_at hl 1 rfl) ?_
  refine lv_dup hx hb dX5_append_31 rfl ?_
  refine va_get (D := (dC, dI)) (ci := 5) (v := .int 19) (C := RX5) (T := TX5) (N := 2) hx hb ht iX5 hown hK hP 0 rfl rfl 1 (by decide) (ht _ w_138) (fun _ h9 => h9) rfl dX5_append_32 ?_
  refine lv_iconst (v := 1) hx hb dX5_append_35 (by decide) ?_
  refine lv_iadd hx hb dX5_append_36 ?_
  refine lv_topi (fun y_8 ey_8 => ?_)
  obtain rfl : y_8 = 20 := ey_8.trans (by decide)
  refine va_put (D := (dC, dI)) (ci := 5) (v := .int 20) (ty := .int) (C := RX5) (T := TX5) (N := 2) hx hb ht iX5 tyX5 tyX5_ok nmX5 hown hK hP hD hS 0 rfl rfl 1 (by decide) (ht _ w_138) (fun _ h9 => h9) rfl (by decide +kernel) rfl rfl (Nat.le_of_ble_eq_true rfl) dX5_append_37 (fun H locs hP hD hS => ?_)
  have hP : va_P (dC, dI) vwCl [(tA, .inr (5, [.ref bA, .int 20])), (bA, .inl (cB, 500, .inl f_7))] H := hP
  have hD : va_D A [(tA, .inr (5, [.ref bA, .int 20])), (bA, .inl (cB, 500, .inl f_7))] := hD
  refine lv_iinc (v := (-8)) (lv' := [(2, .int (-8)), (0, .ref tA), (1, .int p0)]) hx hb dX5_append_40 hl (k := 0) rfl (by decide) (by decide) rfl (fun ls hl => ?_)
  refine lv_goto (tgt := 3) hx hb dX5_append_43 (by decide) ?_
  refine lv_iload_n hx hb dX5_append_3 rfl (lv_at hl 0 rfl) ?_
  refine lv_if_lt (tgt := 46) hx hb dX5_append_4 (by decide) (fun _ => ?_) (fun c9 => by first | exact absurd (by decide) c9 | exact absurd c9 (by decide))
  have hP9 := hP.sub (ws' := [(tA, .inr (5, [.ref bA, .int 20])), (bA, .inl (cB, 500, .inl f_7))]) [0, 1] rfl
  have hD9 := hD.sub (ws' := [(tA, .inr (5, [.ref bA, .int 20])), (bA, .inl (cB, 500, .inl f_7))]) [0, 1] (by decide) rfl
  refine W.widen (k := 0) (n := 0) (Nat.le_of_ble_eq_true rfl) (Nat.le_of_ble_eq_true rfl) ?_
  exact W.vret hx hb hr (fun t ht hW => ⟨⟨f_7, rfl, trivial, ⟨by rw [ht]; exact hP9, hD9⟩⟩, hS.F ht⟩) hS.2.2 dX5_append_46
set_option maxHeartbeats 4000000 in
set_option maxRecDepth 100000 in
theorem k_X8_feed (l : Launch) (dC : Nat → ClassId) (dI : Nat → Nat → Nat) (cB cI cJ cZ cL : ClassId) (sz : Nat) (a : Nat → Nat) (p0 : Int32) (p1 : Int32) (p2 : Int32) (p3 : Int32) (p4 : Int32) : Met l yX8_feed (wy yX8_feed cX8_feed 6 (some .int)) ({ frames := 1, cells := 0, slots := 0, locals := 40 }) (va_Pc [.ref (a 0), .int p0, .int p1, .int p2, .int p3, .int p4] (fun U => U.heap.size = sz ∧ va_P (dC, dI) vwCl [((a 0), .inr (8, [.ref (a 1), .ref (a 2), .ref (a 3), .ref (a 4), .ref (a 5), .ref (a 6), .ref (a 7), .ref (a 8), .ref (a 9), .ref (a 10), .ref (a 11), .ref (a 12), .ref (a 13), .ref (a 14), .int 0, .int (-1)])), ((a 1), .inr (5, [.ref (a 15), .int 0])), ((a 15), .inl (cB, 500, .inl (fun _ => 0)))] U.heap ∧ va_K (dC, dI) vwCl (tyL cB cI cJ cZ cL) U ∧ va_D (fun _ => True) [((a 0), .inr (8, [.ref (a 1), .ref (a 2), .ref (a 3), .ref (a 4), .ref (a 5), .ref (a 6), .ref (a 7), .ref (a 8), .ref (a 9), .ref (a 10), .ref (a 11), .ref (a 12), .ref (a 13), .ref (a 14), .int 0, .int (-1)])), ((a 1), .inr (5, [.ref (a 15), .int 0])), ((a 15), .inl (cB, 500, .inl (fun _ => 0)))])) (va_Qi (fun r _ => r = 20) (fun (_ : Unit) _ => True) (va_A [((a 0), .inr (8, [.ref (a 1), .ref (a 2), .ref (a 3), .ref (a 4), .ref (a 5), .ref (a 6), .ref (a 7), .ref (a 8), .ref (a 9), .ref (a 10), .ref (a 11), .ref (a 12), .ref (a 13), .ref (a 14), .int 0, .int (-1)])), ((a 1), .inr (5, [.ref (a 15), .int 0])), ((a 15), .inl (cB, 500, .inl (fun _ => 0)))] sz)) 0 0 (va_A [((a 0), .inr (8, [.ref (a 1), .ref (a 2), .ref (a 3), .ref (a 4), .ref (a 5), .ref (a 6), .ref (a 7), .ref (a 8), .ref (a 9), .ref (a 10), .ref (a 11), .ref (a 12), .ref (a 13), .ref (a 14), .int 0, .int (-1)])), ((a 1), .inr (5, [.ref (a 15), .int 0])), ((a 15), .inl (cB, 500, .inl (fun _ => 0)))] sz) := by
  refine Met.ofW (cc := cX8_feed) (maxL := 6) (ret := (some .int)) (by decide) rfl ?_
  intro p e s m args below meth c s₁ B hml hv
  obtain ⟨rfl, hsz, hP, hK, hD0⟩ := hv
  have hx := B.exec
  have hb := B.bytes
  have hr := B.returns
  have ht : ∀ w ∈ lw_ok, w.before _ s = true := fun w h => atoms_spec (ws := wy yX8_feed cX8_feed 6 (some .int)) B.pre w (List.mem_cons_of_mem _ h)
  have hown : s.vm.findClass RX8 = some m.cls := findClass_of_methodNamed B.named
  have hlocks := B.notSynchronized
  subst hsz
  have hD := hD0.self (sz := s.heap.size)
  generalize hAe : va_A [((a 0), .inr (8, [.ref (a 1), .ref (a 2), .ref (a 3), .ref (a 4), .ref (a 5), .ref (a 6), .ref (a 7), .ref (a 8), .ref (a 9), .ref (a 10), .ref (a 11), .ref (a 12), .ref (a 13), .ref (a 14), .int 0, .int (-1)])), ((a 1), .inr (5, [.ref (a 15), .int 0])), ((a 15), .inl (cB, 500, .inl (fun _ => 0)))] s.heap.size = A at hD ⊢
  have hA : ∀ q : Nat, s.heap.size ≤ q → A q := fun q h => by rw [← hAe]; exact Or.inr h
  have hS : va_S A s.heap s.heap [] := va_S.rf
  have hl := lv_entry ([.ref (a 0), .int p0, .int p1, .int p2, .int p3, .int p4]) (n := 6) (Nat.le_of_ble_eq_true rfl)
  rw [lg_entry_eq]
  generalize (lg_sl ([.ref (a 0), .int p0, .int p1, .int p2, .int p3, .int p4]) ++ List.replicate (6 - (lg_sl ([.ref (a 0), .int p0, .int p1, .int p2, .int p3, .int p4])).length) Slot.unset).toArray = ls at hl ⊢
  have hl : lv_has ls 6 [(0, .ref (a 0)), (1, .int p0), (2, .int p1), (3, .int p2), (4, .int p3), (5, .int p4)] := hl
  have hP : va_P (dC, dI) vwCl [((a 0), .inr (8, [.ref (a 1), .ref (a 2), .ref (a 3), .ref (a 4), .ref (a 5), .ref (a 6), .ref (a 7), .ref (a 8), .ref (a 9), .ref (a 10), .ref (a 11), .ref (a 12), .ref (a 13), .ref (a 14), .int 0, .int (-1)])), ((a 1), .inr (5, [.ref (a 15), .int 0])), ((a 15), .inl (cB, 500, .inl (fun _ => 0)))] s.heap := hP
  have hD : va_D A [((a 0), .inr (8, [.ref (a 1), .ref (a 2), .ref (a 3), .ref (a 4), .ref (a 5), .ref (a 6), .ref (a 7), .ref (a 8), .ref (a 9), .ref (a 10), .ref (a 11), .ref (a 12), .ref (a 13), .ref (a 14), .int 0, .int (-1)])), ((a 1), .inr (5, [.ref (a 15), .int 0])), ((a 15), .inl (cB, 500, .inl (fun _ => 0)))] := hD
  refine lv_aload_n hx hb dX8_feed_0 rfl (lv_at hl 0 rfl) ?_
  refine va_get (D := (dC, dI)) (ci := 8) (v := .ref (a 1)) (C := RX8) (T := TX8) (N := 16) hx hb ht iX8 hown hK hP 0 rfl rfl 0 (by decide) (ht _ w_375) (fun _ h9 => h9) rfl dX8_feed_1 ?_
  refine va_get (D := (dC, dI)) (ci := 5) (v := .int 0) (C := RX5) (T := TX5) (N := 2) hx hb ht iX5 hown hK hP 1 rfl rfl 1 (by decide) (ht _ w_139) (fun _ h9 => h9) rfl dX8_feed_4 ?_
  refine lv_bipush (v := 20) hx hb dX8_feed_7 (by decide) ?_
  refine lv_iadd hx hb dX8_feed_9 ?_
  refine lv_topi (fun y_1 ey_1 => ?_)
  obtain rfl : y_1 = 20 := ey_1.trans (by decide)
  refine lv_sipush (v := 500) hx hb dX8_feed_10 (by decide) ?_
  refine lv_icmp_le (tgt := 18) hx hb dX8_feed_13 (by decide) (fun _ => ?_) (fun c9 => by first | exact absurd (by decide) c9 | exact absurd c9 (by decide))
  refine lv_aload_n hx hb dX8_feed_18 rfl (lv_at hl 0 rfl) ?_
  refine va_get (D := (dC, dI)) (ci := 8) (v := .ref (a 1)) (C := RX8) (T := TX8) (N := 16) hx hb ht iX8 hown hK hP 0 rfl rfl 0 (by decide) (ht _ w_375) (fun _ h9 => h9) rfl dX8_feed_19 ?_
  refine lv_iload_n hx hb dX8_feed_22 rfl (lv_at hl 1 rfl) ?_
  have hPc := hP.sub (ws' := [((a 1), .inr (5, [.ref (a 15), .int 0])), ((a 15), .inl (cB, 500, .inl (fun _ => 0)))]) [1, 2] rfl
  have hDc := hD.sub (ws' := [((a 1), .inr (5, [.ref (a 15), .int 0])), ((a 15), .inl (cB, 500, .inl (fun _ => 0)))]) [1, 2] (by decide) rfl
  have hFc := va_free (wc := [((a 1), .inr (5, [.ref (a 15), .int 0])), ((a 15), .inl (cB, 500, .inl (fun _ => 0)))]) hD hS hA [1, 2] rfl
  refine va_callv (va_runV (As := [.int p0]) (rest := []) ⟨hx, hb, hml, hown, ht⟩ (k_X5_append_0 l dC dI cB cI cJ cZ cL s.heap.size (a 1) (a 15) (fun _ => 0) p0) (cwV 1 ht (gV w_428 w_429 w_430 w_106 w_431) rfl rfl rfl (by decide +kernel) ⟨Nat.le_of_ble_eq_true rfl, Nat.le_of_ble_eq_true rfl⟩) (pVQ hK hPc hDc (ci := 5) (q0 := 0) rfl rfl) rfl rfl hl.1 rfl (lv_room (Nat.le_of_ble_eq_true rfl)) dX8_feed_23 ⟨Nat.le_of_ble_eq_true rfl, Nat.le_of_ble_eq_true rfl⟩) hS (fun q _ h => hFc q h) hFc (fun u_3 t1 H1 locs ht1 hvm hw hB hz1 hk1 hS => ?_)
  obtain ⟨hP1, hD1⟩ := hB
  rw [ht1] at hP1
  obtain ⟨hP, hD⟩ := va_join (wr := [((a 0), .inr (8, [.ref (a 1), .ref (a 2), .ref (a 3), .ref (a 4), .ref (a 5), .ref (a 6), .ref (a 7), .ref (a 8), .ref (a 9), .ref (a 10), .ref (a 11), .ref (a 12), .ref (a 13), .ref (a 14), .int 0, .int (-1)]))]) (w1 := [((a 1), .inr (5, [.ref (a 15), .int 4])), ((a 15), .inl (cB, 500, .inl u_3))]) hP hD [1, 2] [0] rfl rfl (by decide) (by decide) hk1 hFc hP1 hD1
  clear hFc hDc hPc
  generalize H1 = H at hP hS ⊢
  have hP : va_P (dC, dI) vwCl [((a 0), .inr (8, [.ref (a 1), .ref (a 2), .ref (a 3), .ref (a 4), .ref (a 5), .ref (a 6), .ref (a 7), .ref (a 8), .ref (a 9), .ref (a 10), .ref (a 11), .ref (a 12), .ref (a 13), .ref (a 14), .int 0, .int (-1)])), ((a 1), .inr (5, [.ref (a 15), .int 4])), ((a 15), .inl (cB, 500, .inl u_3))] H := hP
  have hD : va_D A [((a 0), .inr (8, [.ref (a 1), .ref (a 2), .ref (a 3), .ref (a 4), .ref (a 5), .ref (a 6), .ref (a 7), .ref (a 8), .ref (a 9), .ref (a 10), .ref (a 11), .ref (a 12), .ref (a 13), .ref (a 14), .int 0, .int (-1)])), ((a 1), .inr (5, [.ref (a 15), .int 4])), ((a 15), .inl (cB, 500, .inl u_3))] := hD
  refine lv_aload_n hx hb dX8_feed_26 rfl (lv_at hl 0 rfl) ?_
  refine va_get (D := (dC, dI)) (ci := 8) (v := .ref (a 1)) (C := RX8) (T := TX8) (N := 16) hx hb ht iX8 hown hK hP 0 rfl rfl 0 (by decide) (ht _ w_375) (fun _ h9 => h9) rfl dX8_feed_27 ?_
  refine lv_iload_n hx hb dX8_feed_30 rfl (lv_at hl 2 rfl) ?_
  have hPc := hP.sub (ws' := [((a 1), .inr (5, [.ref (a 15), .int 4])), ((a 15), .inl (cB, 500, .inl u_3))]) [1, 2] rfl
  have hDc := hD.sub (ws' := [((a 1), .inr (5, [.ref (a 15), .int 4])), ((a 15), .inl (cB, 500, .inl u_3))]) [1, 2] (by decide) rfl
  have hFc := va_free (wc := [((a 1), .inr (5, [.ref (a 15), .int 4])), ((a 15), .inl (cB, 500, .inl u_3))]) hD hS hA [1, 2] rfl
  refine va_callv (va_runV (As := [.int p1]) (rest := []) ⟨hx, hb, hml, hown, ht⟩ (k_X5_append_4 l dC dI cB cI cJ cZ cL H.size (a 1) (a 15) u_3 p1) (cwV 1 ht (gV w_428 w_429 w_430 w_106 w_431) rfl rfl rfl (by decide +kernel) ⟨Nat.le_of_ble_eq_true rfl, Nat.le_of_ble_eq_true rfl⟩) (pVQ hK hPc hDc (ci := 5) (q0 := 0) rfl rfl) rfl rfl hl.1 rfl (lv_room (Nat.le_of_ble_eq_true rfl)) dX8_feed_31 ⟨Nat.le_of_ble_eq_true rfl, Nat.le_of_ble_eq_true rfl⟩) hS (fun q _ h => hFc q h) hFc (fun u_5 t1 H1 locs ht1 hvm hw hB hz1 hk1 hS => ?_)
  obtain ⟨hP1, hD1⟩ := hB
  rw [ht1] at hP1
  obtain ⟨hP, hD⟩ := va_join (wr := [((a 0), .inr (8, [.ref (a 1), .ref (a 2), .ref (a 3), .ref (a 4), .ref (a 5), .ref (a 6), .ref (a 7), .ref (a 8), .ref (a 9), .ref (a 10), .ref (a 11), .ref (a 12), .ref (a 13), .ref (a 14), .int 0, .int (-1)]))]) (w1 := [((a 1), .inr (5, [.ref (a 15), .int 8])), ((a 15), .inl (cB, 500, .inl u_5))]) hP hD [1, 2] [0] rfl rfl (by decide) (by decide) hk1 hFc hP1 hD1
  clear hFc hDc hPc
  generalize H1 = H at hP hS ⊢
  have hP : va_P (dC, dI) vwCl [((a 0), .inr (8, [.ref (a 1), .ref (a 2), .ref (a 3), .ref (a 4), .ref (a 5), .ref (a 6), .ref (a 7), .ref (a 8), .ref (a 9), .ref (a 10), .ref (a 11), .ref (a 12), .ref (a 13), .ref (a 14), .int 0, .int (-1)])), ((a 1), .inr (5, [.ref (a 15), .int 8])), ((a 15), .inl (cB, 500, .inl u_5))] H := hP
  have hD : va_D A [((a 0), .inr (8, [.ref (a 1), .ref (a 2), .ref (a 3), .ref (a 4), .ref (a 5), .ref (a 6), .ref (a 7), .ref (a 8), .ref (a 9), .ref (a 10), .ref (a 11), .ref (a 12), .ref (a 13), .ref (a 14), .int 0, .int (-1)])), ((a 1), .inr (5, [.ref (a 15), .int 8])), ((a 15), .inl (cB, 500, .inl u_5))] := hD
  refine lv_aload_n hx hb dX8_feed_34 rfl (lv_at hl 0 rfl) ?_
  refine va_get (D := (dC, dI)) (ci := 8) (v := .ref (a 1)) (C := RX8) (T := TX8) (N := 16) hx hb ht iX8 hown hK hP 0 rfl rfl 0 (by decide) (ht _ w_375) (fun _ h9 => h9) rfl dX8_feed_35 ?_
  refine lv_iload_n hx hb dX8_feed_38 rfl (lv_at hl 3 rfl) ?_
  have hPc := hP.sub (ws' := [((a 1), .inr (5, [.ref (a 15), .int 8])), ((a 15), .inl (cB, 500, .inl u_5))]) [1, 2] rfl
  have hDc := hD.sub (ws' := [((a 1), .inr (5, [.ref (a 15), .int 8])), ((a 15), .inl (cB, 500, .inl u_5))]) [1, 2] (by decide) rfl
  have hFc := va_free (wc := [((a 1), .inr (5, [.ref (a 15), .int 8])), ((a 15), .inl (cB, 500, .inl u_5))]) hD hS hA [1, 2] rfl
  refine va_callv (va_runV (As := [.int p2]) (rest := []) ⟨hx, hb, hml, hown, ht⟩ (k_X5_append_8 l dC dI cB cI cJ cZ cL H.size (a 1) (a 15) u_5 p2) (cwV 1 ht (gV w_428 w_429 w_430 w_106 w_431) rfl rfl rfl (by decide +kernel) ⟨Nat.le_of_ble_eq_true rfl, Nat.le_of_ble_eq_true rfl⟩) (pVQ hK hPc hDc (ci := 5) (q0 := 0) rfl rfl) rfl rfl hl.1 rfl (lv_room (Nat.le_of_ble_eq_true rfl)) dX8_feed_39 ⟨Nat.le_of_ble_eq_true rfl, Nat.le_of_ble_eq_true rfl⟩) hS (fun q _ h => hFc q h) hFc (fun u_7 t1 H1 locs ht1 hvm hw hB hz1 hk1 hS => ?_)
  obtain ⟨hP1, hD1⟩ := hB
  rw [ht1] at hP1
  obtain ⟨hP, hD⟩ := va_join (wr := [((a 0), .inr (8, [.ref (a 1), .ref (a 2), .ref (a 3), .ref (a 4), .ref (a 5), .ref (a 6), .ref (a 7), .ref (a 8), .ref (a 9), .ref (a 10), .ref (a 11), .ref (a 12), .ref (a 13), .ref (a 14), .int 0, .int (-1)]))]) (w1 := [((a 1), .inr (5, [.ref (a 15), .int 12])), ((a 15), .inl (cB, 500, .inl u_7))]) hP hD [1, 2] [0] rfl rfl (by decide) (by decide) hk1 hFc hP1 hD1
  clear hFc hDc hPc
  generalize H1 = H at hP hS ⊢
  have hP : va_P (dC, dI) vwCl [((a 0), .inr (8, [.ref (a 1), .ref (a 2), .ref (a 3), .ref (a 4), .ref (a 5), .ref (a 6), .ref (a 7), .ref (a 8), .ref (a 9), .ref (a 10), .ref (a 11), .ref (a 12), .ref (a 13), .ref (a 14), .int 0, .int (-1)])), ((a 1), .inr (5, [.ref (a 15), .int 12])), ((a 15), .inl (cB, 500, .inl u_7))] H := hP
  have hD : va_D A [((a 0), .inr (8, [.ref (a 1), .ref (a 2), .ref (a 3), .ref (a 4), .ref (a 5), .ref (a 6), .ref (a 7), .ref (a 8), .ref (a 9), .ref (a 10), .ref (a 11), .ref (a 12), .ref (a 13), .ref (a 14), .int 0, .int (-1)])), ((a 1), .inr (5, [.ref (a 15), .int 12])), ((a 15), .inl (cB, 500, .inl u_7))] := hD
  refine lv_aload_n hx hb dX8_feed_42 rfl (lv_at hl 0 rfl) ?_
  refine va_get (D := (dC, dI)) (ci := 8) (v := .ref (a 1)) (C := RX8) (T := TX8) (N := 16) hx hb ht iX8 hown hK hP 0 rfl rfl 0 (by decide) (ht _ w_375) (fun _ h9 => h9) rfl dX8_feed_43 ?_
  refine lv_iload hx hb dX8_feed_46 (lv_at hl 4 rfl) ?_
  have hPc := hP.sub (ws' := [((a 1), .inr (5, [.ref (a 15), .int 12])), ((a 15), .inl (cB, 500, .inl u_7))]) [1, 2] rfl
  have hDc := hD.sub (ws' := [((a 1), .inr (5, [.ref (a 15), .int 12])), ((a 15), .inl (cB, 500, .inl u_7))]) [1, 2] (by decide) rfl
  have hFc := va_free (wc := [((a 1), .inr (5, [.ref (a 15), .int 12])), ((a 15), .inl (cB, 500, .inl u_7))]) hD hS hA [1, 2] rfl
  refine va_callv (va_runV (As := [.int p3]) (rest := []) ⟨hx, hb, hml, hown, ht⟩ (k_X5_append_12 l dC dI cB cI cJ cZ cL H.size (a 1) (a 15) u_7 p3) (cwV 1 ht (gV w_428 w_429 w_430 w_106 w_431) rfl rfl rfl (by decide +kernel) ⟨Nat.le_of_ble_eq_true rfl, Nat.le_of_ble_eq_true rfl⟩) (pVQ hK hPc hDc (ci := 5) (q0 := 0) rfl rfl) rfl rfl hl.1 rfl (lv_room (Nat.le_of_ble_eq_true rfl)) dX8_feed_48 ⟨Nat.le_of_ble_eq_true rfl, Nat.le_of_ble_eq_true rfl⟩) hS (fun q _ h => hFc q h) hFc (fun u_9 t1 H1 locs ht1 hvm hw hB hz1 hk1 hS => ?_)
  obtain ⟨hP1, hD1⟩ := hB
  rw [ht1] at hP1
  obtain ⟨hP, hD⟩ := va_join (wr := [((a 0), .inr (8, [.ref (a 1), .ref (a 2), .ref (a 3), .ref (a 4), .ref (a 5), .ref (a 6), .ref (a 7), .ref (a 8), .ref (a 9), .ref (a 10), .ref (a 11), .ref (a 12), .ref (a 13), .ref (a 14), .int 0, .int (-1)]))]) (w1 := [((a 1), .inr (5, [.ref (a 15), .int 16])), ((a 15), .inl (cB, 500, .inl u_9))]) hP hD [1, 2] [0] rfl rfl (by decide) (by decide) hk1 hFc hP1 hD1
  clear hFc hDc hPc
  generalize H1 = H at hP hS ⊢
  have hP : va_P (dC, dI) vwCl [((a 0), .inr (8, [.ref (a 1), .ref (a 2), .ref (a 3), .ref (a 4), .ref (a 5), .ref (a 6), .ref (a 7), .ref (a 8), .ref (a 9), .ref (a 10), .ref (a 11), .ref (a 12), .ref (a 13), .ref (a 14), .int 0, .int (-1)])), ((a 1), .inr (5, [.ref (a 15), .int 16])), ((a 15), .inl (cB, 500, .inl u_9))] H := hP
  have hD : va_D A [((a 0), .inr (8, [.ref (a 1), .ref (a 2), .ref (a 3), .ref (a 4), .ref (a 5), .ref (a 6), .ref (a 7), .ref (a 8), .ref (a 9), .ref (a 10), .ref (a 11), .ref (a 12), .ref (a 13), .ref (a 14), .int 0, .int (-1)])), ((a 1), .inr (5, [.ref (a 15), .int 16])), ((a 15), .inl (cB, 500, .inl u_9))] := hD
  refine lv_aload_n hx hb dX8_feed_51 rfl (lv_at hl 0 rfl) ?_
  refine va_get (D := (dC, dI)) (ci := 8) (v := .ref (a 1)) (C := RX8) (T := TX8) (N := 16) hx hb ht iX8 hown hK hP 0 rfl rfl 0 (by decide) (ht _ w_375) (fun _ h9 => h9) rfl dX8_feed_52 ?_
  refine lv_iload hx hb dX8_feed_55 (lv_at hl 5 rfl) ?_
  have hPc := hP.sub (ws' := [((a 1), .inr (5, [.ref (a 15), .int 16])), ((a 15), .inl (cB, 500, .inl u_9))]) [1, 2] rfl
  have hDc := hD.sub (ws' := [((a 1), .inr (5, [.ref (a 15), .int 16])), ((a 15), .inl (cB, 500, .inl u_9))]) [1, 2] (by decide) rfl
  have hFc := va_free (wc := [((a 1), .inr (5, [.ref (a 15), .int 16])), ((a 15), .inl (cB, 500, .inl u_9))]) hD hS hA [1, 2] rfl
  refine va_callv (va_runV (As := [.int p4]) (rest := []) ⟨hx, hb, hml, hown, ht⟩ (k_X5_append_16 l dC dI cB cI cJ cZ cL H.size (a 1) (a 15) u_9 p4) (cwV 1 ht (gV w_428 w_429 w_430 w_106 w_431) rfl rfl rfl (by decide +kernel) ⟨Nat.le_of_ble_eq_true rfl, Nat.le_of_ble_eq_true rfl⟩) (pVQ hK hPc hDc (ci := 5) (q0 := 0) rfl rfl) rfl rfl hl.1 rfl (lv_room (Nat.le_of_ble_eq_true rfl)) dX8_feed_57 ⟨Nat.le_of_ble_eq_true rfl, Nat.le_of_ble_eq_true rfl⟩) hS (fun q _ h => hFc q h) hFc (fun u_11 t1 H1 locs ht1 hvm hw hB hz1 hk1 hS => ?_)
  obtain ⟨hP1, hD1⟩ := hB
  rw [ht1] at hP1
  obtain ⟨hP, hD⟩ := va_join (wr := [((a 0), .inr (8, [.ref (a 1), .ref (a 2), .ref (a 3), .ref (a 4), .ref (a 5), .ref (a 6), .ref (a 7), .ref (a 8), .ref (a 9), .ref (a 10), .ref (a 11), .ref (a 12), .ref (a 13), .ref (a 14), .int 0, .int (-1)]))]) (w1 := [((a 1), .inr (5, [.ref (a 15), .int 20])), ((a 15), .inl (cB, 500, .inl u_11))]) hP hD [1, 2] [0] rfl rfl (by decide) (by decide) hk1 hFc hP1 hD1
  clear hFc hDc hPc
  generalize H1 = H at hP hS ⊢
  have hP : va_P (dC, dI) vwCl [((a 0), .inr (8, [.ref (a 1), .ref (a 2), .ref (a 3), .ref (a 4), .ref (a 5), .ref (a 6), .ref (a 7), .ref (a 8), .ref (a 9), .ref (a 10), .ref (a 11), .ref (a 12), .ref (a 13), .ref (a 14), .int 0, .int (-1)])), ((a 1), .inr (5, [.ref (a 15), .int 20])), ((a 15), .inl (cB, 500, .inl u_11))] H := hP
  have hD : va_D A [((a 0), .inr (8, [.ref (a 1), .ref (a 2), .ref (a 3), .ref (a 4), .ref (a 5), .ref (a 6), .ref (a 7), .ref (a 8), .ref (a 9), .ref (a 10), .ref (a 11), .ref (a 12), .ref (a 13), .ref (a 14), .int 0, .int (-1)])), ((a 1), .inr (5, [.ref (a 15), .int 20])), ((a 15), .inl (cB, 500, .inl u_11))] := hD
  refine lv_aload_n hx hb dX8_feed_60 rfl (lv_at hl 0 rfl) ?_
  refine va_get (D := (dC, dI)) (ci := 8) (v := .ref (a 1)) (C := RX8) (T := TX8) (N := 16) hx hb ht iX8 hown hK hP 0 rfl rfl 0 (by decide) (ht _ w_375) (fun _ h9 => h9) rfl dX8_feed_61 ?_
  refine va_get (D := (dC, dI)) (ci := 5) (v := .int 20) (C := RX5) (T := TX5) (N := 2) hx hb ht iX5 hown hK hP 1 rfl rfl 1 (by decide) (ht _ w_139) (fun _ h9 => h9) rfl dX8_feed_64 ?_
  refine W.widen (k := 0) (n := 0) (Nat.le_of_ble_eq_true rfl) (Nat.le_of_ble_eq_true rfl) ?_
  exact W.iret (v := 20) hx hb hr (fun t ht hW => ⟨⟨20, (), rfl, rfl, trivial⟩, hS.F ht⟩) hS.2.2 dX8_feed_67
set_option maxHeartbeats 4000000 in
set_option maxRecDepth 100000 in
theorem k_X0_init (l : Launch) (dC : Nat → ClassId) (dI : Nat → Nat → Nat) (cB cI cJ cZ cL : ClassId) (sz : Nat) (h0 : Nat)  : Met l yX0_init (wy yX0_init cX0_init 1 none) ({ frames := 1, cells := 0, slots := 0, locals := 40 }) (va_Pc [.ref h0] (fun U => U.heap.size = sz ∧ va_P (dC, dI) vwCl [(h0, .inr (0, [.long 0, .long 0]))] U.heap ∧ va_K (dC, dI) vwCl (tyL cB cI cJ cZ cL) U ∧ va_D (fun _ => True) [(h0, .inr (0, [.long 0, .long 0]))])) (va_Qv (fun _ => True) (fun (_ : Unit) _ => True) (va_A [(h0, .inr (0, [.long 0, .long 0]))] sz)) 0 0 (va_A [(h0, .inr (0, [.long 0, .long 0]))] sz) := by
  refine Met.ofW (cc := cX0_init) (maxL := 1) (ret := none) (by decide) rfl ?_
  intro p e s m args below meth c s₁ B hml hv
  obtain ⟨rfl, hsz, hP, hK, hD0⟩ := hv
  have hx := B.exec
  have hb := B.bytes
  have hr := B.returns
  have ht : ∀ w ∈ lw_ok, w.before _ s = true := fun w h => atoms_spec (ws := wy yX0_init cX0_init 1 none) B.pre w (List.mem_cons_of_mem _ h)
  have hown : s.vm.findClass RX0 = some m.cls := findClass_of_methodNamed B.named
  have hlocks := B.notSynchronized
  have hin : meth.name = "<init>" := (name_of_methodNamed B.named B.method).1
  subst hsz
  have hD := hD0.self (sz := s.heap.size)
  generalize hAe : va_A [(h0, .inr (0, [.long 0, .long 0]))] s.heap.size = A at hD ⊢
  have hA : ∀ q : Nat, s.heap.size ≤ q → A q := fun q h => by rw [← hAe]; exact Or.inr h
  have hS : va_S A s.heap s.heap [] := va_S.rf
  have hl := lv_entry ([.ref h0]) (n := 1) (Nat.le_of_ble_eq_true rfl)
  rw [lg_entry_eq]
  generalize (lg_sl ([.ref h0]) ++ List.replicate (1 - (lg_sl ([.ref h0])).length) Slot.unset).toArray = ls at hl ⊢
  have hl : lv_has ls 1 [(0, .ref h0)] := hl
  have hP : va_P (dC, dI) vwCl [(h0, .inr (0, [.long 0, .long 0]))] s.heap := hP
  have hD : va_D A [(h0, .inr (0, [.long 0, .long 0]))] := hD
  refine lv_aload_n hx hb dX0_init_0 rfl (lv_at hl 0 rfl) ?_
  refine W.objInit hx hb hown (ht _ w_365) (ht _ w_129) (ht _ w_130) rfl (by rw [hml]; exact hl.1) rfl dX0_init_1 (Nat.le_of_ble_eq_true rfl) (Nat.le_of_ble_eq_true rfl) ?_
  refine W.eq (g2 := F0 m 4 ls []) rfl ?_
  refine lv_aload_n hx hb dX0_init_4 rfl (lv_at hl 0 rfl) ?_
  refine lv_lconst (v := 0) hx hb dX0_init_5 (by decide) ?_
  refine va_put (D := (dC, dI)) (ci := 0) (v := .long 0) (ty := .long) (C := RX0) (T := TX0) (N := 2) hx hb ht iX0 tyX0 tyX0_ok nmX0 hown hK hP hD hS 0 rfl rfl 0 (by decide) (ht _ w_366) (fun _ h9 => h9) rfl (by decide +kernel) rfl rfl (Nat.le_of_ble_eq_true rfl) dX0_init_6 (fun H locs hP hD hS => ?_)
  have hP : va_P (dC, dI) vwCl [(h0, .inr (0, [.long 0, .long 0]))] H := hP
  have hD : va_D A [(h0, .inr (0, [.long 0, .long 0]))] := hD
  refine lv_aload_n hx hb dX0_init_9 rfl (lv_at hl 0 rfl) ?_
  refine lv_lconst (v := 1) hx hb dX0_init_10 (by decide) ?_
  refine va_put (D := (dC, dI)) (ci := 0) (v := .long 1) (ty := .long) (C := RX0) (T := TX0) (N := 2) hx hb ht iX0 tyX0 tyX0_ok nmX0 hown hK hP hD hS 0 rfl rfl 1 (by decide) (ht _ w_368) (fun _ h9 => h9) rfl (by decide +kernel) rfl rfl (Nat.le_of_ble_eq_true rfl) dX0_init_11 (fun H locs hP hD hS => ?_)
  have hP : va_P (dC, dI) vwCl [(h0, .inr (0, [.long 0, .long 1]))] H := hP
  have hD : va_D A [(h0, .inr (0, [.long 0, .long 1]))] := hD
  refine W.widen (k := 0) (n := 0) (Nat.le_of_ble_eq_true rfl) (Nat.le_of_ble_eq_true rfl) ?_
  exact W.vret hx hb hr (fun t ht hW => ⟨⟨(), rfl, trivial, trivial⟩, hS.F ht⟩) hS.2.2 dX0_init_14
set_option maxHeartbeats 4000000 in
set_option maxRecDepth 100000 in
theorem k_X6_init (l : Launch) (dC : Nat → ClassId) (dI : Nat → Nat → Nat) (cB cI cJ cZ cL : ClassId) (sz : Nat) (h0 : Nat)  : Met l yX6_init (wy yX6_init cX6_init 1 none) ({ frames := 1, cells := 0, slots := 0, locals := 40 }) (va_Pc [.ref h0] (fun U => U.heap.size = sz ∧ va_P (dC, dI) vwCl [(h0, .inr (6, [.int 0, .int 0, .int 0, .int 0, .int 0]))] U.heap ∧ va_K (dC, dI) vwCl (tyL cB cI cJ cZ cL) U ∧ va_D (fun _ => True) [(h0, .inr (6, [.int 0, .int 0, .int 0, .int 0, .int 0]))])) (va_Qv (fun _ => True) (fun (u : Unit) t => va_P (dC, dI) vwCl [(h0, .inr (6, [.int 0, .int 0, .int 0, .int 0, .int 0]))] t.heap ∧ va_D (va_A [(h0, .inr (6, [.int 0, .int 0, .int 0, .int 0, .int 0]))] sz) [(h0, .inr (6, [.int 0, .int 0, .int 0, .int 0, .int 0]))]) (va_A [(h0, .inr (6, [.int 0, .int 0, .int 0, .int 0, .int 0]))] sz)) 0 0 (va_A [(h0, .inr (6, [.int 0, .int 0, .int 0, .int 0, .int 0]))] sz) := by
  refine Met.ofW (cc := cX6_init) (maxL := 1) (ret := none) (by decide) rfl ?_
  intro p e s m args below meth c s₁ B hml hv
  obtain ⟨rfl, hsz, hP, hK, hD0⟩ := hv
  have hx := B.exec
  have hb := B.bytes
  have hr := B.returns
  have ht : ∀ w ∈ lw_ok, w.before _ s = true := fun w h => atoms_spec (ws := wy yX6_init cX6_init 1 none) B.pre w (List.mem_cons_of_mem _ h)
  have hown : s.vm.findClass RX6 = some m.cls := findClass_of_methodNamed B.named
  have hlocks := B.notSynchronized
  have hin : meth.name = "<init>" := (name_of_methodNamed B.named B.method).1
  subst hsz
  have hD := hD0.self (sz := s.heap.size)
  generalize hAe : va_A [(h0, .inr (6, [.int 0, .int 0, .int 0, .int 0, .int 0]))] s.heap.size = A at hD ⊢
  have hA : ∀ q : Nat, s.heap.size ≤ q → A q := fun q h => by rw [← hAe]; exact Or.inr h
  have hS : va_S A s.heap s.heap [] := va_S.rf
  have hl := lv_entry ([.ref h0]) (n := 1) (Nat.le_of_ble_eq_true rfl)
  rw [lg_entry_eq]
  generalize (lg_sl ([.ref h0]) ++ List.replicate (1 - (lg_sl ([.ref h0])).length) Slot.unset).toArray = ls at hl ⊢
  have hl : lv_has ls 1 [(0, .ref h0)] := hl
  have hP : va_P (dC, dI) vwCl [(h0, .inr (6, [.int 0, .int 0, .int 0, .int 0, .int 0]))] s.heap := hP
  have hD : va_D A [(h0, .inr (6, [.int 0, .int 0, .int 0, .int 0, .int 0]))] := hD
  refine lv_aload_n hx hb dX6_init_0 rfl (lv_at hl 0 rfl) ?_
  refine W.objInit hx hb hown (ht _ w_176) (ht _ w_129) (ht _ w_130) rfl (by rw [hml]; exact hl.1) rfl dX6_init_1 (Nat.le_of_ble_eq_true rfl) (Nat.le_of_ble_eq_true rfl) ?_
  refine W.eq (g2 := F0 m 4 ls []) rfl ?_
  refine lv_aload_n hx hb dX6_init_4 rfl (lv_at hl 0 rfl) ?_
  refine lv_iconst (v := 0) hx hb dX6_init_5 (by decide) ?_
  refine va_put (D := (dC, dI)) (ci := 6) (v := .int 0) (ty := .int) (C := RX6) (T := TX6) (N := 5) hx hb ht iX6 tyX6 tyX6_ok nmX6 hown hK hP hD hS 0 rfl rfl 0 (by decide) (ht _ w_177) (fun _ h9 => h9) rfl (by decide +kernel) rfl rfl (Nat.le_of_ble_eq_true rfl) dX6_init_6 (fun H locs hP hD hS => ?_)
  have hP : va_P (dC, dI) vwCl [(h0, .inr (6, [.int 0, .int 0, .int 0, .int 0, .int 0]))] H := hP
  have hD : va_D A [(h0, .inr (6, [.int 0, .int 0, .int 0, .int 0, .int 0]))] := hD
  refine lv_aload_n hx hb dX6_init_9 rfl (lv_at hl 0 rfl) ?_
  refine lv_iconst (v := 0) hx hb dX6_init_10 (by decide) ?_
  refine va_put (D := (dC, dI)) (ci := 6) (v := .int 0) (ty := .int) (C := RX6) (T := TX6) (N := 5) hx hb ht iX6 tyX6 tyX6_ok nmX6 hown hK hP hD hS 0 rfl rfl 1 (by decide) (ht _ w_179) (fun _ h9 => h9) rfl (by decide +kernel) rfl rfl (Nat.le_of_ble_eq_true rfl) dX6_init_11 (fun H locs hP hD hS => ?_)
  have hP : va_P (dC, dI) vwCl [(h0, .inr (6, [.int 0, .int 0, .int 0, .int 0, .int 0]))] H := hP
  have hD : va_D A [(h0, .inr (6, [.int 0, .int 0, .int 0, .int 0, .int 0]))] := hD
  refine lv_aload_n hx hb dX6_init_14 rfl (lv_at hl 0 rfl) ?_
  refine lv_iconst (v := 0) hx hb dX6_init_15 (by decide) ?_
  refine va_put (D := (dC, dI)) (ci := 6) (v := .int 0) (ty := .int) (C := RX6) (T := TX6) (N := 5) hx hb ht iX6 tyX6 tyX6_ok nmX6 hown hK hP hD hS 0 rfl rfl 2 (by decide) (ht _ w_181) (fun _ h9 => h9) rfl (by decide +kernel) rfl rfl (Nat.le_of_ble_eq_true rfl) dX6_init_16 (fun H locs hP hD hS => ?_)
  have hP : va_P (dC, dI) vwCl [(h0, .inr (6, [.int 0, .int 0, .int 0, .int 0, .int 0]))] H := hP
  have hD : va_D A [(h0, .inr (6, [.int 0, .int 0, .int 0, .int 0, .int 0]))] := hD
  refine lv_aload_n hx hb dX6_init_19 rfl (lv_at hl 0 rfl) ?_
  refine lv_iconst (v := 0) hx hb dX6_init_20 (by decide) ?_
  refine va_put (D := (dC, dI)) (ci := 6) (v := .int 0) (ty := .int) (C := RX6) (T := TX6) (N := 5) hx hb ht iX6 tyX6 tyX6_ok nmX6 hown hK hP hD hS 0 rfl rfl 3 (by decide) (ht _ w_182) (fun _ h9 => h9) rfl (by decide +kernel) rfl rfl (Nat.le_of_ble_eq_true rfl) dX6_init_21 (fun H locs hP hD hS => ?_)
  have hP : va_P (dC, dI) vwCl [(h0, .inr (6, [.int 0, .int 0, .int 0, .int 0, .int 0]))] H := hP
  have hD : va_D A [(h0, .inr (6, [.int 0, .int 0, .int 0, .int 0, .int 0]))] := hD
  refine lv_aload_n hx hb dX6_init_24 rfl (lv_at hl 0 rfl) ?_
  refine lv_iconst (v := 0) hx hb dX6_init_25 (by decide) ?_
  refine va_put (D := (dC, dI)) (ci := 6) (v := .int 0) (ty := .int) (C := RX6) (T := TX6) (N := 5) hx hb ht iX6 tyX6 tyX6_ok nmX6 hown hK hP hD hS 0 rfl rfl 4 (by decide) (ht _ w_183) (fun _ h9 => h9) rfl (by decide +kernel) rfl rfl (Nat.le_of_ble_eq_true rfl) dX6_init_26 (fun H locs hP hD hS => ?_)
  have hP : va_P (dC, dI) vwCl [(h0, .inr (6, [.int 0, .int 0, .int 0, .int 0, .int 0]))] H := hP
  have hD : va_D A [(h0, .inr (6, [.int 0, .int 0, .int 0, .int 0, .int 0]))] := hD
  have hP9 := hP.sub (ws' := [(h0, .inr (6, [.int 0, .int 0, .int 0, .int 0, .int 0]))]) [0] rfl
  have hD9 := hD.sub (ws' := [(h0, .inr (6, [.int 0, .int 0, .int 0, .int 0, .int 0]))]) [0] (by decide) rfl
  refine W.widen (k := 0) (n := 0) (Nat.le_of_ble_eq_true rfl) (Nat.le_of_ble_eq_true rfl) ?_
  exact W.vret hx hb hr (fun t ht hW => ⟨⟨(), rfl, trivial, ⟨by rw [ht]; exact hP9, hD9⟩⟩, hS.F ht⟩) hS.2.2 dX6_init_29
set_option maxHeartbeats 4000000 in
set_option maxRecDepth 100000 in
theorem k_X1_init (l : Launch) (dC : Nat → ClassId) (dI : Nat → Nat → Nat) (cB cI cJ cZ cL : ClassId) (sz : Nat) (h0 : Nat)  : Met l yX1_init (wy yX1_init cX1_init 1 none) ({ frames := 1, cells := 3, slots := 15, locals := 40 }) (va_Pc [.ref h0] (fun U => U.heap.size = sz ∧ va_P (dC, dI) vwCl [(h0, .inr (1, [.int 0, .long 0, .null, .null, .null]))] U.heap ∧ va_K (dC, dI) vwCl (tyL cB cI cJ cZ cL) U ∧ va_D (fun _ => True) [(h0, .inr (1, [.int 0, .long 0, .null, .null, .null]))])) (va_Qv (fun _ => True) (fun (_ : Unit) _ => True) (va_A [(h0, .inr (1, [.int 0, .long 0, .null, .null, .null]))] sz)) 3 15 (va_A [(h0, .inr (1, [.int 0, .long 0, .null, .null, .null]))] sz) := by
  refine Met.ofW (cc := cX1_init) (maxL := 1) (ret := none) (by decide) rfl ?_
  intro p e s m args below meth c s₁ B hml hv
  obtain ⟨rfl, hsz, hP, hK, hD0⟩ := hv
  have hx := B.exec
  have hb := B.bytes
  have hr := B.returns
  have ht : ∀ w ∈ lw_ok, w.before _ s = true := fun w h => atoms_spec (ws := wy yX1_init cX1_init 1 none) B.pre w (List.mem_cons_of_mem _ h)
  have hown : s.vm.findClass RX1 = some m.cls := findClass_of_methodNamed B.named
  have hlocks := B.notSynchronized
  have hin : meth.name = "<init>" := (name_of_methodNamed B.named B.method).1
  subst hsz
  have hD := hD0.self (sz := s.heap.size)
  generalize hAe : va_A [(h0, .inr (1, [.int 0, .long 0, .null, .null, .null]))] s.heap.size = A at hD ⊢
  have hA : ∀ q : Nat, s.heap.size ≤ q → A q := fun q h => by rw [← hAe]; exact Or.inr h
  have hS : va_S A s.heap s.heap [] := va_S.rf
  have hl := lv_entry ([.ref h0]) (n := 1) (Nat.le_of_ble_eq_true rfl)
  rw [lg_entry_eq]
  generalize (lg_sl ([.ref h0]) ++ List.replicate (1 - (lg_sl ([.ref h0])).length) Slot.unset).toArray = ls at hl ⊢
  have hl : lv_has ls 1 [(0, .ref h0)] := hl
  have hP : va_P (dC, dI) vwCl [(h0, .inr (1, [.int 0, .long 0, .null, .null, .null]))] s.heap := hP
  have hD : va_D A [(h0, .inr (1, [.int 0, .long 0, .null, .null, .null]))] := hD
  refine lv_aload_n hx hb dX1_init_0 rfl (lv_at hl 0 rfl) ?_
  refine W.objInit hx hb hown (ht _ w_339) (ht _ w_129) (ht _ w_130) rfl (by rw [hml]; exact hl.1) rfl dX1_init_1 (Nat.le_of_ble_eq_true rfl) (Nat.le_of_ble_eq_true rfl) ?_
  refine W.eq (g2 := F0 m 4 ls []) rfl ?_
  refine lv_aload_n hx hb dX1_init_4 rfl (lv_at hl 0 rfl) ?_
  refine lv_iconst (v := 0) hx hb dX1_init_5 (by decide) ?_
  refine va_put (D := (dC, dI)) (ci := 1) (v := .int 0) (ty := .int) (C := RX1) (T := TX1) (N := 5) hx hb ht iX1 tyX1 tyX1_ok nmX1 hown hK hP hD hS 0 rfl rfl 0 (by decide) (ht _ w_340) (fun _ h9 => h9) rfl (by decide +kernel) rfl rfl (Nat.le_of_ble_eq_true rfl) dX1_init_6 (fun H locs hP hD hS => ?_)
  have hP : va_P (dC, dI) vwCl [(h0, .inr (1, [.int 0, .long 0, .null, .null, .null]))] H := hP
  have hD : va_D A [(h0, .inr (1, [.int 0, .long 0, .null, .null, .null]))] := hD
  refine lv_aload_n hx hb dX1_init_9 rfl (lv_at hl 0 rfl) ?_
  refine lv_lconst (v := 1) hx hb dX1_init_10 (by decide) ?_
  refine va_put (D := (dC, dI)) (ci := 1) (v := .long 1) (ty := .long) (C := RX1) (T := TX1) (N := 5) hx hb ht iX1 tyX1 tyX1_ok nmX1 hown hK hP hD hS 0 rfl rfl 1 (by decide) (ht _ w_342) (fun _ h9 => h9) rfl (by decide +kernel) rfl rfl (Nat.le_of_ble_eq_true rfl) dX1_init_11 (fun H locs hP hD hS => ?_)
  have hP : va_P (dC, dI) vwCl [(h0, .inr (1, [.int 0, .long 1, .null, .null, .null]))] H := hP
  have hD : va_D A [(h0, .inr (1, [.int 0, .long 1, .null, .null, .null]))] := hD
  refine lv_aload_n hx hb dX1_init_14 rfl (lv_at hl 0 rfl) ?_
  refine lv_iconst (v := 5) hx hb dX1_init_15 (by decide) ?_
  refine va_newa (atype := .int) (ty := .int) (a0 := (5, .inl (fun _ => 0))) hx hb (ht _ w_170) rfl hK hP hD hS hA (fun _ => rfl) (by decide) (by decide) (by decide) (Nat.le_of_ble_eq_true rfl) (Nat.le_of_ble_eq_true rfl) dX1_init_16 (fun q_1 cA H hK1 hP hD hS => ?_)
  have ecA := tyI_one hK1
  subst ecA
  have hP : va_P (dC, dI) vwCl [(h0, .inr (1, [.int 0, .long 1, .null, .null, .null])), (q_1, .inl (cI, 5, .inl (fun _ => 0)))] H := hP
  have hD : va_D A [(h0, .inr (1, [.int 0, .long 1, .null, .null, .null])), (q_1, .inl (cI, 5, .inl (fun _ => 0)))] := hD
  refine W.widen (k := 1) (n := 5) (Nat.le_of_ble_eq_true rfl) (Nat.le_of_ble_eq_true rfl) ?_
  refine va_putF (D := (dC, dI)) (ci := 1) (v := .ref q_1) (ty := .array .int) (C := RX1) (T := TX1) (N := 5) hx hb ht iX1 tyX1 tyX1_ok nmX1 hown hK hP hD hS 0 rfl rfl 2 (by decide) (ht _ w_344) (fun _ h9 => h9) rfl hin rfl (by decide +kernel) rfl rfl (Nat.le_of_ble_eq_true rfl) dX1_init_18 (fun H locs hP hD hS => ?_)
  have hP : va_P (dC, dI) vwCl [(h0, .inr (1, [.int 0, .long 1, .ref q_1, .null, .null])), (q_1, .inl (cI, 5, .inl (fun _ => 0)))] H := hP
  have hD : va_D A [(h0, .inr (1, [.int 0, .long 1, .ref q_1, .null, .null])), (q_1, .inl (cI, 5, .inl (fun _ => 0)))] := hD
  refine lv_aload_n hx hb dX1_init_21 rfl (lv_at hl 0 rfl) ?_
  refine lv_iconst (v := 5) hx hb dX1_init_22 (by decide) ?_
  refine va_newa (atype := .long) (ty := .long) (a0 := (5, .inr (.inl (fun _ => 0)))) hx hb (ht _ w_301) rfl hK hP hD hS hA (fun _ => rfl) (by decide) (by decide) (by decide) (Nat.le_of_ble_eq_true rfl) (Nat.le_of_ble_eq_true rfl) dX1_init_23 (fun q_2 cA H hK1 hP hD hS => ?_)
  have ecA := tyJ_one hK1
  subst ecA
  have hP : va_P (dC, dI) vwCl [(h0, .inr (1, [.int 0, .long 1, .ref q_1, .null, .null])), (q_1, .inl (cI, 5, .inl (fun _ => 0))), (q_2, .inl (cJ, 5, .inr (.inl (fun _ => 0))))] H := hP
  have hD : va_D A [(h0, .inr (1, [.int 0, .long 1, .ref q_1, .null, .null])), (q_1, .inl (cI, 5, .inl (fun _ => 0))), (q_2, .inl (cJ, 5, .inr (.inl (fun _ => 0))))] := hD
  refine W.widen (k := 2) (n := 10) (Nat.le_of_ble_eq_true rfl) (Nat.le_of_ble_eq_true rfl) ?_
  refine va_putF (D := (dC, dI)) (ci := 1) (v := .ref q_2) (ty := .array .long) (C := RX1) (T := TX1) (N := 5) hx hb ht iX1 tyX1 tyX1_ok nmX1 hown hK hP hD hS 0 rfl rfl 3 (by decide) (ht _ w_346) (fun _ h9 => h9) rfl hin rfl (by decide +kernel) rfl rfl (Nat.le_of_ble_eq_true rfl) dX1_init_25 (fun H locs hP hD hS => ?_)
  have hP : va_P (dC, dI) vwCl [(h0, .inr (1, [.int 0, .long 1, .ref q_1, .ref q_2, .null])), (q_1, .inl (cI, 5, .inl (fun _ => 0))), (q_2, .inl (cJ, 5, .inr (.inl (fun _ => 0))))] H := hP
  have hD : va_D A [(h0, .inr (1, [.int 0, .long 1, .ref q_1, .ref q_2, .null])), (q_1, .inl (cI, 5, .inl (fun _ => 0))), (q_2, .inl (cJ, 5, .inr (.inl (fun _ => 0))))] := hD
  refine lv_aload_n hx hb dX1_init_28 rfl (lv_at hl 0 rfl) ?_
  refine lv_iconst (v := 5) hx hb dX1_init_29 (by decide) ?_
  refine va_newa (atype := .long) (ty := .long) (a0 := (5, .inr (.inl (fun _ => 0)))) hx hb (ht _ w_301) rfl hK hP hD hS hA (fun _ => rfl) (by decide) (by decide) (by decide) (Nat.le_of_ble_eq_true rfl) (Nat.le_of_ble_eq_true rfl) dX1_init_30 (fun q_3 cA H hK1 hP hD hS => ?_)
  have ecA := tyJ_one hK1
  subst ecA
  have hP : va_P (dC, dI) vwCl [(h0, .inr (1, [.int 0, .long 1, .ref q_1, .ref q_2, .null])), (q_1, .inl (cI, 5, .inl (fun _ => 0))), (q_2, .inl (cJ, 5, .inr (.inl (fun _ => 0)))), (q_3, .inl (cJ, 5, .inr (.inl (fun _ => 0))))] H := hP
  have hD : va_D A [(h0, .inr (1, [.int 0, .long 1, .ref q_1, .ref q_2, .null])), (q_1, .inl (cI, 5, .inl (fun _ => 0))), (q_2, .inl (cJ, 5, .inr (.inl (fun _ => 0)))), (q_3, .inl (cJ, 5, .inr (.inl (fun _ => 0))))] := hD
  refine W.widen (k := 3) (n := 15) (Nat.le_of_ble_eq_true rfl) (Nat.le_of_ble_eq_true rfl) ?_
  refine va_putF (D := (dC, dI)) (ci := 1) (v := .ref q_3) (ty := .array .long) (C := RX1) (T := TX1) (N := 5) hx hb ht iX1 tyX1 tyX1_ok nmX1 hown hK hP hD hS 0 rfl rfl 4 (by decide) (ht _ w_348) (fun _ h9 => h9) rfl hin rfl (by decide +kernel) rfl rfl (Nat.le_of_ble_eq_true rfl) dX1_init_32 (fun H locs hP hD hS => ?_)
  have hP : va_P (dC, dI) vwCl [(h0, .inr (1, [.int 0, .long 1, .ref q_1, .ref q_2, .ref q_3])), (q_1, .inl (cI, 5, .inl (fun _ => 0))), (q_2, .inl (cJ, 5, .inr (.inl (fun _ => 0)))), (q_3, .inl (cJ, 5, .inr (.inl (fun _ => 0))))] H := hP
  have hD : va_D A [(h0, .inr (1, [.int 0, .long 1, .ref q_1, .ref q_2, .ref q_3])), (q_1, .inl (cI, 5, .inl (fun _ => 0))), (q_2, .inl (cJ, 5, .inr (.inl (fun _ => 0)))), (q_3, .inl (cJ, 5, .inr (.inl (fun _ => 0))))] := hD
  refine W.widen (k := 3) (n := 15) (Nat.le_of_ble_eq_true rfl) (Nat.le_of_ble_eq_true rfl) ?_
  exact W.vret hx hb hr (fun t ht hW => ⟨⟨(), rfl, trivial, trivial⟩, hS.F ht⟩) hS.2.2 dX1_init_35
set_option maxHeartbeats 4000000 in
set_option maxRecDepth 100000 in
theorem k_X4_init (l : Launch) (dC : Nat → ClassId) (dI : Nat → Nat → Nat) (cB cI cJ cZ cL : ClassId) (sz : Nat) (h0 : Nat)  : Met l yX4_init (wy yX4_init cX4_init 1 none) ({ frames := 1, cells := 2, slots := 10, locals := 40 }) (va_Pc [.ref h0] (fun U => U.heap.size = sz ∧ va_P (dC, dI) vwCl [(h0, .inr (4, [.int 0, .int 0, .int 0, .int 0, .null, .null]))] U.heap ∧ va_K (dC, dI) vwCl (tyL cB cI cJ cZ cL) U ∧ va_D (fun _ => True) [(h0, .inr (4, [.int 0, .int 0, .int 0, .int 0, .null, .null]))])) (va_Qv (fun _ => True) (fun (_ : Unit) _ => True) (va_A [(h0, .inr (4, [.int 0, .int 0, .int 0, .int 0, .null, .null]))] sz)) 2 10 (va_A [(h0, .inr (4, [.int 0, .int 0, .int 0, .int 0, .null, .null]))] sz) := by
  refine Met.ofW (cc := cX4_init) (maxL := 1) (ret := none) (by decide) rfl ?_
  intro p e s m args below meth c s₁ B hml hv
  obtain ⟨rfl, hsz, hP, hK, hD0⟩ := hv
  have hx := B.exec
  have hb := B.bytes
  have hr := B.returns
  have ht : ∀ w ∈ lw_ok, w.before _ s = true := fun w h => atoms_spec (ws := wy yX4_init cX4_init 1 none) B.pre w (List.mem_cons_of_mem _ h)
  have hown : s.vm.findClass RX4 = some m.cls := findClass_of_methodNamed B.named
  have hlocks := B.notSynchronized
  have hin : meth.name = "<init>" := (name_of_methodNamed B.named B.method).1
  subst hsz
  have hD := hD0.self (sz := s.heap.size)
  generalize hAe : va_A [(h0, .inr (4, [.int 0, .int 0, .int 0, .int 0, .null, .null]))] s.heap.size = A at hD ⊢
  have hA : ∀ q : Nat, s.heap.size ≤ q → A q := fun q h => by rw [← hAe]; exact Or.inr h
  have hS : va_S A s.heap s.heap [] := va_S.rf
  have hl := lv_entry ([.ref h0]) (n := 1) (Nat.le_of_ble_eq_true rfl)
  rw [lg_entry_eq]
  generalize (lg_sl ([.ref h0]) ++ List.replicate (1 - (lg_sl ([.ref h0])).length) Slot.unset).toArray = ls at hl ⊢
  have hl : lv_has ls 1 [(0, .ref h0)] := hl
  have hP : va_P (dC, dI) vwCl [(h0, .inr (4, [.int 0, .int 0, .int 0, .int 0, .null, .null]))] s.heap := hP
  have hD : va_D A [(h0, .inr (4, [.int 0, .int 0, .int 0, .int 0, .null, .null]))] := hD
  refine lv_aload_n hx hb dX4_init_0 rfl (lv_at hl 0 rfl) ?_
  refine W.objInit hx hb hown (ht _ w_307) (ht _ w_129) (ht _ w_130) rfl (by rw [hml]; exact hl.1) rfl dX4_init_1 (Nat.le_of_ble_eq_true rfl) (Nat.le_of_ble_eq_true rfl) ?_
  refine W.eq (g2 := F0 m 4 ls []) rfl ?_
  refine lv_aload_n hx hb dX4_init_4 rfl (lv_at hl 0 rfl) ?_
  refine lv_iconst (v := 0) hx hb dX4_init_5 (by decide) ?_
  refine va_put (D := (dC, dI)) (ci := 4) (v := .int 0) (ty := .int) (C := RX4) (T := TX4) (N := 6) hx hb ht iX4 tyX4 tyX4_ok nmX4 hown hK hP hD hS 0 rfl rfl 0 (by decide) (ht _ w_308) (fun _ h9 => h9) rfl (by decide +kernel) rfl rfl (Nat.le_of_ble_eq_true rfl) dX4_init_6 (fun H locs hP hD hS => ?_)
  have hP : va_P (dC, dI) vwCl [(h0, .inr (4, [.int 0, .int 0, .int 0, .int 0, .null, .null]))] H := hP
  have hD : va_D A [(h0, .inr (4, [.int 0, .int 0, .int 0, .int 0, .null, .null]))] := hD
  refine lv_aload_n hx hb dX4_init_9 rfl (lv_at hl 0 rfl) ?_
  refine lv_iconst (v := 0) hx hb dX4_init_10 (by decide) ?_
  refine va_put (D := (dC, dI)) (ci := 4) (v := .int 0) (ty := .int) (C := RX4) (T := TX4) (N := 6) hx hb ht iX4 tyX4 tyX4_ok nmX4 hown hK hP hD hS 0 rfl rfl 1 (by decide) (ht _ w_310) (fun _ h9 => h9) rfl (by decide +kernel) rfl rfl (Nat.le_of_ble_eq_true rfl) dX4_init_11 (fun H locs hP hD hS => ?_)
  have hP : va_P (dC, dI) vwCl [(h0, .inr (4, [.int 0, .int 0, .int 0, .int 0, .null, .null]))] H := hP
  have hD : va_D A [(h0, .inr (4, [.int 0, .int 0, .int 0, .int 0, .null, .null]))] := hD
  refine lv_aload_n hx hb dX4_init_14 rfl (lv_at hl 0 rfl) ?_
  refine lv_iconst (v := 0) hx hb dX4_init_15 (by decide) ?_
  refine va_put (D := (dC, dI)) (ci := 4) (v := .int 0) (ty := .int) (C := RX4) (T := TX4) (N := 6) hx hb ht iX4 tyX4 tyX4_ok nmX4 hown hK hP hD hS 0 rfl rfl 2 (by decide) (ht _ w_312) (fun _ h9 => h9) rfl (by decide +kernel) rfl rfl (Nat.le_of_ble_eq_true rfl) dX4_init_16 (fun H locs hP hD hS => ?_)
  have hP : va_P (dC, dI) vwCl [(h0, .inr (4, [.int 0, .int 0, .int 0, .int 0, .null, .null]))] H := hP
  have hD : va_D A [(h0, .inr (4, [.int 0, .int 0, .int 0, .int 0, .null, .null]))] := hD
  refine lv_aload_n hx hb dX4_init_19 rfl (lv_at hl 0 rfl) ?_
  refine lv_iconst (v := (-1)) hx hb dX4_init_20 (by decide) ?_
  refine va_put (D := (dC, dI)) (ci := 4) (v := .int (-1)) (ty := .int) (C := RX4) (T := TX4) (N := 6) hx hb ht iX4 tyX4 tyX4_ok nmX4 hown hK hP hD hS 0 rfl rfl 3 (by decide) (ht _ w_314) (fun _ h9 => h9) rfl (by decide +kernel) rfl rfl (Nat.le_of_ble_eq_true rfl) dX4_init_21 (fun H locs hP hD hS => ?_)
  have hP : va_P (dC, dI) vwCl [(h0, .inr (4, [.int 0, .int 0, .int 0, .int (-1), .null, .null]))] H := hP
  have hD : va_D A [(h0, .inr (4, [.int 0, .int 0, .int 0, .int (-1), .null, .null]))] := hD
  refine lv_aload_n hx hb dX4_init_24 rfl (lv_at hl 0 rfl) ?_
  refine lv_iconst (v := 5) hx hb dX4_init_25 (by decide) ?_
  refine va_newa (atype := .int) (ty := .int) (a0 := (5, .inl (fun _ => 0))) hx hb (ht _ w_170) rfl hK hP hD hS hA (fun _ => rfl) (by decide) (by decide) (by decide) (Nat.le_of_ble_eq_true rfl) (Nat.le_of_ble_eq_true rfl) dX4_init_26 (fun q_1 cA H hK1 hP hD hS => ?_)
  have ecA := tyI_one hK1
  subst ecA
  have hP : va_P (dC, dI) vwCl [(h0, .inr (4, [.int 0, .int 0, .int 0, .int (-1), .null, .null])), (q_1, .inl (cI, 5, .inl (fun _ => 0)))] H := hP
  have hD : va_D A [(h0, .inr (4, [.int 0, .int 0, .int 0, .int (-1), .null, .null])), (q_1, .inl (cI, 5, .inl (fun _ => 0)))] := hD
  refine W.widen (k := 1) (n := 5) (Nat.le_of_ble_eq_true rfl) (Nat.le_of_ble_eq_true rfl) ?_
  refine va_putF (D := (dC, dI)) (ci := 4) (v := .ref q_1) (ty := .array .int) (C := RX4) (T := TX4) (N := 6) hx hb ht iX4 tyX4 tyX4_ok nmX4 hown hK hP hD hS 0 rfl rfl 4 (by decide) (ht _ w_316) (fun _ h9 => h9) rfl hin rfl (by decide +kernel) rfl rfl (Nat.le_of_ble_eq_true rfl) dX4_init_28 (fun H locs hP hD hS => ?_)
  have hP : va_P (dC, dI) vwCl [(h0, .inr (4, [.int 0, .int 0, .int 0, .int (-1), .ref q_1, .null])), (q_1, .inl (cI, 5, .inl (fun _ => 0)))] H := hP
  have hD : va_D A [(h0, .inr (4, [.int 0, .int 0, .int 0, .int (-1), .ref q_1, .null])), (q_1, .inl (cI, 5, .inl (fun _ => 0)))] := hD
  refine lv_aload_n hx hb dX4_init_31 rfl (lv_at hl 0 rfl) ?_
  refine lv_iconst (v := 5) hx hb dX4_init_32 (by decide) ?_
  refine va_newa (atype := .int) (ty := .int) (a0 := (5, .inl (fun _ => 0))) hx hb (ht _ w_170) rfl hK hP hD hS hA (fun _ => rfl) (by decide) (by decide) (by decide) (Nat.le_of_ble_eq_true rfl) (Nat.le_of_ble_eq_true rfl) dX4_init_33 (fun q_2 cA H hK1 hP hD hS => ?_)
  have ecA := tyI_one hK1
  subst ecA
  have hP : va_P (dC, dI) vwCl [(h0, .inr (4, [.int 0, .int 0, .int 0, .int (-1), .ref q_1, .null])), (q_1, .inl (cI, 5, .inl (fun _ => 0))), (q_2, .inl (cI, 5, .inl (fun _ => 0)))] H := hP
  have hD : va_D A [(h0, .inr (4, [.int 0, .int 0, .int 0, .int (-1), .ref q_1, .null])), (q_1, .inl (cI, 5, .inl (fun _ => 0))), (q_2, .inl (cI, 5, .inl (fun _ => 0)))] := hD
  refine W.widen (k := 2) (n := 10) (Nat.le_of_ble_eq_true rfl) (Nat.le_of_ble_eq_true rfl) ?_
  refine va_putF (D := (dC, dI)) (ci := 4) (v := .ref q_2) (ty := .array .int) (C := RX4) (T := TX4) (N := 6) hx hb ht iX4 tyX4 tyX4_ok nmX4 hown hK hP hD hS 0 rfl rfl 5 (by decide) (ht _ w_319) (fun _ h9 => h9) rfl hin rfl (by decide +kernel) rfl rfl (Nat.le_of_ble_eq_true rfl) dX4_init_35 (fun H locs hP hD hS => ?_)
  have hP : va_P (dC, dI) vwCl [(h0, .inr (4, [.int 0, .int 0, .int 0, .int (-1), .ref q_1, .ref q_2])), (q_1, .inl (cI, 5, .inl (fun _ => 0))), (q_2, .inl (cI, 5, .inl (fun _ => 0)))] H := hP
  have hD : va_D A [(h0, .inr (4, [.int 0, .int 0, .int 0, .int (-1), .ref q_1, .ref q_2])), (q_1, .inl (cI, 5, .inl (fun _ => 0))), (q_2, .inl (cI, 5, .inl (fun _ => 0)))] := hD
  refine W.widen (k := 2) (n := 10) (Nat.le_of_ble_eq_true rfl) (Nat.le_of_ble_eq_true rfl) ?_
  exact W.vret hx hb hr (fun t ht hW => ⟨⟨(), rfl, trivial, trivial⟩, hS.F ht⟩) hS.2.2 dX4_init_38
set_option maxHeartbeats 4000000 in
set_option maxRecDepth 100000 in
theorem k_X5_init (l : Launch) (dC : Nat → ClassId) (dI : Nat → Nat → Nat) (cB cI cJ cZ cL : ClassId) (sz : Nat) (h0 : Nat)  : Met l yX5_init (wy yX5_init cX5_init 1 none) ({ frames := 1, cells := 1, slots := 500, locals := 40 }) (va_Pc [.ref h0] (fun U => U.heap.size = sz ∧ va_P (dC, dI) vwCl [(h0, .inr (5, [.null, .int 0]))] U.heap ∧ va_K (dC, dI) vwCl (tyL cB cI cJ cZ cL) U ∧ va_D (fun _ => True) [(h0, .inr (5, [.null, .int 0]))])) (va_Qv (fun _ => True) (fun (u : Nat) t => va_P (dC, dI) vwCl [(h0, .inr (5, [.ref u, .int 0])), (u, .inl (cB, 500, .inl (fun _ => 0)))] t.heap ∧ va_D (va_A [(h0, .inr (5, [.null, .int 0]))] sz) [(h0, .inr (5, [.ref u, .int 0])), (u, .inl (cB, 500, .inl (fun _ => 0)))]) (va_A [(h0, .inr (5, [.null, .int 0]))] sz)) 1 500 (va_A [(h0, .inr (5, [.null, .int 0]))] sz) := by
  refine Met.ofW (cc := cX5_init) (maxL := 1) (ret := none) (by decide) rfl ?_
  intro p e s m args below meth c s₁ B hml hv
  obtain ⟨rfl, hsz, hP, hK, hD0⟩ := hv
  have hx := B.exec
  have hb := B.bytes
  have hr := B.returns
  have ht : ∀ w ∈ lw_ok, w.before _ s = true := fun w h => atoms_spec (ws := wy yX5_init cX5_init 1 none) B.pre w (List.mem_cons_of_mem _ h)
  have hown : s.vm.findClass RX5 = some m.cls := findClass_of_methodNamed B.named
  have hlocks := B.notSynchronized
  have hin : meth.name = "<init>" := (name_of_methodNamed B.named B.method).1
  subst hsz
  have hD := hD0.self (sz := s.heap.size)
  generalize hAe : va_A [(h0, .inr (5, [.null, .int 0]))] s.heap.size = A at hD ⊢
  have hA : ∀ q : Nat, s.heap.size ≤ q → A q := fun q h => by rw [← hAe]; exact Or.inr h
  have hS : va_S A s.heap s.heap [] := va_S.rf
  have hl := lv_entry ([.ref h0]) (n := 1) (Nat.le_of_ble_eq_true rfl)
  rw [lg_entry_eq]
  generalize (lg_sl ([.ref h0]) ++ List.replicate (1 - (lg_sl ([.ref h0])).length) Slot.unset).toArray = ls at hl ⊢
  have hl : lv_has ls 1 [(0, .ref h0)] := hl
  have hP : va_P (dC, dI) vwCl [(h0, .inr (5, [.null, .int 0]))] s.heap := hP
  have hD : va_D A [(h0, .inr (5, [.null, .int 0]))] := hD
  refine lv_aload_n hx hb dX5_init_0 rfl (lv_at hl 0 rfl) ?_
  refine W.objInit hx hb hown (ht _ w_136) (ht _ w_129) (ht _ w_130) rfl (by rw [hml]; exact hl.1) rfl dX5_init_1 (Nat.le_of_ble_eq_true rfl) (Nat.le_of_ble_eq_true rfl) ?_
  refine W.eq (g2 := F0 m 4 ls []) rfl ?_
  refine lv_aload_n hx hb dX5_init_4 rfl (lv_at hl 0 rfl) ?_
  refine lv_sipush (v := 500) hx hb dX5_init_5 (by decide) ?_
  refine va_newa (atype := .byte) (ty := .byte) (a0 := (500, .inl (fun _ => 0))) hx hb (ht _ w_146) rfl hK hP hD hS hA (fun _ => rfl) (by decide) (by decide) (by decide) (Nat.le_of_ble_eq_true rfl) (Nat.le_of_ble_eq_true rfl) dX5_init_8 (fun q_1 cA H hK1 hP hD hS => ?_)
  have ecA := tyB_one hK1
  subst ecA
  have hP : va_P (dC, dI) vwCl [(h0, .inr (5, [.null, .int 0])), (q_1, .inl (cB, 500, .inl (fun _ => 0)))] H := hP
  have hD : va_D A [(h0, .inr (5, [.null, .int 0])), (q_1, .inl (cB, 500, .inl (fun _ => 0)))] := hD
  refine W.widen (k := 1) (n := 500) (Nat.le_of_ble_eq_true rfl) (Nat.le_of_ble_eq_true rfl) ?_
  refine va_putF (D := (dC, dI)) (ci := 5) (v := .ref q_1) (ty := .array .byte) (C := RX5) (T := TX5) (N := 2) hx hb ht iX5 tyX5 tyX5_ok nmX5 hown hK hP hD hS 0 rfl rfl 0 (by decide) (ht _ w_137) (fun _ h9 => h9) rfl hin rfl (by decide +kernel) rfl rfl (Nat.le_of_ble_eq_true rfl) dX5_init_10 (fun H locs hP hD hS => ?_)
  have hP : va_P (dC, dI) vwCl [(h0, .inr (5, [.ref q_1, .int 0])), (q_1, .inl (cB, 500, .inl (fun _ => 0)))] H := hP
  have hD : va_D A [(h0, .inr (5, [.ref q_1, .int 0])), (q_1, .inl (cB, 500, .inl (fun _ => 0)))] := hD
  refine lv_aload_n hx hb dX5_init_13 rfl (lv_at hl 0 rfl) ?_
  refine lv_iconst (v := 0) hx hb dX5_init_14 (by decide) ?_
  refine va_put (D := (dC, dI)) (ci := 5) (v := .int 0) (ty := .int) (C := RX5) (T := TX5) (N := 2) hx hb ht iX5 tyX5 tyX5_ok nmX5 hown hK hP hD hS 0 rfl rfl 1 (by decide) (ht _ w_138) (fun _ h9 => h9) rfl (by decide +kernel) rfl rfl (Nat.le_of_ble_eq_true rfl) dX5_init_15 (fun H locs hP hD hS => ?_)
  have hP : va_P (dC, dI) vwCl [(h0, .inr (5, [.ref q_1, .int 0])), (q_1, .inl (cB, 500, .inl (fun _ => 0)))] H := hP
  have hD : va_D A [(h0, .inr (5, [.ref q_1, .int 0])), (q_1, .inl (cB, 500, .inl (fun _ => 0)))] := hD
  have hP9 := hP.sub (ws' := [(h0, .inr (5, [.ref q_1, .int 0])), (q_1, .inl (cB, 500, .inl (fun _ => 0)))]) [0, 1] rfl
  have hD9 := hD.sub (ws' := [(h0, .inr (5, [.ref q_1, .int 0])), (q_1, .inl (cB, 500, .inl (fun _ => 0)))]) [0, 1] (by decide) rfl
  refine W.widen (k := 1) (n := 500) (Nat.le_of_ble_eq_true rfl) (Nat.le_of_ble_eq_true rfl) ?_
  exact W.vret hx hb hr (fun t ht hW => ⟨⟨q_1, rfl, trivial, ⟨by rw [ht]; exact hP9, hD9⟩⟩, hS.F ht⟩) hS.2.2 dX5_init_18
set_option maxHeartbeats 4000000 in
set_option maxRecDepth 100000 in
theorem k_X7_init (l : Launch) (dC : Nat → ClassId) (dI : Nat → Nat → Nat) (cB cI cJ cZ cL : ClassId) (sz : Nat) (h0 : Nat)  : Met l yX7_init (wy yX7_init cX7_init 1 none) ({ frames := 1, cells := 3, slots := 1503, locals := 40 }) (va_Pc [.ref h0] (fun U => U.heap.size = sz ∧ va_P (dC, dI) vwCl [(h0, .inr (7, [.null, .null, .null, .int 0]))] U.heap ∧ va_K (dC, dI) vwCl (tyL cB cI cJ cZ cL) U ∧ va_D (fun _ => True) [(h0, .inr (7, [.null, .null, .null, .int 0]))])) (va_Qv (fun _ => True) (fun (u : Nat → Nat) t => va_P (dC, dI) vwCl [(h0, .inr (7, [.ref (u 0), .ref (u 1), .ref (u 2), .int 0])), ((u 0), .inl (cI, 501, .inl (fun _ => 0))), ((u 1), .inl (cI, 501, .inl (fun _ => 0))), ((u 2), .inl (cI, 501, .inl (fun _ => 0)))] t.heap ∧ va_D (va_A [(h0, .inr (7, [.null, .null, .null, .int 0]))] sz) [(h0, .inr (7, [.ref (u 0), .ref (u 1), .ref (u 2), .int 0])), ((u 0), .inl (cI, 501, .inl (fun _ => 0))), ((u 1), .inl (cI, 501, .inl (fun _ => 0))), ((u 2), .inl (cI, 501, .inl (fun _ => 0)))]) (va_A [(h0, .inr (7, [.null, .null, .null, .int 0]))] sz)) 3 1503 (va_A [(h0, .inr (7, [.null, .null, .null, .int 0]))] sz) := by
  refine Met.ofW (cc := cX7_init) (maxL := 1) (ret := none) (by decide) rfl ?_
  intro p e s m args below meth c s₁ B hml hv
  obtain ⟨rfl, hsz, hP, hK, hD0⟩ := hv
  have hx := B.exec
  have hb := B.bytes
  have hr := B.returns
  have ht : ∀ w ∈ lw_ok, w.before _ s = true := fun w h => atoms_spec (ws := wy yX7_init cX7_init 1 none) B.pre w (List.mem_cons_of_mem _ h)
  have hown : s.vm.findClass RX7 = some m.cls := findClass_of_methodNamed B.named
  have hlocks := B.notSynchronized
  have hin : meth.name = "<init>" := (name_of_methodNamed B.named B.method).1
  subst hsz
  have hD := hD0.self (sz := s.heap.size)
  generalize hAe : va_A [(h0, .inr (7, [.null, .null, .null, .int 0]))] s.heap.size = A at hD ⊢
  have hA : ∀ q : Nat, s.heap.size ≤ q → A q := fun q h => by rw [← hAe]; exact Or.inr h
  have hS : va_S A s.heap s.heap [] := va_S.rf
  have hl := lv_entry ([.ref h0]) (n := 1) (Nat.le_of_ble_eq_true rfl)
  rw [lg_entry_eq]
  generalize (lg_sl ([.ref h0]) ++ List.replicate (1 - (lg_sl ([.ref h0])).length) Slot.unset).toArray = ls at hl ⊢
  have hl : lv_has ls 1 [(0, .ref h0)] := hl
  have hP : va_P (dC, dI) vwCl [(h0, .inr (7, [.null, .null, .null, .int 0]))] s.heap := hP
  have hD : va_D A [(h0, .inr (7, [.null, .null, .null, .int 0]))] := hD
  refine lv_aload_n hx hb dX7_init_0 rfl (lv_at hl 0 rfl) ?_
  refine W.objInit hx hb hown (ht _ w_152) (ht _ w_129) (ht _ w_130) rfl (by rw [hml]; exact hl.1) rfl dX7_init_1 (Nat.le_of_ble_eq_true rfl) (Nat.le_of_ble_eq_true rfl) ?_
  refine W.eq (g2 := F0 m 4 ls []) rfl ?_
  refine lv_aload_n hx hb dX7_init_4 rfl (lv_at hl 0 rfl) ?_
  refine lv_sipush (v := 501) hx hb dX7_init_5 (by decide) ?_
  refine va_newa (atype := .int) (ty := .int) (a0 := (501, .inl (fun _ => 0))) hx hb (ht _ w_170) rfl hK hP hD hS hA (fun _ => rfl) (by decide) (by decide) (by decide) (Nat.le_of_ble_eq_true rfl) (Nat.le_of_ble_eq_true rfl) dX7_init_8 (fun q_1 cA H hK1 hP hD hS => ?_)
  have ecA := tyI_one hK1
  subst ecA
  have hP : va_P (dC, dI) vwCl [(h0, .inr (7, [.null, .null, .null, .int 0])), (q_1, .inl (cI, 501, .inl (fun _ => 0)))] H := hP
  have hD : va_D A [(h0, .inr (7, [.null, .null, .null, .int 0])), (q_1, .inl (cI, 501, .inl (fun _ => 0)))] := hD
  refine W.widen (k := 1) (n := 501) (Nat.le_of_ble_eq_true rfl) (Nat.le_of_ble_eq_true rfl) ?_
  refine va_putF (D := (dC, dI)) (ci := 7) (v := .ref q_1) (ty := .array .int) (C := RX7) (T := TX7) (N := 4) hx hb ht iX7 tyX7 tyX7_ok nmX7 hown hK hP hD hS 0 rfl rfl 0 (by decide) (ht _ w_153) (fun _ h9 => h9) rfl hin rfl (by decide +kernel) rfl rfl (Nat.le_of_ble_eq_true rfl) dX7_init_10 (fun H locs hP hD hS => ?_)
  have hP : va_P (dC, dI) vwCl [(h0, .inr (7, [.ref q_1, .null, .null, .int 0])), (q_1, .inl (cI, 501, .inl (fun _ => 0)))] H := hP
  have hD : va_D A [(h0, .inr (7, [.ref q_1, .null, .null, .int 0])), (q_1, .inl (cI, 501, .inl (fun _ => 0)))] := hD
  refine lv_aload_n hx hb dX7_init_13 rfl (lv_at hl 0 rfl) ?_
  refine lv_sipush (v := 501) hx hb dX7_init_14 (by decide) ?_
  refine va_newa (atype := .int) (ty := .int) (a0 := (501, .inl (fun _ => 0))) hx hb (ht _ w_170) rfl hK hP hD hS hA (fun _ => rfl) (by decide) (by decide) (by decide) (Nat.le_of_ble_eq_true rfl) (Nat.le_of_ble_eq_true rfl) dX7_init_17 (fun q_2 cA H hK1 hP hD hS => ?_)
  have ecA := tyI_one hK1
  subst ecA
  have hP : va_P (dC, dI) vwCl [(h0, .inr (7, [.ref q_1, .null, .null, .int 0])), (q_1, .inl (cI, 501, .inl (fun _ => 0))), (q_2, .inl (cI, 501, .inl (fun _ => 0)))] H := hP
  have hD : va_D A [(h0, .inr (7, [.ref q_1, .null, .null, .int 0])), (q_1, .inl (cI, 501, .inl (fun _ => 0))), (q_2, .inl (cI, 501, .inl (fun _ => 0)))] := hD
  refine W.widen (k := 2) (n := 1002) (Nat.le_of_ble_eq_true rfl) (Nat.le_of_ble_eq_true rfl) ?_
  refine va_putF (D := (dC, dI)) (ci := 7) (v := .ref q_2) (ty := .array .int) (C := RX7) (T := TX7) (N := 4) hx hb ht iX7 tyX7 tyX7_ok nmX7 hown hK hP hD hS 0 rfl rfl 1 (by decide) (ht _ w_155) (fun _ h9 => h9) rfl hin rfl (by decide +kernel) rfl rfl (Nat.le_of_ble_eq_true rfl) dX7_init_19 (fun H locs hP hD hS => ?_)
  have hP : va_P (dC, dI) vwCl [(h0, .inr (7, [.ref q_1, .ref q_2, .null, .int 0])), (q_1, .inl (cI, 501, .inl (fun _ => 0))), (q_2, .inl (cI, 501, .inl (fun _ => 0)))] H := hP
  have hD : va_D A [(h0, .inr (7, [.ref q_1, .ref q_2, .null, .int 0])), (q_1, .inl (cI, 501, .inl (fun _ => 0))), (q_2, .inl (cI, 501, .inl (fun _ => 0)))] := hD
  refine lv_aload_n hx hb dX7_init_22 rfl (lv_at hl 0 rfl) ?_
  refine lv_sipush (v := 501) hx hb dX7_init_23 (by decide) ?_
  refine va_newa (atype := .int) (ty := .int) (a0 := (501, .inl (fun _ => 0))) hx hb (ht _ w_170) rfl hK hP hD hS hA (fun _ => rfl) (by decide) (by decide) (by decide) (Nat.le_of_ble_eq_true rfl) (Nat.le_of_ble_eq_true rfl) dX7_init_26 (fun q_3 cA H hK1 hP hD hS => ?_)
  have ecA := tyI_one hK1
  subst ecA
  have hP : va_P (dC, dI) vwCl [(h0, .inr (7, [.ref q_1, .ref q_2, .null, .int 0])), (q_1, .inl (cI, 501, .inl (fun _ => 0))), (q_2, .inl (cI, 501, .inl (fun _ => 0))), (q_3, .inl (cI, 501, .inl (fun _ => 0)))] H := hP
  have hD : va_D A [(h0, .inr (7, [.ref q_1, .ref q_2, .null, .int 0])), (q_1, .inl (cI, 501, .inl (fun _ => 0))), (q_2, .inl (cI, 501, .inl (fun _ => 0))), (q_3, .inl (cI, 501, .inl (fun _ => 0)))] := hD
  refine W.widen (k := 3) (n := 1503) (Nat.le_of_ble_eq_true rfl) (Nat.le_of_ble_eq_true rfl) ?_
  refine va_putF (D := (dC, dI)) (ci := 7) (v := .ref q_3) (ty := .array .int) (C := RX7) (T := TX7) (N := 4) hx hb ht iX7 tyX7 tyX7_ok nmX7 hown hK hP hD hS 0 rfl rfl 2 (by decide) (ht _ w_157) (fun _ h9 => h9) rfl hin rfl (by decide +kernel) rfl rfl (Nat.le_of_ble_eq_true rfl) dX7_init_28 (fun H locs hP hD hS => ?_)
  have hP : va_P (dC, dI) vwCl [(h0, .inr (7, [.ref q_1, .ref q_2, .ref q_3, .int 0])), (q_1, .inl (cI, 501, .inl (fun _ => 0))), (q_2, .inl (cI, 501, .inl (fun _ => 0))), (q_3, .inl (cI, 501, .inl (fun _ => 0)))] H := hP
  have hD : va_D A [(h0, .inr (7, [.ref q_1, .ref q_2, .ref q_3, .int 0])), (q_1, .inl (cI, 501, .inl (fun _ => 0))), (q_2, .inl (cI, 501, .inl (fun _ => 0))), (q_3, .inl (cI, 501, .inl (fun _ => 0)))] := hD
  refine lv_aload_n hx hb dX7_init_31 rfl (lv_at hl 0 rfl) ?_
  refine lv_iconst (v := 0) hx hb dX7_init_32 (by decide) ?_
  refine va_put (D := (dC, dI)) (ci := 7) (v := .int 0) (ty := .int) (C := RX7) (T := TX7) (N := 4) hx hb ht iX7 tyX7 tyX7_ok nmX7 hown hK hP hD hS 0 rfl rfl 3 (by decide) (ht _ w_159) (fun _ h9 => h9) rfl (by decide +kernel) rfl rfl (Nat.le_of_ble_eq_true rfl) dX7_init_33 (fun H locs hP hD hS => ?_)
  have hP : va_P (dC, dI) vwCl [(h0, .inr (7, [.ref q_1, .ref q_2, .ref q_3, .int 0])), (q_1, .inl (cI, 501, .inl (fun _ => 0))), (q_2, .inl (cI, 501, .inl (fun _ => 0))), (q_3, .inl (cI, 501, .inl (fun _ => 0)))] H := hP
  have hD : va_D A [(h0, .inr (7, [.ref q_1, .ref q_2, .ref q_3, .int 0])), (q_1, .inl (cI, 501, .inl (fun _ => 0))), (q_2, .inl (cI, 501, .inl (fun _ => 0))), (q_3, .inl (cI, 501, .inl (fun _ => 0)))] := hD
  have hP9 := hP.sub (ws' := [(h0, .inr (7, [.ref q_1, .ref q_2, .ref q_3, .int 0])), (q_1, .inl (cI, 501, .inl (fun _ => 0))), (q_2, .inl (cI, 501, .inl (fun _ => 0))), (q_3, .inl (cI, 501, .inl (fun _ => 0)))]) [0, 1, 2, 3] rfl
  have hD9 := hD.sub (ws' := [(h0, .inr (7, [.ref q_1, .ref q_2, .ref q_3, .int 0])), (q_1, .inl (cI, 501, .inl (fun _ => 0))), (q_2, .inl (cI, 501, .inl (fun _ => 0))), (q_3, .inl (cI, 501, .inl (fun _ => 0)))]) [0, 1, 2, 3] (by decide) rfl
  refine W.widen (k := 3) (n := 1503) (Nat.le_of_ble_eq_true rfl) (Nat.le_of_ble_eq_true rfl) ?_
  exact W.vret hx hb hr (fun t ht hW => ⟨⟨(fun k => match k with | 0 => q_1 | 1 => q_2 | _ => q_3), rfl, trivial, ⟨by rw [ht]; exact hP9, hD9⟩⟩, hS.F ht⟩) hS.2.2 dX7_init_36
set_option maxHeartbeats 4000000 in
set_option maxRecDepth 100000 in
theorem k_X2_init (l : Launch) (dC : Nat → ClassId) (dI : Nat → Nat → Nat) (cB cI cJ cZ cL : ClassId) (sz : Nat) (h0 : Nat)  : Met l yX2_init (wy yX2_init cX2_init 1 none) ({ frames := 1, cells := 8, slots := 115, locals := 40 }) (va_Pc [.ref h0] (fun U => U.heap.size = sz ∧ va_P (dC, dI) vwCl [(h0, .inr (2, [.int 0, .int 0, .int 0, .int 0, .int 0, .int 0, .int 0, .int 0, .int 0, .null, .null, .null, .null, .null, .null, .null, .null]))] U.heap ∧ va_K (dC, dI) vwCl (tyL cB cI cJ cZ cL) U ∧ va_D (fun _ => True) [(h0, .inr (2, [.int 0, .int 0, .int 0, .int 0, .int 0, .int 0, .int 0, .int 0, .int 0, .null, .null, .null, .null, .null, .null, .null, .null]))])) (va_Qv (fun _ => True) (fun (u : Nat → Nat) t => va_P (dC, dI) vwCl [(h0, .inr (2, [.int 0, .int 0, .int 0, .int 0, .int 0, .int 0, .int 0, .int 0, .int 0, .ref (u 0), .ref (u 1), .ref (u 2), .ref (u 3), .ref (u 4), .ref (u 5), .ref (u 6), .ref (u 7)])), ((u 0), .inl (cI, 5, .inl (fun _ => 0))), ((u 1), .inl (cI, 5, .inl (fun _ => 0))), ((u 2), .inl (cI, 5, .inl (fun _ => 0))), ((u 3), .inl (cI, 30, .inl (fun _ => 0))), ((u 4), .inl (cI, 30, .inl (fun _ => 0))), ((u 5), .inl (cI, 30, .inl (fun _ => 0))), ((u 6), .inl (cI, 5, .inl (fun _ => 0))), ((u 7), .inl (cI, 5, .inl (fun _ => 0)))] t.heap ∧ va_D (va_A [(h0, .inr (2, [.int 0, .int 0, .int 0, .int 0, .int 0, .int 0, .int 0, .int 0, .int 0, .null, .null, .null, .null, .null, .null, .null, .null]))] sz) [(h0, .inr (2, [.int 0, .int 0, .int 0, .int 0, .int 0, .int 0, .int 0, .int 0, .int 0, .ref (u 0), .ref (u 1), .ref (u 2), .ref (u 3), .ref (u 4), .ref (u 5), .ref (u 6), .ref (u 7)])), ((u 0), .inl (cI, 5, .inl (fun _ => 0))), ((u 1), .inl (cI, 5, .inl (fun _ => 0))), ((u 2), .inl (cI, 5, .inl (fun _ => 0))), ((u 3), .inl (cI, 30, .inl (fun _ => 0))), ((u 4), .inl (cI, 30, .inl (fun _ => 0))), ((u 5), .inl (cI, 30, .inl (fun _ => 0))), ((u 6), .inl (cI, 5, .inl (fun _ => 0))), ((u 7), .inl (cI, 5, .inl (fun _ => 0)))]) (va_A [(h0, .inr (2, [.int 0, .int 0, .int 0, .int 0, .int 0, .int 0, .int 0, .int 0, .int 0, .null, .null, .null, .null, .null, .null, .null, .null]))] sz)) 8 115 (va_A [(h0, .inr (2, [.int 0, .int 0, .int 0, .int 0, .int 0, .int 0, .int 0, .int 0, .int 0, .null, .null, .null, .null, .null, .null, .null, .null]))] sz) := by
  refine Met.ofW (cc := cX2_init) (maxL := 1) (ret := none) (by decide) rfl ?_
  intro p e s m args below meth c s₁ B hml hv
  obtain ⟨rfl, hsz, hP, hK, hD0⟩ := hv
  have hx := B.exec
  have hb := B.bytes
  have hr := B.returns
  have ht : ∀ w ∈ lw_ok, w.before _ s = true := fun w h => atoms_spec (ws := wy yX2_init cX2_init 1 none) B.pre w (List.mem_cons_of_mem _ h)
  have hown : s.vm.findClass RX2 = some m.cls := findClass_of_methodNamed B.named
  have hlocks := B.notSynchronized
  have hin : meth.name = "<init>" := (name_of_methodNamed B.named B.method).1
  subst hsz
  have hD := hD0.self (sz := s.heap.size)
  generalize hAe : va_A [(h0, .inr (2, [.int 0, .int 0, .int 0, .int 0, .int 0, .int 0, .int 0, .int 0, .int 0, .null, .null, .null, .null, .null, .null, .null, .null]))] s.heap.size = A at hD ⊢
  have hA : ∀ q : Nat, s.heap.size ≤ q → A q := fun q h => by rw [← hAe]; exact Or.inr h
  have hS : va_S A s.heap s.heap [] := va_S.rf
  have hl := lv_entry ([.ref h0]) (n := 1) (Nat.le_of_ble_eq_true rfl)
  rw [lg_entry_eq]
  generalize (lg_sl ([.ref h0]) ++ List.replicate (1 - (lg_sl ([.ref h0])).length) Slot.unset).toArray = ls at hl ⊢
  have hl : lv_has ls 1 [(0, .ref h0)] := hl
  have hP : va_P (dC, dI) vwCl [(h0, .inr (2, [.int 0, .int 0, .int 0, .int 0, .int 0, .int 0, .int 0, .int 0, .int 0, .null, .null, .null, .null, .null, .null, .null, .null]))] s.heap := hP
  have hD : va_D A [(h0, .inr (2, [.int 0, .int 0, .int 0, .int 0, .int 0, .int 0, .int 0, .int 0, .int 0, .null, .null, .null, .null, .null, .null, .null, .null]))] := hD
  refine lv_aload_n hx hb dX2_init_0 rfl (lv_at hl 0 rfl) ?_
  refine W.objInit hx hb hown (ht _ w_200) (ht _ w_129) (ht _ w_130) rfl (by rw [hml]; exact hl.1) rfl dX2_init_1 (Nat.le_of_ble_eq_true rfl) (Nat.le_of_ble_eq_true rfl) ?_
  refine W.eq (g2 := F0 m 4 ls []) rfl ?_
  refine lv_aload_n hx hb dX2_init_4 rfl (lv_at hl 0 rfl) ?_
  refine lv_iconst (v := 0) hx hb dX2_init_5 (by decide) ?_
  refine va_put (D := (dC, dI)) (ci := 2) (v := .int 0) (ty := .int) (C := RX2) (T := TX2) (N := 17) hx hb ht iX2 tyX2 tyX2_ok nmX2 hown hK hP hD hS 0 rfl rfl 0 (by decide) (ht _ w_201) (fun _ h9 => h9) rfl (by decide +kernel) rfl rfl (Nat.le_of_ble_eq_true rfl) dX2_init_6 (fun H locs hP hD hS => ?_)
  have hP : va_P (dC, dI) vwCl [(h0, .inr (2, [.int 0, .int 0, .int 0, .int 0, .int 0, .int 0, .int 0, .int 0, .int 0, .null, .null, .null, .null, .null, .null, .null, .null]))] H := hP
  have hD : va_D A [(h0, .inr (2, [.int 0, .int 0, .int 0, .int 0, .int 0, .int 0, .int 0, .int 0, .int 0, .null, .null, .null, .null, .null, .null, .null, .null]))] := hD
  refine lv_aload_n hx hb dX2_init_9 rfl (lv_at hl 0 rfl) ?_
  refine lv_iconst (v := 0) hx hb dX2_init_10 (by decide) ?_
  refine va_put (D := (dC, dI)) (ci := 2) (v := .int 0) (ty := .int) (C := RX2) (T := TX2) (N := 17) hx hb ht iX2 tyX2 tyX2_ok nmX2 hown hK hP hD hS 0 rfl rfl 1 (by decide) (ht _ w_204) (fun _ h9 => h9) rfl (by decide +kernel) rfl rfl (Nat.le_of_ble_eq_true rfl) dX2_init_11 (fun H locs hP hD hS => ?_)
  have hP : va_P (dC, dI) vwCl [(h0, .inr (2, [.int 0, .int 0, .int 0, .int 0, .int 0, .int 0, .int 0, .int 0, .int 0, .null, .null, .null, .null, .null, .null, .null, .null]))] H := hP
  have hD : va_D A [(h0, .inr (2, [.int 0, .int 0, .int 0, .int 0, .int 0, .int 0, .int 0, .int 0, .int 0, .null, .null, .null, .null, .null, .null, .null, .null]))] := hD
  refine lv_aload_n hx hb dX2_init_14 rfl (lv_at hl 0 rfl) ?_
  refine lv_iconst (v := 0) hx hb dX2_init_15 (by decide) ?_
  refine va_put (D := (dC, dI)) (ci := 2) (v := .int 0) (ty := .int) (C := RX2) (T := TX2) (N := 17) hx hb ht iX2 tyX2 tyX2_ok nmX2 hown hK hP hD hS 0 rfl rfl 2 (by decide) (ht _ w_207) (fun _ h9 => h9) rfl (by decide +kernel) rfl rfl (Nat.le_of_ble_eq_true rfl) dX2_init_16 (fun H locs hP hD hS => ?_)
  have hP : va_P (dC, dI) vwCl [(h0, .inr (2, [.int 0, .int 0, .int 0, .int 0, .int 0, .int 0, .int 0, .int 0, .int 0, .null, .null, .null, .null, .null, .null, .null, .null]))] H := hP
  have hD : va_D A [(h0, .inr (2, [.int 0, .int 0, .int 0, .int 0, .int 0, .int 0, .int 0, .int 0, .int 0, .null, .null, .null, .null, .null, .null, .null, .null]))] := hD
  refine lv_aload_n hx hb dX2_init_19 rfl (lv_at hl 0 rfl) ?_
  refine lv_iconst (v := 0) hx hb dX2_init_20 (by decide) ?_
  refine va_put (D := (dC, dI)) (ci := 2) (v := .int 0) (ty := .int) (C := RX2) (T := TX2) (N := 17) hx hb ht iX2 tyX2 tyX2_ok nmX2 hown hK hP hD hS 0 rfl rfl 3 (by decide) (ht _ w_211) (fun _ h9 => h9) rfl (by decide +kernel) rfl rfl (Nat.le_of_ble_eq_true rfl) dX2_init_21 (fun H locs hP hD hS => ?_)
  have hP : va_P (dC, dI) vwCl [(h0, .inr (2, [.int 0, .int 0, .int 0, .int 0, .int 0, .int 0, .int 0, .int 0, .int 0, .null, .null, .null, .null, .null, .null, .null, .null]))] H := hP
  have hD : va_D A [(h0, .inr (2, [.int 0, .int 0, .int 0, .int 0, .int 0, .int 0, .int 0, .int 0, .int 0, .null, .null, .null, .null, .null, .null, .null, .null]))] := hD
  refine lv_aload_n hx hb dX2_init_24 rfl (lv_at hl 0 rfl) ?_
  refine lv_iconst (v := 0) hx hb dX2_init_25 (by decide) ?_
  refine va_put (D := (dC, dI)) (ci := 2) (v := .int 0) (ty := .int) (C := RX2) (T := TX2) (N := 17) hx hb ht iX2 tyX2 tyX2_ok nmX2 hown hK hP hD hS 0 rfl rfl 4 (by decide) (ht _ w_214) (fun _ h9 => h9) rfl (by decide +kernel) rfl rfl (Nat.le_of_ble_eq_true rfl) dX2_init_26 (fun H locs hP hD hS => ?_)
  have hP : va_P (dC, dI) vwCl [(h0, .inr (2, [.int 0, .int 0, .int 0, .int 0, .int 0, .int 0, .int 0, .int 0, .int 0, .null, .null, .null, .null, .null, .null, .null, .null]))] H := hP
  have hD : va_D A [(h0, .inr (2, [.int 0, .int 0, .int 0, .int 0, .int 0, .int 0, .int 0, .int 0, .int 0, .null, .null, .null, .null, .null, .null, .null, .null]))] := hD
  refine lv_aload_n hx hb dX2_init_29 rfl (lv_at hl 0 rfl) ?_
  refine lv_iconst (v := 0) hx hb dX2_init_30 (by decide) ?_
  refine va_put (D := (dC, dI)) (ci := 2) (v := .int 0) (ty := .int) (C := RX2) (T := TX2) (N := 17) hx hb ht iX2 tyX2 tyX2_ok nmX2 hown hK hP hD hS 0 rfl rfl 5 (by decide) (ht _ w_217) (fun _ h9 => h9) rfl (by decide +kernel) rfl rfl (Nat.le_of_ble_eq_true rfl) dX2_init_31 (fun H locs hP hD hS => ?_)
  have hP : va_P (dC, dI) vwCl [(h0, .inr (2, [.int 0, .int 0, .int 0, .int 0, .int 0, .int 0, .int 0, .int 0, .int 0, .null, .null, .null, .null, .null, .null, .null, .null]))] H := hP
  have hD : va_D A [(h0, .inr (2, [.int 0, .int 0, .int 0, .int 0, .int 0, .int 0, .int 0, .int 0, .int 0, .null, .null, .null, .null, .null, .null, .null, .null]))] := hD
  refine lv_aload_n hx hb dX2_init_34 rfl (lv_at hl 0 rfl) ?_
  refine lv_iconst (v := 0) hx hb dX2_init_35 (by decide) ?_
  refine va_put (D := (dC, dI)) (ci := 2) (v := .int 0) (ty := .int) (C := RX2) (T := TX2) (N := 17) hx hb ht iX2 tyX2 tyX2_ok nmX2 hown hK hP hD hS 0 rfl rfl 6 (by decide) (ht _ w_222) (fun _ h9 => h9) rfl (by decide +kernel) rfl rfl (Nat.le_of_ble_eq_true rfl) dX2_init_36 (fun H locs hP hD hS => ?_)
  have hP : va_P (dC, dI) vwCl [(h0, .inr (2, [.int 0, .int 0, .int 0, .int 0, .int 0, .int 0, .int 0, .int 0, .int 0, .null, .null, .null, .null, .null, .null, .null, .null]))] H := hP
  have hD : va_D A [(h0, .inr (2, [.int 0, .int 0, .int 0, .int 0, .int 0, .int 0, .int 0, .int 0, .int 0, .null, .null, .null, .null, .null, .null, .null, .null]))] := hD
  refine lv_aload_n hx hb dX2_init_39 rfl (lv_at hl 0 rfl) ?_
  refine lv_iconst (v := 0) hx hb dX2_init_40 (by decide) ?_
  refine va_put (D := (dC, dI)) (ci := 2) (v := .int 0) (ty := .int) (C := RX2) (T := TX2) (N := 17) hx hb ht iX2 tyX2 tyX2_ok nmX2 hown hK hP hD hS 0 rfl rfl 7 (by decide) (ht _ w_225) (fun _ h9 => h9) rfl (by decide +kernel) rfl rfl (Nat.le_of_ble_eq_true rfl) dX2_init_41 (fun H locs hP hD hS => ?_)
  have hP : va_P (dC, dI) vwCl [(h0, .inr (2, [.int 0, .int 0, .int 0, .int 0, .int 0, .int 0, .int 0, .int 0, .int 0, .null, .null, .null, .null, .null, .null, .null, .null]))] H := hP
  have hD : va_D A [(h0, .inr (2, [.int 0, .int 0, .int 0, .int 0, .int 0, .int 0, .int 0, .int 0, .int 0, .null, .null, .null, .null, .null, .null, .null, .null]))] := hD
  refine lv_aload_n hx hb dX2_init_44 rfl (lv_at hl 0 rfl) ?_
  refine lv_iconst (v := 0) hx hb dX2_init_45 (by decide) ?_
  refine va_put (D := (dC, dI)) (ci := 2) (v := .int 0) (ty := .int) (C := RX2) (T := TX2) (N := 17) hx hb ht iX2 tyX2 tyX2_ok nmX2 hown hK hP hD hS 0 rfl rfl 8 (by decide) (ht _ w_229) (fun _ h9 => h9) rfl (by decide +kernel) rfl rfl (Nat.le_of_ble_eq_true rfl) dX2_init_46 (fun H locs hP hD hS => ?_)
  have hP : va_P (dC, dI) vwCl [(h0, .inr (2, [.int 0, .int 0, .int 0, .int 0, .int 0, .int 0, .int 0, .int 0, .int 0, .null, .null, .null, .null, .null, .null, .null, .null]))] H := hP
  have hD : va_D A [(h0, .inr (2, [.int 0, .int 0, .int 0, .int 0, .int 0, .int 0, .int 0, .int 0, .int 0, .null, .null, .null, .null, .null, .null, .null, .null]))] := hD
  refine lv_aload_n hx hb dX2_init_49 rfl (lv_at hl 0 rfl) ?_
  refine lv_iconst (v := 5) hx hb dX2_init_50 (by decide) ?_
  refine va_newa (atype := .int) (ty := .int) (a0 := (5, .inl (fun _ => 0))) hx hb (ht _ w_170) rfl hK hP hD hS hA (fun _ => rfl) (by decide) (by decide) (by decide) (Nat.le_of_ble_eq_true rfl) (Nat.le_of_ble_eq_true rfl) dX2_init_51 (fun q_1 cA H hK1 hP hD hS => ?_)
  have ecA := tyI_one hK1
  subst ecA
  have hP : va_P (dC, dI) vwCl [(h0, .inr (2, [.int 0, .int 0, .int 0, .int 0, .int 0, .int 0, .int 0, .int 0, .int 0, .null, .null, .null, .null, .null, .null, .null, .null])), (q_1, .inl (cI, 5, .inl (fun _ => 0)))] H := hP
  have hD : va_D A [(h0, .inr (2, [.int 0, .int 0, .int 0, .int 0, .int 0, .int 0, .int 0, .int 0, .int 0, .null, .null, .null, .null, .null, .null, .null, .null])), (q_1, .inl (cI, 5, .inl (fun _ => 0)))] := hD
  refine W.widen (k := 1) (n := 5) (Nat.le_of_ble_eq_true rfl) (Nat.le_of_ble_eq_true rfl) ?_
  refine va_putF (D := (dC, dI)) (ci := 2) (v := .ref q_1) (ty := .array .int) (C := RX2) (T := TX2) (N := 17) hx hb ht iX2 tyX2 tyX2_ok nmX2 hown hK hP hD hS 0 rfl rfl 9 (by decide) (ht _ w_231) (fun _ h9 => h9) rfl hin rfl (by decide +kernel) rfl rfl (Nat.le_of_ble_eq_true rfl) dX2_init_53 (fun H locs hP hD hS => ?_)
  have hP : va_P (dC, dI) vwCl [(h0, .inr (2, [.int 0, .int 0, .int 0, .int 0, .int 0, .int 0, .int 0, .int 0, .int 0, .ref q_1, .null, .null, .null, .null, .null, .null, .null])), (q_1, .inl (cI, 5, .inl (fun _ => 0)))] H := hP
  have hD : va_D A [(h0, .inr (2, [.int 0, .int 0, .int 0, .int 0, .int 0, .int 0, .int 0, .int 0, .int 0, .ref q_1, .null, .null, .null, .null, .null, .null, .null])), (q_1, .inl (cI, 5, .inl (fun _ => 0)))] := hD
  refine lv_aload_n hx hb dX2_init_56 rfl (lv_at hl 0 rfl) ?_
  refine lv_iconst (v := 5) hx hb dX2_init_57 (by decide) ?_
  refine va_newa (atype := .int) (ty := .int) (a0 := (5, .inl (fun _ => 0))) hx hb (ht _ w_170) rfl hK hP hD hS hA (fun _ => rfl) (by decide) (by decide) (by decide) (Nat.le_of_ble_eq_true rfl) (Nat.le_of_ble_eq_true rfl) dX2_init_58 (fun q_2 cA H hK1 hP hD hS => ?_)
  have ecA := tyI_one hK1
  subst ecA
  have hP : va_P (dC, dI) vwCl [(h0, .inr (2, [.int 0, .int 0, .int 0, .int 0, .int 0, .int 0, .int 0, .int 0, .int 0, .ref q_1, .null, .null, .null, .null, .null, .null, .null])), (q_1, .inl (cI, 5, .inl (fun _ => 0))), (q_2, .inl (cI, 5, .inl (fun _ => 0)))] H := hP
  have hD : va_D A [(h0, .inr (2, [.int 0, .int 0, .int 0, .int 0, .int 0, .int 0, .int 0, .int 0, .int 0, .ref q_1, .null, .null, .null, .null, .null, .null, .null])), (q_1, .inl (cI, 5, .inl (fun _ => 0))), (q_2, .inl (cI, 5, .inl (fun _ => 0)))] := hD
  refine W.widen (k := 2) (n := 10) (Nat.le_of_ble_eq_true rfl) (Nat.le_of_ble_eq_true rfl) ?_
  refine va_putF (D := (dC, dI)) (ci := 2) (v := .ref q_2) (ty := .array .int) (C := RX2) (T := TX2) (N := 17) hx hb ht iX2 tyX2 tyX2_ok nmX2 hown hK hP hD hS 0 rfl rfl 10 (by decide) (ht _ w_235) (fun _ h9 => h9) rfl hin rfl (by decide +kernel) rfl rfl (Nat.le_of_ble_eq_true rfl) dX2_init_60 (fun H locs hP hD hS => ?_)
  have hP : va_P (dC, dI) vwCl [(h0, .inr (2, [.int 0, .int 0, .int 0, .int 0, .int 0, .int 0, .int 0, .int 0, .int 0, .ref q_1, .ref q_2, .null, .null, .null, .null, .null, .null])), (q_1, .inl (cI, 5, .inl (fun _ => 0))), (q_2, .inl (cI, 5, .inl (fun _ => 0)))] H := hP
  have hD : va_D A [(h0, .inr (2, [.int 0, .int 0, .int 0, .int 0, .int 0, .int 0, .int 0, .int 0, .int 0, .ref q_1, .ref q_2, .null, .null, .null, .null, .null, .null])), (q_1, .inl (cI, 5, .inl (fun _ => 0))), (q_2, .inl (cI, 5, .inl (fun _ => 0)))] := hD
  refine lv_aload_n hx hb dX2_init_63 rfl (lv_at hl 0 rfl) ?_
  refine lv_iconst (v := 5) hx hb dX2_init_64 (by decide) ?_
  refine va_newa (atype := .int) (ty := .int) (a0 := (5, .inl (fun _ => 0))) hx hb (ht _ w_170) rfl hK hP hD hS hA (fun _ => rfl) (by decide) (by decide) (by decide) (Nat.le_of_ble_eq_true rfl) (Nat.le_of_ble_eq_true rfl) dX2_init_65 (fun q_3 cA H hK1 hP hD hS => ?_)
  have ecA := tyI_one hK1
  subst ecA
  have hP : va_P (dC, dI) vwCl [(h0, .inr (2, [.int 0, .int 0, .int 0, .int 0, .int 0, .int 0, .int 0, .int 0, .int 0, .ref q_1, .ref q_2, .null, .null, .null, .null, .null, .null])), (q_1, .inl (cI, 5, .inl (fun _ => 0))), (q_2, .inl (cI, 5, .inl (fun _ => 0))), (q_3, .inl (cI, 5, .inl (fun _ => 0)))] H := hP
  have hD : va_D A [(h0, .inr (2, [.int 0, .int 0, .int 0, .int 0, .int 0, .int 0, .int 0, .int 0, .int 0, .ref q_1, .ref q_2, .null, .null, .null, .null, .null, .null])), (q_1, .inl (cI, 5, .inl (fun _ => 0))), (q_2, .inl (cI, 5, .inl (fun _ => 0))), (q_3, .inl (cI, 5, .inl (fun _ => 0)))] := hD
  refine W.widen (k := 3) (n := 15) (Nat.le_of_ble_eq_true rfl) (Nat.le_of_ble_eq_true rfl) ?_
  refine va_putF (D := (dC, dI)) (ci := 2) (v := .ref q_3) (ty := .array .int) (C := RX2) (T := TX2) (N := 17) hx hb ht iX2 tyX2 tyX2_ok nmX2 hown hK hP hD hS 0 rfl rfl 11 (by decide) (ht _ w_239) (fun _ h9 => h9) rfl hin rfl (by decide +kernel) rfl rfl (Nat.le_of_ble_eq_true rfl) dX2_init_67 (fun H locs hP hD hS => ?_)
  have hP : va_P (dC, dI) vwCl [(h0, .inr (2, [.int 0, .int 0, .int 0, .int 0, .int 0, .int 0, .int 0, .int 0, .int 0, .ref q_1, .ref q_2, .ref q_3, .null, .null, .null, .null, .null])), (q_1, .inl (cI, 5, .inl (fun _ => 0))), (q_2, .inl (cI, 5, .inl (fun _ => 0))), (q_3, .inl (cI, 5, .inl (fun _ => 0)))] H := hP
  have hD : va_D A [(h0, .inr (2, [.int 0, .int 0, .int 0, .int 0, .int 0, .int 0, .int 0, .int 0, .int 0, .ref q_1, .ref q_2, .ref q_3, .null, .null, .null, .null, .null])), (q_1, .inl (cI, 5, .inl (fun _ => 0))), (q_2, .inl (cI, 5, .inl (fun _ => 0))), (q_3, .inl (cI, 5, .inl (fun _ => 0)))] := hD
  refine lv_aload_n hx hb dX2_init_70 rfl (lv_at hl 0 rfl) ?_
  refine lv_bipush (v := 30) hx hb dX2_init_71 (by decide) ?_
  refine va_newa (atype := .int) (ty := .int) (a0 := (30, .inl (fun _ => 0))) hx hb (ht _ w_170) rfl hK hP hD hS hA (fun _ => rfl) (by decide) (by decide) (by decide) (Nat.le_of_ble_eq_true rfl) (Nat.le_of_ble_eq_true rfl) dX2_init_73 (fun q_4 cA H hK1 hP hD hS => ?_)
  have ecA := tyI_one hK1
  subst ecA
  have hP : va_P (dC, dI) vwCl [(h0, .inr (2, [.int 0, .int 0, .int 0, .int 0, .int 0, .int 0, .int 0, .int 0, .int 0, .ref q_1, .ref q_2, .ref q_3, .null, .null, .null, .null, .null])), (q_1, .inl (cI, 5, .inl (fun _ => 0))), (q_2, .inl (cI, 5, .inl (fun _ => 0))), (q_3, .inl (cI, 5, .inl (fun _ => 0))), (q_4, .inl (cI, 30, .inl (fun _ => 0)))] H := hP
  have hD : va_D A [(h0, .inr (2, [.int 0, .int 0, .int 0, .int 0, .int 0, .int 0, .int 0, .int 0, .int 0, .ref q_1, .ref q_2, .ref q_3, .null, .null, .null, .null, .null])), (q_1, .inl (cI, 5, .inl (fun _ => 0))), (q_2, .inl (cI, 5, .inl (fun _ => 0))), (q_3, .inl (cI, 5, .inl (fun _ => 0))), (q_4, .inl (cI, 30, .inl (fun _ => 0)))] := hD
  refine W.widen (k := 4) (n := 45) (Nat.le_of_ble_eq_true rfl) (Nat.le_of_ble_eq_true rfl) ?_
  refine va_putF (D := (dC, dI)) (ci := 2) (v := .ref q_4) (ty := .array .int) (C := RX2) (T := TX2) (N := 17) hx hb ht iX2 tyX2 tyX2_ok nmX2 hown hK hP hD hS 0 rfl rfl 12 (by decide) (ht _ w_242) (fun _ h9 => h9) rfl hin rfl (by decide +kernel) rfl rfl (Nat.le_of_ble_eq_true rfl) dX2_init_75 (fun H locs hP hD hS => ?_)
  have hP : va_P (dC, dI) vwCl [(h0, .inr (2, [.int 0, .int 0, .int 0, .int 0, .int 0, .int 0, .int 0, .int 0, .int 0, .ref q_1, .ref q_2, .ref q_3, .ref q_4, .null, .null, .null, .null])), (q_1, .inl (cI, 5, .inl (fun _ => 0))), (q_2, .inl (cI, 5, .inl (fun _ => 0))), (q_3, .inl (cI, 5, .inl (fun _ => 0))), (q_4, .inl (cI, 30, .inl (fun _ => 0)))] H := hP
  have hD : va_D A [(h0, .inr (2, [.int 0, .int 0, .int 0, .int 0, .int 0, .int 0, .int 0, .int 0, .int 0, .ref q_1, .ref q_2, .ref q_3, .ref q_4, .null, .null, .null, .null])), (q_1, .inl (cI, 5, .inl (fun _ => 0))), (q_2, .inl (cI, 5, .inl (fun _ => 0))), (q_3, .inl (cI, 5, .inl (fun _ => 0))), (q_4, .inl (cI, 30, .inl (fun _ => 0)))] := hD
  refine lv_aload_n hx hb dX2_init_78 rfl (lv_at hl 0 rfl) ?_
  refine lv_bipush (v := 30) hx hb dX2_init_79 (by decide) ?_
  refine va_newa (atype := .int) (ty := .int) (a0 := (30, .inl (fun _ => 0))) hx hb (ht _ w_170) rfl hK hP hD hS hA (fun _ => rfl) (by decide) (by decide) (by decide) (Nat.le_of_ble_eq_true rfl) (Nat.le_of_ble_eq_true rfl) dX2_init_81 (fun q_5 cA H hK1 hP hD hS => ?_)
  have ecA := tyI_one hK1
  subst ecA
  have hP : va_P (dC, dI) vwCl [(h0, .inr (2, [.int 0, .int 0, .int 0, .int 0, .int 0, .int 0, .int 0, .int 0, .int 0, .ref q_1, .ref q_2, .ref q_3, .ref q_4, .null, .null, .null, .null])), (q_1, .inl (cI, 5, .inl (fun _ => 0))), (q_2, .inl (cI, 5, .inl (fun _ => 0))), (q_3, .inl (cI, 5, .inl (fun _ => 0))), (q_4, .inl (cI, 30, .inl (fun _ => 0))), (q_5, .inl (cI, 30, .inl (fun _ => 0)))] H := hP
  have hD : va_D A [(h0, .inr (2, [.int 0, .int 0, .int 0, .int 0, .int 0, .int 0, .int 0, .int 0, .int 0, .ref q_1, .ref q_2, .ref q_3, .ref q_4, .null, .null, .null, .null])), (q_1, .inl (cI, 5, .inl (fun _ => 0))), (q_2, .inl (cI, 5, .inl (fun _ => 0))), (q_3, .inl (cI, 5, .inl (fun _ => 0))), (q_4, .inl (cI, 30, .inl (fun _ => 0))), (q_5, .inl (cI, 30, .inl (fun _ => 0)))] := hD
  refine W.widen (k := 5) (n := 75) (Nat.le_of_ble_eq_true rfl) (Nat.le_of_ble_eq_true rfl) ?_
  refine va_putF (D := (dC, dI)) (ci := 2) (v := .ref q_5) (ty := .array .int) (C := RX2) (T := TX2) (N := 17) hx hb ht iX2 tyX2 tyX2_ok nmX2 hown hK hP hD hS 0 rfl rfl 13 (by decide) (ht _ w_243) (fun _ h9 => h9) rfl hin rfl (by decide +kernel) rfl rfl (Nat.le_of_ble_eq_true rfl) dX2_init_83 (fun H locs hP hD hS => ?_)
  have hP : va_P (dC, dI) vwCl [(h0, .inr (2, [.int 0, .int 0, .int 0, .int 0, .int 0, .int 0, .int 0, .int 0, .int 0, .ref q_1, .ref q_2, .ref q_3, .ref q_4, .ref q_5, .null, .null, .null])), (q_1, .inl (cI, 5, .inl (fun _ => 0))), (q_2, .inl (cI, 5, .inl (fun _ => 0))), (q_3, .inl (cI, 5, .inl (fun _ => 0))), (q_4, .inl (cI, 30, .inl (fun _ => 0))), (q_5, .inl (cI, 30, .inl (fun _ => 0)))] H := hP
  have hD : va_D A [(h0, .inr (2, [.int 0, .int 0, .int 0, .int 0, .int 0, .int 0, .int 0, .int 0, .int 0, .ref q_1, .ref q_2, .ref q_3, .ref q_4, .ref q_5, .null, .null, .null])), (q_1, .inl (cI, 5, .inl (fun _ => 0))), (q_2, .inl (cI, 5, .inl (fun _ => 0))), (q_3, .inl (cI, 5, .inl (fun _ => 0))), (q_4, .inl (cI, 30, .inl (fun _ => 0))), (q_5, .inl (cI, 30, .inl (fun _ => 0)))] := hD
  refine lv_aload_n hx hb dX2_init_86 rfl (lv_at hl 0 rfl) ?_
  refine lv_bipush (v := 30) hx hb dX2_init_87 (by decide) ?_
  refine va_newa (atype := .int) (ty := .int) (a0 := (30, .inl (fun _ => 0))) hx hb (ht _ w_170) rfl hK hP hD hS hA (fun _ => rfl) (by decide) (by decide) (by decide) (Nat.le_of_ble_eq_true rfl) (Nat.le_of_ble_eq_true rfl) dX2_init_89 (fun q_6 cA H hK1 hP hD hS => ?_)
  have ecA := tyI_one hK1
  subst ecA
  have hP : va_P (dC, dI) vwCl [(h0, .inr (2, [.int 0, .int 0, .int 0, .int 0, .int 0, .int 0, .int 0, .int 0, .int 0, .ref q_1, .ref q_2, .ref q_3, .ref q_4, .ref q_5, .null, .null, .null])), (q_1, .inl (cI, 5, .inl (fun _ => 0))), (q_2, .inl (cI, 5, .inl (fun _ => 0))), (q_3, .inl (cI, 5, .inl (fun _ => 0))), (q_4, .inl (cI, 30, .inl (fun _ => 0))), (q_5, .inl (cI, 30, .inl (fun _ => 0))), (q_6, .inl (cI, 30, .inl (fun _ => 0)))] H := hP
  have hD : va_D A [(h0, .inr (2, [.int 0, .int 0, .int 0, .int 0, .int 0, .int 0, .int 0, .int 0, .int 0, .ref q_1, .ref q_2, .ref q_3, .ref q_4, .ref q_5, .null, .null, .null])), (q_1, .inl (cI, 5, .inl (fun _ => 0))), (q_2, .inl (cI, 5, .inl (fun _ => 0))), (q_3, .inl (cI, 5, .inl (fun _ => 0))), (q_4, .inl (cI, 30, .inl (fun _ => 0))), (q_5, .inl (cI, 30, .inl (fun _ => 0))), (q_6, .inl (cI, 30, .inl (fun _ => 0)))] := hD
  refine W.widen (k := 6) (n := 105) (Nat.le_of_ble_eq_true rfl) (Nat.le_of_ble_eq_true rfl) ?_
  refine va_putF (D := (dC, dI)) (ci := 2) (v := .ref q_6) (ty := .array .int) (C := RX2) (T := TX2) (N := 17) hx hb ht iX2 tyX2 tyX2_ok nmX2 hown hK hP hD hS 0 rfl rfl 14 (by decide) (ht _ w_244) (fun _ h9 => h9) rfl hin rfl (by decide +kernel) rfl rfl (Nat.le_of_ble_eq_true rfl) dX2_init_91 (fun H locs hP hD hS => ?_)
  have hP : va_P (dC, dI) vwCl [(h0, .inr (2, [.int 0, .int 0, .int 0, .int 0, .int 0, .int 0, .int 0, .int 0, .int 0, .ref q_1, .ref q_2, .ref q_3, .ref q_4, .ref q_5, .ref q_6, .null, .null])), (q_1, .inl (cI, 5, .inl (fun _ => 0))), (q_2, .inl (cI, 5, .inl (fun _ => 0))), (q_3, .inl (cI, 5, .inl (fun _ => 0))), (q_4, .inl (cI, 30, .inl (fun _ => 0))), (q_5, .inl (cI, 30, .inl (fun _ => 0))), (q_6, .inl (cI, 30, .inl (fun _ => 0)))] H := hP
  have hD : va_D A [(h0, .inr (2, [.int 0, .int 0, .int 0, .int 0, .int 0, .int 0, .int 0, .int 0, .int 0, .ref q_1, .ref q_2, .ref q_3, .ref q_4, .ref q_5, .ref q_6, .null, .null])), (q_1, .inl (cI, 5, .inl (fun _ => 0))), (q_2, .inl (cI, 5, .inl (fun _ => 0))), (q_3, .inl (cI, 5, .inl (fun _ => 0))), (q_4, .inl (cI, 30, .inl (fun _ => 0))), (q_5, .inl (cI, 30, .inl (fun _ => 0))), (q_6, .inl (cI, 30, .inl (fun _ => 0)))] := hD
  refine lv_aload_n hx hb dX2_init_94 rfl (lv_at hl 0 rfl) ?_
  refine lv_iconst (v := 5) hx hb dX2_init_95 (by decide) ?_
  refine va_newa (atype := .int) (ty := .int) (a0 := (5, .inl (fun _ => 0))) hx hb (ht _ w_170) rfl hK hP hD hS hA (fun _ => rfl) (by decide) (by decide) (by decide) (Nat.le_of_ble_eq_true rfl) (Nat.le_of_ble_eq_true rfl) dX2_init_96 (fun q_7 cA H hK1 hP hD hS => ?_)
  have ecA := tyI_one hK1
  subst ecA
  have hP : va_P (dC, dI) vwCl [(h0, .inr (2, [.int 0, .int 0, .int 0, .int 0, .int 0, .int 0, .int 0, .int 0, .int 0, .ref q_1, .ref q_2, .ref q_3, .ref q_4, .ref q_5, .ref q_6, .null, .null])), (q_1, .inl (cI, 5, .inl (fun _ => 0))), (q_2, .inl (cI, 5, .inl (fun _ => 0))), (q_3, .inl (cI, 5, .inl (fun _ => 0))), (q_4, .inl (cI, 30, .inl (fun _ => 0))), (q_5, .inl (cI, 30, .inl (fun _ => 0))), (q_6, .inl (cI, 30, .inl (fun _ => 0))), (q_7, .inl (cI, 5, .inl (fun _ => 0)))] H := hP
  have hD : va_D A [(h0, .inr (2, [.int 0, .int 0, .int 0, .int 0, .int 0, .int 0, .int 0, .int 0, .int 0, .ref q_1, .ref q_2, .ref q_3, .ref q_4, .ref q_5, .ref q_6, .null, .null])), (q_1, .inl (cI, 5, .inl (fun _ => 0))), (q_2, .inl (cI, 5, .inl (fun _ => 0))), (q_3, .inl (cI, 5, .inl (fun _ => 0))), (q_4, .inl (cI, 30, .inl (fun _ => 0))), (q_5, .inl (cI, 30, .inl (fun _ => 0))), (q_6, .inl (cI, 30, .inl (fun _ => 0))), (q_7, .inl (cI, 5, .inl (fun _ => 0)))] := hD
  refine W.widen (k := 7) (n := 110) (Nat.le_of_ble_eq_true rfl) (Nat.le_of_ble_eq_true rfl) ?_
  refine va_putF (D := (dC, dI)) (ci := 2) (v := .ref q_7) (ty := .array .int) (C := RX2) (T := TX2) (N := 17) hx hb ht iX2 tyX2 tyX2_ok nmX2 hown hK hP hD hS 0 rfl rfl 15 (by decide) (ht _ w_245) (fun _ h9 => h9) rfl hin rfl (by decide +kernel) rfl rfl (Nat.le_of_ble_eq_true rfl) dX2_init_98 (fun H locs hP hD hS => ?_)
  have hP : va_P (dC, dI) vwCl [(h0, .inr (2, [.int 0, .int 0, .int 0, .int 0, .int 0, .int 0, .int 0, .int 0, .int 0, .ref q_1, .ref q_2, .ref q_3, .ref q_4, .ref q_5, .ref q_6, .ref q_7, .null])), (q_1, .inl (cI, 5, .inl (fun _ => 0))), (q_2, .inl (cI, 5, .inl (fun _ => 0))), (q_3, .inl (cI, 5, .inl (fun _ => 0))), (q_4, .inl (cI, 30, .inl (fun _ => 0))), (q_5, .inl (cI, 30, .inl (fun _ => 0))), (q_6, .inl (cI, 30, .inl (fun _ => 0))), (q_7, .inl (cI, 5, .inl (fun _ => 0)))] H := hP
  have hD : va_D A [(h0, .inr (2, [.int 0, .int 0, .int 0, .int 0, .int 0, .int 0, .int 0, .int 0, .int 0, .ref q_1, .ref q_2, .ref q_3, .ref q_4, .ref q_5, .ref q_6, .ref q_7, .null])), (q_1, .inl (cI, 5, .inl (fun _ => 0))), (q_2, .inl (cI, 5, .inl (fun _ => 0))), (q_3, .inl (cI, 5, .inl (fun _ => 0))), (q_4, .inl (cI, 30, .inl (fun _ => 0))), (q_5, .inl (cI, 30, .inl (fun _ => 0))), (q_6, .inl (cI, 30, .inl (fun _ => 0))), (q_7, .inl (cI, 5, .inl (fun _ => 0)))] := hD
  refine lv_aload_n hx hb dX2_init_101 rfl (lv_at hl 0 rfl) ?_
  refine lv_iconst (v := 5) hx hb dX2_init_102 (by decide) ?_
  refine va_newa (atype := .int) (ty := .int) (a0 := (5, .inl (fun _ => 0))) hx hb (ht _ w_170) rfl hK hP hD hS hA (fun _ => rfl) (by decide) (by decide) (by decide) (Nat.le_of_ble_eq_true rfl) (Nat.le_of_ble_eq_true rfl) dX2_init_103 (fun q_8 cA H hK1 hP hD hS => ?_)
  have ecA := tyI_one hK1
  subst ecA
  have hP : va_P (dC, dI) vwCl [(h0, .inr (2, [.int 0, .int 0, .int 0, .int 0, .int 0, .int 0, .int 0, .int 0, .int 0, .ref q_1, .ref q_2, .ref q_3, .ref q_4, .ref q_5, .ref q_6, .ref q_7, .null])), (q_1, .inl (cI, 5, .inl (fun _ => 0))), (q_2, .inl (cI, 5, .inl (fun _ => 0))), (q_3, .inl (cI, 5, .inl (fun _ => 0))), (q_4, .inl (cI, 30, .inl (fun _ => 0))), (q_5, .inl (cI, 30, .inl (fun _ => 0))), (q_6, .inl (cI, 30, .inl (fun _ => 0))), (q_7, .inl (cI, 5, .inl (fun _ => 0))), (q_8, .inl (cI, 5, .inl (fun _ => 0)))] H := hP
  have hD : va_D A [(h0, .inr (2, [.int 0, .int 0, .int 0, .int 0, .int 0, .int 0, .int 0, .int 0, .int 0, .ref q_1, .ref q_2, .ref q_3, .ref q_4, .ref q_5, .ref q_6, .ref q_7, .null])), (q_1, .inl (cI, 5, .inl (fun _ => 0))), (q_2, .inl (cI, 5, .inl (fun _ => 0))), (q_3, .inl (cI, 5, .inl (fun _ => 0))), (q_4, .inl (cI, 30, .inl (fun _ => 0))), (q_5, .inl (cI, 30, .inl (fun _ => 0))), (q_6, .inl (cI, 30, .inl (fun _ => 0))), (q_7, .inl (cI, 5, .inl (fun _ => 0))), (q_8, .inl (cI, 5, .inl (fun _ => 0)))] := hD
  refine W.widen (k := 8) (n := 115) (Nat.le_of_ble_eq_true rfl) (Nat.le_of_ble_eq_true rfl) ?_
  refine va_putF (D := (dC, dI)) (ci := 2) (v := .ref q_8) (ty := .array .int) (C := RX2) (T := TX2) (N := 17) hx hb ht iX2 tyX2 tyX2_ok nmX2 hown hK hP hD hS 0 rfl rfl 16 (by decide) (ht _ w_246) (fun _ h9 => h9) rfl hin rfl (by decide +kernel) rfl rfl (Nat.le_of_ble_eq_true rfl) dX2_init_105 (fun H locs hP hD hS => ?_)
  have hP : va_P (dC, dI) vwCl [(h0, .inr (2, [.int 0, .int 0, .int 0, .int 0, .int 0, .int 0, .int 0, .int 0, .int 0, .ref q_1, .ref q_2, .ref q_3, .ref q_4, .ref q_5, .ref q_6, .ref q_7, .ref q_8])), (q_1, .inl (cI, 5, .inl (fun _ => 0))), (q_2, .inl (cI, 5, .inl (fun _ => 0))), (q_3, .inl (cI, 5, .inl (fun _ => 0))), (q_4, .inl (cI, 30, .inl (fun _ => 0))), (q_5, .inl (cI, 30, .inl (fun _ => 0))), (q_6, .inl (cI, 30, .inl (fun _ => 0))), (q_7, .inl (cI, 5, .inl (fun _ => 0))), (q_8, .inl (cI, 5, .inl (fun _ => 0)))] H := hP
  have hD : va_D A [(h0, .inr (2, [.int 0, .int 0, .int 0, .int 0, .int 0, .int 0, .int 0, .int 0, .int 0, .ref q_1, .ref q_2, .ref q_3, .ref q_4, .ref q_5, .ref q_6, .ref q_7, .ref q_8])), (q_1, .inl (cI, 5, .inl (fun _ => 0))), (q_2, .inl (cI, 5, .inl (fun _ => 0))), (q_3, .inl (cI, 5, .inl (fun _ => 0))), (q_4, .inl (cI, 30, .inl (fun _ => 0))), (q_5, .inl (cI, 30, .inl (fun _ => 0))), (q_6, .inl (cI, 30, .inl (fun _ => 0))), (q_7, .inl (cI, 5, .inl (fun _ => 0))), (q_8, .inl (cI, 5, .inl (fun _ => 0)))] := hD
  have hP9 := hP.sub (ws' := [(h0, .inr (2, [.int 0, .int 0, .int 0, .int 0, .int 0, .int 0, .int 0, .int 0, .int 0, .ref q_1, .ref q_2, .ref q_3, .ref q_4, .ref q_5, .ref q_6, .ref q_7, .ref q_8])), (q_1, .inl (cI, 5, .inl (fun _ => 0))), (q_2, .inl (cI, 5, .inl (fun _ => 0))), (q_3, .inl (cI, 5, .inl (fun _ => 0))), (q_4, .inl (cI, 30, .inl (fun _ => 0))), (q_5, .inl (cI, 30, .inl (fun _ => 0))), (q_6, .inl (cI, 30, .inl (fun _ => 0))), (q_7, .inl (cI, 5, .inl (fun _ => 0))), (q_8, .inl (cI, 5, .inl (fun _ => 0)))]) [0, 1, 2, 3, 4, 5, 6, 7, 8] rfl
  have hD9 := hD.sub (ws' := [(h0, .inr (2, [.int 0, .int 0, .int 0, .int 0, .int 0, .int 0, .int 0, .int 0, .int 0, .ref q_1, .ref q_2, .ref q_3, .ref q_4, .ref q_5, .ref q_6, .ref q_7, .ref q_8])), (q_1, .inl (cI, 5, .inl (fun _ => 0))), (q_2, .inl (cI, 5, .inl (fun _ => 0))), (q_3, .inl (cI, 5, .inl (fun _ => 0))), (q_4, .inl (cI, 30, .inl (fun _ => 0))), (q_5, .inl (cI, 30, .inl (fun _ => 0))), (q_6, .inl (cI, 30, .inl (fun _ => 0))), (q_7, .inl (cI, 5, .inl (fun _ => 0))), (q_8, .inl (cI, 5, .inl (fun _ => 0)))]) [0, 1, 2, 3, 4, 5, 6, 7, 8] (by decide) rfl
  refine W.widen (k := 8) (n := 115) (Nat.le_of_ble_eq_true rfl) (Nat.le_of_ble_eq_true rfl) ?_
  exact W.vret hx hb hr (fun t ht hW => ⟨⟨(fun k => match k with | 0 => q_1 | 1 => q_2 | 2 => q_3 | 3 => q_4 | 4 => q_5 | 5 => q_6 | 6 => q_7 | _ => q_8), rfl, trivial, ⟨by rw [ht]; exact hP9, hD9⟩⟩, hS.F ht⟩) hS.2.2 dX2_init_108
set_option maxHeartbeats 4000000 in
set_option maxRecDepth 100000 in
theorem k_X3_init (l : Launch) (dC : Nat → ClassId) (dI : Nat → Nat → Nat) (cB cI cJ cZ cL : ClassId) (sz : Nat) (h0 : Nat)  : Met l yX3_init (wy yX3_init cX3_init 1 none) ({ frames := 1, cells := 3, slots := 248, locals := 40 }) (va_Pc [.ref h0] (fun U => U.heap.size = sz ∧ va_P (dC, dI) vwCl [(h0, .inr (3, [.null, .null, .null]))] U.heap ∧ va_K (dC, dI) vwCl (tyL cB cI cJ cZ cL) U ∧ va_D (fun _ => True) [(h0, .inr (3, [.null, .null, .null]))])) (va_Qv (fun u => ∀ j, j < 4 → u.2 j = -1) (fun (u : (Nat → Nat) × (Nat → Int32)) t => va_P (dC, dI) vwCl [(h0, .inr (3, [.ref (u.1 0), .ref (u.1 1), .ref (u.1 2)])), ((u.1 0), .inl (cJ, 240, .inr (.inl (fun _ => 0)))), ((u.1 1), .inl (cI, 4, .inl (fun _ => 0))), ((u.1 2), .inl (cI, 4, .inl u.2))] t.heap ∧ va_D (va_A [(h0, .inr (3, [.null, .null, .null]))] sz) [(h0, .inr (3, [.ref (u.1 0), .ref (u.1 1), .ref (u.1 2)])), ((u.1 0), .inl (cJ, 240, .inr (.inl (fun _ => 0)))), ((u.1 1), .inl (cI, 4, .inl (fun _ => 0))), ((u.1 2), .inl (cI, 4, .inl u.2))]) (va_A [(h0, .inr (3, [.null, .null, .null]))] sz)) 3 248 (va_A [(h0, .inr (3, [.null, .null, .null]))] sz) := by
  refine Met.ofW (cc := cX3_init) (maxL := 1) (ret := none) (by decide) rfl ?_
  intro p e s m args below meth c s₁ B hml hv
  obtain ⟨rfl, hsz, hP, hK, hD0⟩ := hv
  have hx := B.exec
  have hb := B.bytes
  have hr := B.returns
  have ht : ∀ w ∈ lw_ok, w.before _ s = true := fun w h => atoms_spec (ws := wy yX3_init cX3_init 1 none) B.pre w (List.mem_cons_of_mem _ h)
  have hown : s.vm.findClass RX3 = some m.cls := findClass_of_methodNamed B.named
  have hlocks := B.notSynchronized
  have hin : meth.name = "<init>" := (name_of_methodNamed B.named B.method).1
  subst hsz
  have hD := hD0.self (sz := s.heap.size)
  generalize hAe : va_A [(h0, .inr (3, [.null, .null, .null]))] s.heap.size = A at hD ⊢
  have hA : ∀ q : Nat, s.heap.size ≤ q → A q := fun q h => by rw [← hAe]; exact Or.inr h
  have hS : va_S A s.heap s.heap [] := va_S.rf
  have hl := lv_entry ([.ref h0]) (n := 1) (Nat.le_of_ble_eq_true rfl)
  rw [lg_entry_eq]
  generalize (lg_sl ([.ref h0]) ++ List.replicate (1 - (lg_sl ([.ref h0])).length) Slot.unset).toArray = ls at hl ⊢
  have hl : lv_has ls 1 [(0, .ref h0)] := hl
  have hP : va_P (dC, dI) vwCl [(h0, .inr (3, [.null, .null, .null]))] s.heap := hP
  have hD : va_D A [(h0, .inr (3, [.null, .null, .null]))] := hD
  refine lv_aload_n hx hb dX3_init_0 rfl (lv_at hl 0 rfl) ?_
  refine W.objInit hx hb hown (ht _ w_288) (ht _ w_129) (ht _ w_130) rfl (by rw [hml]; exact hl.1) rfl dX3_init_1 (Nat.le_of_ble_eq_true rfl) (Nat.le_of_ble_eq_true rfl) ?_
  refine W.eq (g2 := F0 m 4 ls []) rfl ?_
  refine lv_aload_n hx hb dX3_init_4 rfl (lv_at hl 0 rfl) ?_
  refine lv_sipush (v := 240) hx hb dX3_init_5 (by decide) ?_
  refine va_newa (atype := .long) (ty := .long) (a0 := (240, .inr (.inl (fun _ => 0)))) hx hb (ht _ w_301) rfl hK hP hD hS hA (fun _ => rfl) (by decide) (by decide) (by decide) (Nat.le_of_ble_eq_true rfl) (Nat.le_of_ble_eq_true rfl) dX3_init_8 (fun q_1 cA H hK1 hP hD hS => ?_)
  have ecA := tyJ_one hK1
  subst ecA
  have hP : va_P (dC, dI) vwCl [(h0, .inr (3, [.null, .null, .null])), (q_1, .inl (cJ, 240, .inr (.inl (fun _ => 0))))] H := hP
  have hD : va_D A [(h0, .inr (3, [.null, .null, .null])), (q_1, .inl (cJ, 240, .inr (.inl (fun _ => 0))))] := hD
  refine W.widen (k := 1) (n := 240) (Nat.le_of_ble_eq_true rfl) (Nat.le_of_ble_eq_true rfl) ?_
  refine va_putF (D := (dC, dI)) (ci := 3) (v := .ref q_1) (ty := .array .long) (C := RX3) (T := TX3) (N := 3) hx hb ht iX3 tyX3 tyX3_ok nmX3 hown hK hP hD hS 0 rfl rfl 0 (by decide) (ht _ w_289) (fun _ h9 => h9) rfl hin rfl (by decide +kernel) rfl rfl (Nat.le_of_ble_eq_true rfl) dX3_init_10 (fun H locs hP hD hS => ?_)
  have hP : va_P (dC, dI) vwCl [(h0, .inr (3, [.ref q_1, .null, .null])), (q_1, .inl (cJ, 240, .inr (.inl (fun _ => 0))))] H := hP
  have hD : va_D A [(h0, .inr (3, [.ref q_1, .null, .null])), (q_1, .inl (cJ, 240, .inr (.inl (fun _ => 0))))] := hD
  refine lv_aload_n hx hb dX3_init_13 rfl (lv_at hl 0 rfl) ?_
  refine lv_iconst (v := 4) hx hb dX3_init_14 (by decide) ?_
  refine va_newa (atype := .int) (ty := .int) (a0 := (4, .inl (fun _ => 0))) hx hb (ht _ w_170) rfl hK hP hD hS hA (fun _ => rfl) (by decide) (by decide) (by decide) (Nat.le_of_ble_eq_true rfl) (Nat.le_of_ble_eq_true rfl) dX3_init_15 (fun q_2 cA H hK1 hP hD hS => ?_)
  have ecA := tyI_one hK1
  subst ecA
  have hP : va_P (dC, dI) vwCl [(h0, .inr (3, [.ref q_1, .null, .null])), (q_1, .inl (cJ, 240, .inr (.inl (fun _ => 0)))), (q_2, .inl (cI, 4, .inl (fun _ => 0)))] H := hP
  have hD : va_D A [(h0, .inr (3, [.ref q_1, .null, .null])), (q_1, .inl (cJ, 240, .inr (.inl (fun _ => 0)))), (q_2, .inl (cI, 4, .inl (fun _ => 0)))] := hD
  refine W.widen (k := 2) (n := 244) (Nat.le_of_ble_eq_true rfl) (Nat.le_of_ble_eq_true rfl) ?_
  refine va_putF (D := (dC, dI)) (ci := 3) (v := .ref q_2) (ty := .array .int) (C := RX3) (T := TX3) (N := 3) hx hb ht iX3 tyX3 tyX3_ok nmX3 hown hK hP hD hS 0 rfl rfl 1 (by decide) (ht _ w_290) (fun _ h9 => h9) rfl hin rfl (by decide +kernel) rfl rfl (Nat.le_of_ble_eq_true rfl) dX3_init_17 (fun H locs hP hD hS => ?_)
  have hP : va_P (dC, dI) vwCl [(h0, .inr (3, [.ref q_1, .ref q_2, .null])), (q_1, .inl (cJ, 240, .inr (.inl (fun _ => 0)))), (q_2, .inl (cI, 4, .inl (fun _ => 0)))] H := hP
  have hD : va_D A [(h0, .inr (3, [.ref q_1, .ref q_2, .null])), (q_1, .inl (cJ, 240, .inr (.inl (fun _ => 0)))), (q_2, .inl (cI, 4, .inl (fun _ => 0)))] := hD
  refine lv_aload_n hx hb dX3_init_20 rfl (lv_at hl 0 rfl) ?_
  refine lv_iconst (v := 4) hx hb dX3_init_21 (by decide) ?_
  refine va_newa (atype := .int) (ty := .int) (a0 := (4, .inl (fun _ => 0))) hx hb (ht _ w_170) rfl hK hP hD hS hA (fun _ => rfl) (by decide) (by decide) (by decide) (Nat.le_of_ble_eq_true rfl) (Nat.le_of_ble_eq_true rfl) dX3_init_22 (fun q_3 cA H hK1 hP hD hS => ?_)
  have ecA := tyI_one hK1
  subst ecA
  have hP : va_P (dC, dI) vwCl [(h0, .inr (3, [.ref q_1, .ref q_2, .null])), (q_1, .inl (cJ, 240, .inr (.inl (fun _ => 0)))), (q_2, .inl (cI, 4, .inl (fun _ => 0))), (q_3, .inl (cI, 4, .inl (fun _ => 0)))] H := hP
  have hD : va_D A [(h0, .inr (3, [.ref q_1, .ref q_2, .null])), (q_1, .inl (cJ, 240, .inr (.inl (fun _ => 0)))), (q_2, .inl (cI, 4, .inl (fun _ => 0))), (q_3, .inl (cI, 4, .inl (fun _ => 0)))] := hD
  refine W.widen (k := 3) (n := 248) (Nat.le_of_ble_eq_true rfl) (Nat.le_of_ble_eq_true rfl) ?_
  refine lv_dup hx hb dX3_init_24 rfl ?_
  refine lv_iconst (v := 0) hx hb dX3_init_25 (by decide) ?_
  refine lv_iconst (v := (-1)) hx hb dX3_init_26 (by decide) ?_
  refine va_iast hx hb hK hP hD hS 3 1 rfl rfl (by unfold vp_in; decide) dX3_init_27 (fun H locs hP hD hS => ?_)
  obtain ⟨f_4, ef_4⟩ : ∃ z : Nat → Int32, z = upd (fun _ => 0) (Int32.toNatClampNeg 0) (-1) := ⟨_, rfl⟩
  rw [← ef_4] at hP hD
  have hP : va_P (dC, dI) vwCl [(h0, .inr (3, [.ref q_1, .ref q_2, .null])), (q_1, .inl (cJ, 240, .inr (.inl (fun _ => 0)))), (q_2, .inl (cI, 4, .inl (fun _ => 0))), (q_3, .inl (cI, 4, .inl f_4))] H := hP
  have hD : va_D A [(h0, .inr (3, [.ref q_1, .ref q_2, .null])), (q_1, .inl (cJ, 240, .inr (.inl (fun _ => 0)))), (q_2, .inl (cI, 4, .inl (fun _ => 0))), (q_3, .inl (cI, 4, .inl f_4))] := hD
  refine lv_dup hx hb dX3_init_28 rfl ?_
  refine lv_iconst (v := 1) hx hb dX3_init_29 (by decide) ?_
  refine lv_iconst (v := (-1)) hx hb dX3_init_30 (by decide) ?_
  refine va_iast hx hb hK hP hD hS 3 1 rfl rfl (by unfold vp_in; decide) dX3_init_31 (fun H locs hP hD hS => ?_)
  obtain ⟨f_5, ef_5⟩ : ∃ z : Nat → Int32, z = upd f_4 (Int32.toNatClampNeg 1) (-1) := ⟨_, rfl⟩
  rw [← ef_5] at hP hD
  have hP : va_P (dC, dI) vwCl [(h0, .inr (3, [.ref q_1, .ref q_2, .null])), (q_1, .inl (cJ, 240, .inr (.inl (fun _ => 0)))), (q_2, .inl (cI, 4, .inl (fun _ => 0))), (q_3, .inl (cI, 4, .inl f_5))] H := hP
  have hD : va_D A [(h0, .inr (3, [.ref q_1, .ref q_2, .null])), (q_1, .inl (cJ, 240, .inr (.inl (fun _ => 0)))), (q_2, .inl (cI, 4, .inl (fun _ => 0))), (q_3, .inl (cI, 4, .inl f_5))] := hD
  refine lv_dup hx hb dX3_init_32 rfl ?_
  refine lv_iconst (v := 2) hx hb dX3_init_33 (by decide) ?_
  refine lv_iconst (v := (-1)) hx hb dX3_init_34 (by decide) ?_
  refine va_iast hx hb hK hP hD hS 3 1 rfl rfl (by unfold vp_in; decide) dX3_init_35 (fun H locs hP hD hS => ?_)
  obtain ⟨f_6, ef_6⟩ : ∃ z : Nat → Int32, z = upd f_5 (Int32.toNatClampNeg 2) (-1) := ⟨_, rfl⟩
  rw [← ef_6] at hP hD
  have hP : va_P (dC, dI) vwCl [(h0, .inr (3, [.ref q_1, .ref q_2, .null])), (q_1, .inl (cJ, 240, .inr (.inl (fun _ => 0)))), (q_2, .inl (cI, 4, .inl (fun _ => 0))), (q_3, .inl (cI, 4, .inl f_6))] H := hP
  have hD : va_D A [(h0, .inr (3, [.ref q_1, .ref q_2, .null])), (q_1, .inl (cJ, 240, .inr (.inl (fun _ => 0)))), (q_2, .inl (cI, 4, .inl (fun _ => 0))), (q_3, .inl (cI, 4, .inl f_6))] := hD
  refine lv_dup hx hb dX3_init_36 rfl ?_
  refine lv_iconst (v := 3) hx hb dX3_init_37 (by decide) ?_
  refine lv_iconst (v := (-1)) hx hb dX3_init_38 (by decide) ?_
  refine va_iast hx hb hK hP hD hS 3 1 rfl rfl (by unfold vp_in; decide) dX3_init_39 (fun H locs hP hD hS => ?_)
  obtain ⟨f_7, ef_7⟩ : ∃ z : Nat → Int32, z = upd f_6 (Int32.toNatClampNeg 3) (-1) := ⟨_, rfl⟩
  rw [← ef_7] at hP hD
  have hP : va_P (dC, dI) vwCl [(h0, .inr (3, [.ref q_1, .ref q_2, .null])), (q_1, .inl (cJ, 240, .inr (.inl (fun _ => 0)))), (q_2, .inl (cI, 4, .inl (fun _ => 0))), (q_3, .inl (cI, 4, .inl f_7))] H := hP
  have hD : va_D A [(h0, .inr (3, [.ref q_1, .ref q_2, .null])), (q_1, .inl (cJ, 240, .inr (.inl (fun _ => 0)))), (q_2, .inl (cI, 4, .inl (fun _ => 0))), (q_3, .inl (cI, 4, .inl f_7))] := hD
  refine va_putF (D := (dC, dI)) (ci := 3) (v := .ref q_3) (ty := .array .int) (C := RX3) (T := TX3) (N := 3) hx hb ht iX3 tyX3 tyX3_ok nmX3 hown hK hP hD hS 0 rfl rfl 2 (by decide) (ht _ w_292) (fun _ h9 => h9) rfl hin rfl (by decide +kernel) rfl rfl (Nat.le_of_ble_eq_true rfl) dX3_init_40 (fun H locs hP hD hS => ?_)
  have hP : va_P (dC, dI) vwCl [(h0, .inr (3, [.ref q_1, .ref q_2, .ref q_3])), (q_1, .inl (cJ, 240, .inr (.inl (fun _ => 0)))), (q_2, .inl (cI, 4, .inl (fun _ => 0))), (q_3, .inl (cI, 4, .inl f_7))] H := hP
  have hD : va_D A [(h0, .inr (3, [.ref q_1, .ref q_2, .ref q_3])), (q_1, .inl (cJ, 240, .inr (.inl (fun _ => 0)))), (q_2, .inl (cI, 4, .inl (fun _ => 0))), (q_3, .inl (cI, 4, .inl f_7))] := hD
  have hP9 := hP.sub (ws' := [(h0, .inr (3, [.ref q_1, .ref q_2, .ref q_3])), (q_1, .inl (cJ, 240, .inr (.inl (fun _ => 0)))), (q_2, .inl (cI, 4, .inl (fun _ => 0))), (q_3, .inl (cI, 4, .inl f_7))]) [0, 1, 2, 3] rfl
  have hD9 := hD.sub (ws' := [(h0, .inr (3, [.ref q_1, .ref q_2, .ref q_3])), (q_1, .inl (cJ, 240, .inr (.inl (fun _ => 0)))), (q_2, .inl (cI, 4, .inl (fun _ => 0))), (q_3, .inl (cI, 4, .inl f_7))]) [0, 1, 2, 3] (by decide) rfl
  refine W.widen (k := 3) (n := 248) (Nat.le_of_ble_eq_true rfl) (Nat.le_of_ble_eq_true rfl) ?_
  exact W.vret hx hb hr (fun t ht hW => ⟨⟨((fun k => match k with | 0 => q_1 | 1 => q_2 | _ => q_3), f_7), rfl, (by intro j hj; rcases (show j = 0 ∨ j = 1 ∨ j = 2 ∨ j = 3 by omega) with rfl | rfl | rfl | rfl <;> simp [ef_7, ef_6, ef_5, ef_4, upd]), ⟨by rw [ht]; exact hP9, hD9⟩⟩, hS.F ht⟩) hS.2.2 dX3_init_43
set_option maxHeartbeats 4000000 in
set_option maxRecDepth 100000 in
theorem lp_J7_fillJ {p : Program} {l : Launch} {e : Env} {R : Room} {s : State} {m : MethodId} {args : Array Value} {below : List Frame} {meth : Method} {c : Code} {cells slots : Nat} {Q : State → Prop} {A : Nat → Prop} {H0 : Heap} {dC : Nat → ClassId} {dI : Nat → Nat → Nat} {cB cI cJ cZ cL : ClassId} {q1 : Nat} {p1 : Int32} {J : Nat} (hJ : J ≤ 240) (hx : p.tables.exec = Jvm.exec) (hb : c.code = cJ7_fill_bad5a) (ht : ∀ w ∈ lw_ok, w.before args s = true) (hown : s.vm.findClass RJ7 = some m.cls) (hK : va_K (dC, dI) vwCl (tyL cB cI cJ cZ cL) s)  (kk : ∀ (H : Heap) (locs : List Loc) (ls : Array Slot), va_P (dC, dI) vwCl [(q1, .inl (cJ, 240, .inr (.inl (fun _ => 0))))] H → va_D A [(q1, .inl (cJ, 240, .inr (.inl (fun _ => 0))))] → va_S A H0 H locs → lv_has ls 6 [(5, .int (nI J)), (0, .ref q1), (1, .int p1), (2, .int (nI J)), (3, .long 0)] → W p l e R s m args below meth c H locs cells slots Q (F0 m 27 ls [])) : ∀ (d k : Nat), k ≤ J → J - k < d → ∀ (H : Heap) (locs : List Loc) (ls : Array Slot), va_P (dC, dI) vwCl [(q1, .inl (cJ, 240, .inr (.inl (fun _ => 0))))] H → va_D A [(q1, .inl (cJ, 240, .inr (.inl (fun _ => 0))))] → va_S A H0 H locs → lv_has ls 6 [(5, .int (nI k)), (0, .ref q1), (1, .int p1), (2, .int (nI J)), (3, .long 0)] → W p l e R s m args below meth c H locs cells slots Q (F0 m 10 ls []) := by
  intro d
  induction d with
  | zero => intro k h1 h2; exact absurd h2 (by omega)
  | succ d ih =>
    intro k h1 h2 H locs ls hP hD hS hl
    refine lv_iload hx hb dJ7_fill_bad5a_10 (lv_at hl 0 rfl) ?_
    refine lv_iload_n hx hb dJ7_fill_bad5a_12 rfl (lv_at hl 3 rfl) ?_
    rcases Nat.lt_or_ge k J with hkN | hkN
    · refine lv_icmp_ge (tgt := 27) hx hb dJ7_fill_bad5a_13 (by decide) (fun c9 => absurd c9 (nI_ge hkN (by omega))) (fun _ => ?_)
      refine lv_aload_n hx hb dJ7_fill_bad5a_16 rfl (lv_at hl 1 rfl) ?_
      refine lv_iload hx hb dJ7_fill_bad5a_17 (lv_at hl 0 rfl) ?_
      refine lv_lload_n hx hb dJ7_fill_bad5a_19 rfl (lv_at hl 4 rfl) ?_
      refine va_last hx hb hK hP hD hS 0 2 rfl rfl (vp_in_nI (by omega) (by omega)) dJ7_fill_bad5a_20 (fun H locs hP hD hS => ?_)
      rw [z_updJ] at hP hD
      have hP : va_P (dC, dI) vwCl [(q1, .inl (cJ, 240, .inr (.inl (fun _ => 0))))] H := hP
      have hD : va_D A [(q1, .inl (cJ, 240, .inr (.inl (fun _ => 0))))] := hD
      refine lv_iinc (v := nI (k + 1)) (lv' := [(5, .int (nI (k + 1))), (0, .ref q1), (1, .int p1), (2, .int (nI J)), (3, .long 0)]) hx hb dJ7_fill_bad5a_21 hl (k := 0) rfl (nI_1 k) (by decide) rfl (fun ls hl => ?_)
      refine lv_goto (tgt := 10) hx hb dJ7_fill_bad5a_24 (by decide) ?_
      exact ih (k + 1) (by omega) (by omega) _ _ _ hP hD hS (lv_sub hl [0, 1, 2, 3, 4] rfl)
    · obtain rfl : k = J := by omega
      exact lv_icmp_ge (tgt := 27) hx hb dJ7_fill_bad5a_13 (by decide) (fun _ => kk _ _ _ hP hD hS (lv_sub hl [0, 1, 2, 3, 4] rfl)) (fun c9 => absurd (nI_le hkN (by omega)) c9)
set_option maxHeartbeats 4000000 in
set_option maxRecDepth 100000 in
theorem lp_X9_copyRow {p : Program} {l : Launch} {e : Env} {R : Room} {s : State} {m : MethodId} {args : Array Value} {below : List Frame} {meth : Method} {c : Code} {cells slots : Nat} {Q : State → Prop} {A : Nat → Prop} {H0 : Heap} {dC : Nat → ClassId} {dI : Nat → Nat → Nat} {cB cI cJ cZ cL : ClassId} {q1 : Nat} {M a1 b1 n1 : Nat} (hM : M < 2 ^ 31) (hn : n1 < 2 ^ 31) (ha : M * a1 + M ≤ n1) (hb1 : M * b1 + M ≤ n1) (hx : p.tables.exec = Jvm.exec) (hb : c.code = cX9_copyRow) (ht : ∀ w ∈ lw_ok, w.before args s = true) (hown : s.vm.findClass RX9 = some m.cls) (hK : va_K (dC, dI) vwCl (tyL cB cI cJ cZ cL) s)  (kk : ∀ (H : Heap) (locs : List Loc) (ls : Array Slot), va_P (dC, dI) vwCl [(q1, .inl (cI, n1, .inl (fun _ => 0)))] H → va_D A [(q1, .inl (cI, n1, .inl (fun _ => 0)))] → va_S A H0 H locs → lv_has ls 5 [(4, .int (nI M)), (0, .ref q1), (1, .int (nI M)), (2, .int (nI a1)), (3, .int (nI b1))] → W p l e R s m args below meth c H locs cells slots Q (F0 m 31 ls [])) : ∀ (d k : Nat), k ≤ M → M - k < d → ∀ (H : Heap) (locs : List Loc) (ls : Array Slot), va_P (dC, dI) vwCl [(q1, .inl (cI, n1, .inl (fun _ => 0)))] H → va_D A [(q1, .inl (cI, n1, .inl (fun _ => 0)))] → va_S A H0 H locs → lv_has ls 5 [(4, .int (nI k)), (0, .ref q1), (1, .int (nI M)), (2, .int (nI a1)), (3, .int (nI b1))] → W p l e R s m args below meth c H locs cells slots Q (F0 m 3 ls []) := by
  intro d
  induction d with
  | zero => intro k h1 h2; exact absurd h2 (by omega)
  | succ d ih =>
    intro k h1 h2 H locs ls hP hD hS hl
    refine lv_iload hx hb dX9_copyRow_3 (lv_at hl 0 rfl) ?_
    refine lv_iload_n hx hb dX9_copyRow_5 rfl (lv_at hl 2 rfl) ?_
    rcases Nat.lt_or_ge k M with hkN | hkN
    · refine lv_icmp_ge (tgt := 31) hx hb dX9_copyRow_6 (by decide) (fun c9 => absurd c9 (nI_ge hkN (by omega))) (fun _ => ?_)
      refine lv_aload_n hx hb dX9_copyRow_9 rfl (lv_at hl 1 rfl) ?_
      refine lv_iload_n hx hb dX9_copyRow_10 rfl (lv_at hl 2 rfl) ?_
      refine lv_iload_n hx hb dX9_copyRow_11 rfl (lv_at hl 4 rfl) ?_
      refine lv_imul hx hb dX9_copyRow_12 ?_
      refine lv_iload hx hb dX9_copyRow_13 (lv_at hl 0 rfl) ?_
      refine lv_iadd hx hb dX9_copyRow_15 ?_
      refine lv_aload_n hx hb dX9_copyRow_16 rfl (lv_at hl 1 rfl) ?_
      refine lv_iload_n hx hb dX9_copyRow_17 rfl (lv_at hl 2 rfl) ?_
      refine lv_iload_n hx hb dX9_copyRow_18 rfl (lv_at hl 3 rfl) ?_
      refine lv_imul hx hb dX9_copyRow_19 ?_
      refine lv_iload hx hb dX9_copyRow_20 (lv_at hl 0 rfl) ?_
      refine lv_iadd hx hb dX9_copyRow_22 ?_
      refine va_iald hx hb hK hP 0 1 rfl rfl (by rw [pk_mul, nI_add]; exact vp_in_nI (by omega) (by omega)) dX9_copyRow_23 ?_
      refine W.eq (g2 := F0 m 24 ls [.int 0, .int (((nI M) * (nI b1)) + (nI k)), .ref q1]) rfl ?_
      refine va_iast hx hb hK hP hD hS 0 1 rfl rfl (by rw [pk_mul, nI_add]; exact vp_in_nI (by omega) (by omega)) dX9_copyRow_24 (fun H locs hP hD hS => ?_)
      rw [z_updI] at hP hD
      have hP : va_P (dC, dI) vwCl [(q1, .inl (cI, n1, .inl (fun _ => 0)))] H := hP
      have hD : va_D A [(q1, .inl (cI, n1, .inl (fun _ => 0)))] := hD
      refine lv_iinc (v := nI (k + 1)) (lv' := [(4, .int (nI (k + 1))), (0, .ref q1), (1, .int (nI M)), (2, .int (nI a1)), (3, .int (nI b1))]) hx hb dX9_copyRow_25 hl (k := 0) rfl (nI_1 k) (by decide) rfl (fun ls hl => ?_)
      refine lv_goto (tgt := 3) hx hb dX9_copyRow_28 (by decide) ?_
      exact ih (k + 1) (by omega) (by omega) _ _ _ hP hD hS (lv_sub hl [0, 1, 2, 3, 4] rfl)
    · obtain rfl : k = M := by omega
      exact lv_icmp_ge (tgt := 31) hx hb dX9_copyRow_6 (by decide) (fun _ => kk _ _ _ hP hD hS (lv_sub hl [0, 1, 2, 3, 4] rfl)) (fun c9 => absurd (nI_le hkN (by omega)) c9)
set_option maxHeartbeats 4000000 in
set_option maxRecDepth 100000 in
theorem lp_X9_row {p : Program} {l : Launch} {e : Env} {R : Room} {s : State} {m : MethodId} {args : Array Value} {below : List Frame} {meth : Method} {c : Code} {cells slots : Nat} {Q : State → Prop} {A : Nat → Prop} {H0 : Heap} {dC : Nat → ClassId} {dI : Nat → Nat → Nat} {cB cI cJ cZ cL : ClassId} {g : Nat → Nat} {fw1 fm1 : Nat → Int32} {sl w1 : Int32} {c0 N : Nat} (hN : N ≤ 60) (hc : 60 * sl = nI c0) (hc2 : c0 + 60 ≤ 240) (hx : p.tables.exec = Jvm.exec) (hb : c.code = cX9_row) (ht : ∀ w ∈ lw_ok, w.before args s = true) (hown : s.vm.findClass RX9 = some m.cls) (hK : va_K (dC, dI) vwCl (tyL cB cI cJ cZ cL) s)  (kk : ∀ (H : Heap) (locs : List Loc) (ls : Array Slot), va_P (dC, dI) vwCl [((g 0), .inr (9, [.int 0, .ref (g 1), .ref (g 2), .ref (g 3), .ref (g 4), .ref (g 5), .int 0, .int 0, .int 0, .int 0, .int 0, .long 0, .int 0, .int 0, .int 0, .int (-1), .ref (g 6), .ref (g 7), .ref (g 8), .ref (g 9), .ref (g 10), .ref (g 11), .int 0, .int 0, .int 0, .int 0, .int 0, .ref (g 12), .ref (g 13), .int 0, .ref (g 14), .ref (g 15), .long 0, .int 0, .int 0, .int 0, .ref (g 16), .ref (g 17)])), ((g 3), .inl (cJ, 240, .inr (.inl (fun _ => 0))))] H → va_D A [((g 0), .inr (9, [.int 0, .ref (g 1), .ref (g 2), .ref (g 3), .ref (g 4), .ref (g 5), .int 0, .int 0, .int 0, .int 0, .int 0, .long 0, .int 0, .int 0, .int 0, .int (-1), .ref (g 6), .ref (g 7), .ref (g 8), .ref (g 9), .ref (g 10), .ref (g 11), .int 0, .int 0, .int 0, .int 0, .int 0, .ref (g 12), .ref (g 13), .int 0, .ref (g 14), .ref (g 15), .long 0, .int 0, .int 0, .int 0, .ref (g 16), .ref (g 17)])), ((g 3), .inl (cJ, 240, .inr (.inl (fun _ => 0))))] → va_S A H0 H locs → lv_has ls 5 [(4, .int (nI N)), (0, .ref (g 0)), (1, .int sl), (2, .int w1), (3, .int (nI N))] → W p l e R s m args below meth c H locs cells slots Q (F0 m 82 ls [])) : ∀ (d k : Nat), k ≤ N → N - k < d → ∀ (H : Heap) (locs : List Loc) (ls : Array Slot), va_P (dC, dI) vwCl [((g 0), .inr (9, [.int 0, .ref (g 1), .ref (g 2), .ref (g 3), .ref (g 4), .ref (g 5), .int 0, .int 0, .int 0, .int 0, .int 0, .long 0, .int 0, .int 0, .int 0, .int (-1), .ref (g 6), .ref (g 7), .ref (g 8), .ref (g 9), .ref (g 10), .ref (g 11), .int 0, .int 0, .int 0, .int 0, .int 0, .ref (g 12), .ref (g 13), .int 0, .ref (g 14), .ref (g 15), .long 0, .int 0, .int 0, .int 0, .ref (g 16), .ref (g 17)])), ((g 3), .inl (cJ, 240, .inr (.inl (fun _ => 0))))] H → va_D A [((g 0), .inr (9, [.int 0, .ref (g 1), .ref (g 2), .ref (g 3), .ref (g 4), .ref (g 5), .int 0, .int 0, .int 0, .int 0, .int 0, .long 0, .int 0, .int 0, .int 0, .int (-1), .ref (g 6), .ref (g 7), .ref (g 8), .ref (g 9), .ref (g 10), .ref (g 11), .int 0, .int 0, .int 0, .int 0, .int 0, .ref (g 12), .ref (g 13), .int 0, .ref (g 14), .ref (g 15), .long 0, .int 0, .int 0, .int 0, .ref (g 16), .ref (g 17)])), ((g 3), .inl (cJ, 240, .inr (.inl (fun _ => 0))))] → va_S A H0 H locs → lv_has ls 5 [(4, .int (nI k)), (0, .ref (g 0)), (1, .int sl), (2, .int w1), (3, .int (nI N))] → W p l e R s m args below meth c H locs cells slots Q (F0 m 57 ls []) := by
  intro d
  induction d with
  | zero => intro k h1 h2; exact absurd h2 (by omega)
  | succ d ih =>
    intro k h1 h2 H locs ls hP hD hS hl
    refine lv_iload hx hb dX9_row_57 (lv_at hl 0 rfl) ?_
    refine lv_iload_n hx hb dX9_row_59 rfl (lv_at hl 4 rfl) ?_
    rcases Nat.lt_or_ge k N with hkN | hkN
    · refine lv_icmp_ge (tgt := 82) hx hb dX9_row_60 (by decide) (fun c9 => absurd c9 (nI_ge hkN (by omega))) (fun _ => ?_)
      refine lv_aload_n hx hb dX9_row_63 rfl (lv_at hl 1 rfl) ?_
      refine va_get (D := (dC, dI)) (ci := 9) (v := .ref (g 3)) (C := RX9) (T := TX9) (N := 38) hx hb ht iX9 hown hK hP 0 rfl rfl 3 (by decide) (ht _ w_1265) (fun _ h9 => h9) rfl dX9_row_64 ?_
      refine lv_bipush (v := 60) hx hb dX9_row_67 (by decide) ?_
      refine lv_iload_n hx hb dX9_row_69 rfl (lv_at hl 2 rfl) ?_
      refine lv_imul hx hb dX9_row_70 ?_
      refine lv_iload hx hb dX9_row_71 (lv_at hl 0 rfl) ?_
      refine lv_iadd hx hb dX9_row_73 ?_
      refine lv_lconst (v := 0) hx hb dX9_row_74 (by decide) ?_
      refine va_last hx hb hK hP hD hS 1 2 rfl rfl (by rw [hc, nI_add]; exact vp_in_nI (by omega) (by omega)) dX9_row_75 (fun H locs hP hD hS => ?_)
      rw [z_updJ] at hP hD
      have hP : va_P (dC, dI) vwCl [((g 0), .inr (9, [.int 0, .ref (g 1), .ref (g 2), .ref (g 3), .ref (g 4), .ref (g 5), .int 0, .int 0, .int 0, .int 0, .int 0, .long 0, .int 0, .int 0, .int 0, .int (-1), .ref (g 6), .ref (g 7), .ref (g 8), .ref (g 9), .ref (g 10), .ref (g 11), .int 0, .int 0, .int 0, .int 0, .int 0, .ref (g 12), .ref (g 13), .int 0, .ref (g 14), .ref (g 15), .long 0, .int 0, .int 0, .int 0, .ref (g 16), .ref (g 17)])), ((g 3), .inl (cJ, 240, .inr (.inl (fun _ => 0))))] H := hP
      have hD : va_D A [((g 0), .inr (9, [.int 0, .ref (g 1), .ref (g 2), .ref (g 3), .ref (g 4), .ref (g 5), .int 0, .int 0, .int 0, .int 0, .int 0, .long 0, .int 0, .int 0, .int 0, .int (-1), .ref (g 6), .ref (g 7), .ref (g 8), .ref (g 9), .ref (g 10), .ref (g 11), .int 0, .int 0, .int 0, .int 0, .int 0, .ref (g 12), .ref (g 13), .int 0, .ref (g 14), .ref (g 15), .long 0, .int 0, .int 0, .int 0, .ref (g 16), .ref (g 17)])), ((g 3), .inl (cJ, 240, .inr (.inl (fun _ => 0))))] := hD
      refine lv_iinc (v := nI (k + 1)) (lv' := [(4, .int (nI (k + 1))), (0, .ref (g 0)), (1, .int sl), (2, .int w1), (3, .int (nI N))]) hx hb dX9_row_76 hl (k := 0) rfl (nI_1 k) (by decide) rfl (fun ls hl => ?_)
      refine lv_goto (tgt := 57) hx hb dX9_row_79 (by decide) ?_
      exact ih (k + 1) (by omega) (by omega) _ _ _ hP hD hS (lv_sub hl [0, 1, 2, 3, 4] rfl)
    · obtain rfl : k = N := by omega
      exact lv_icmp_ge (tgt := 82) hx hb dX9_row_60 (by decide) (fun _ => kk _ _ _ hP hD hS (lv_sub hl [0, 1, 2, 3, 4] rfl)) (fun c9 => absurd (nI_le hkN (by omega)) c9)
set_option maxHeartbeats 4000000 in
set_option maxRecDepth 100000 in
theorem k_J7_fillI (l : Launch) (dC : Nat → ClassId) (dI : Nat → Nat → Nat) (cB cI cJ cZ cL : ClassId) (sz : Nat) (q1 : Nat)  : Met l yJ7_fill_53178 (wy yJ7_fill_53178 cJ7_fill_53178 4 none) ({ frames := 0, cells := 0, slots := 0, locals := 0 }) (va_Pc [.ref q1, .int 0] (fun U => U.heap.size = sz ∧ va_P (dC, dI) vwCl [(q1, .inl (cI, 5, .inl (fun _ => 0)))] U.heap ∧ va_K (dC, dI) vwCl (tyL cB cI cJ cZ cL) U ∧ va_D (fun _ => True) [(q1, .inl (cI, 5, .inl (fun _ => 0)))])) (va_Qv (fun _ => True) (fun (u : Unit) t => va_P (dC, dI) vwCl [(q1, .inl (cI, 5, .inl (fun _ => 0)))] t.heap ∧ va_D (va_A [(q1, .inl (cI, 5, .inl (fun _ => 0)))] sz) [(q1, .inl (cI, 5, .inl (fun _ => 0)))]) (va_A [(q1, .inl (cI, 5, .inl (fun _ => 0)))] sz)) 0 0 (va_A [(q1, .inl (cI, 5, .inl (fun _ => 0)))] sz) := by
  refine Met.ofW (cc := cJ7_fill_53178) (maxL := 4) (ret := none) (by decide) rfl ?_
  intro p e s m args below meth c s₁ B hml hv
  obtain ⟨rfl, hsz, hP, hK, hD0⟩ := hv
  have hx := B.exec
  have hb := B.bytes
  have hr := B.returns
  have ht : ∀ w ∈ lw_ok, w.before _ s = true := fun w h => atoms_spec (ws := wy yJ7_fill_53178 cJ7_fill_53178 4 none) B.pre w (List.mem_cons_of_mem _ h)
  have hown : s.vm.findClass RJ7 = some m.cls := findClass_of_methodNamed B.named
  have hlocks := B.notSynchronized
  subst hsz
  have hD := hD0.self (sz := s.heap.size)
  generalize hAe : va_A [(q1, .inl (cI, 5, .inl (fun _ => 0)))] s.heap.size = A at hD ⊢
  have hA : ∀ q : Nat, s.heap.size ≤ q → A q := fun q h => by rw [← hAe]; exact Or.inr h
  have hS : va_S A s.heap s.heap [] := va_S.rf
  have hl := lv_entry ([.ref q1, .int 0]) (n := 4) (Nat.le_of_ble_eq_true rfl)
  rw [lg_entry_eq]
  generalize (lg_sl ([.ref q1, .int 0]) ++ List.replicate (4 - (lg_sl ([.ref q1, .int 0])).length) Slot.unset).toArray = ls at hl ⊢
  have hl : lv_has ls 4 [(0, .ref q1), (1, .int 0)] := hl
  have hP : va_P (dC, dI) vwCl [(q1, .inl (cI, 5, .inl (fun _ => 0)))] s.heap := hP
  have hD : va_D A [(q1, .inl (cI, 5, .inl (fun _ => 0)))] := hD
  refine lv_iconst (v := 0) hx hb dJ7_fill_53178_0 (by decide) ?_
  refine lv_istore_n (lv' := [(2, .int 0), (0, .ref q1), (1, .int 0)]) hx hb dJ7_fill_53178_1 rfl hl (by decide) rfl (fun ls hl => ?_)
  refine lv_aload_n hx hb dJ7_fill_53178_2 rfl (lv_at hl 1 rfl) ?_
  refine va_alen (v := 5) hx hb hK hP 0 1 rfl rfl (by decide) dJ7_fill_53178_3 ?_
  refine lv_istore_n (lv' := [(3, .int 5), (2, .int 0), (0, .ref q1), (1, .int 0)]) hx hb dJ7_fill_53178_4 rfl hl (by decide) rfl (fun ls hl => ?_)
  refine lv_iload_n hx hb dJ7_fill_53178_5 rfl (lv_at hl 1 rfl) ?_
  refine lv_iload_n hx hb dJ7_fill_53178_6 rfl (lv_at hl 0 rfl) ?_
  refine lv_icmp_ge (tgt := 20) hx hb dJ7_fill_53178_7 (by decide) (fun c9 => by first | exact absurd c9 (by decide) | exact absurd (by decide) c9) (fun _ => ?_)
  refine lv_aload_n hx hb dJ7_fill_53178_10 rfl (lv_at hl 2 rfl) ?_
  refine lv_iload_n hx hb dJ7_fill_53178_11 rfl (lv_at hl 1 rfl) ?_
  refine lv_iload_n hx hb dJ7_fill_53178_12 rfl (lv_at hl 3 rfl) ?_
  refine va_iast hx hb hK hP hD hS 0 1 rfl rfl (by unfold vp_in; decide) dJ7_fill_53178_13 (fun H locs hP hD hS => ?_)
  rw [z_updI] at hP hD
  have hP : va_P (dC, dI) vwCl [(q1, .inl (cI, 5, .inl (fun _ => 0)))] H := hP
  have hD : va_D A [(q1, .inl (cI, 5, .inl (fun _ => 0)))] := hD
  refine lv_iinc (v := 1) (lv' := [(2, .int 1), (3, .int 5), (0, .ref q1), (1, .int 0)]) hx hb dJ7_fill_53178_14 hl (k := 1) rfl (by decide) (by decide) rfl (fun ls hl => ?_)
  refine lv_goto (tgt := 5) hx hb dJ7_fill_53178_17 (by decide) ?_
  refine lv_iload_n hx hb dJ7_fill_53178_5 rfl (lv_at hl 0 rfl) ?_
  refine lv_iload_n hx hb dJ7_fill_53178_6 rfl (lv_at hl 1 rfl) ?_
  refine lv_icmp_ge (tgt := 20) hx hb dJ7_fill_53178_7 (by decide) (fun c9 => by first | exact absurd c9 (by decide) | exact absurd (by decide) c9) (fun _ => ?_)
  refine lv_aload_n hx hb dJ7_fill_53178_10 rfl (lv_at hl 2 rfl) ?_
  refine lv_iload_n hx hb dJ7_fill_53178_11 rfl (lv_at hl 0 rfl) ?_
  refine lv_iload_n hx hb dJ7_fill_53178_12 rfl (lv_at hl 3 rfl) ?_
  refine va_iast hx hb hK hP hD hS 0 1 rfl rfl (by unfold vp_in; decide) dJ7_fill_53178_13 (fun H locs hP hD hS => ?_)
  rw [z_updI] at hP hD
  have hP : va_P (dC, dI) vwCl [(q1, .inl (cI, 5, .inl (fun _ => 0)))] H := hP
  have hD : va_D A [(q1, .inl (cI, 5, .inl (fun _ => 0)))] := hD
  refine lv_iinc (v := 2) (lv' := [(2, .int 2), (3, .int 5), (0, .ref q1), (1, .int 0)]) hx hb dJ7_fill_53178_14 hl (k := 0) rfl (by decide) (by decide) rfl (fun ls hl => ?_)
  refine lv_goto (tgt := 5) hx hb dJ7_fill_53178_17 (by decide) ?_
  refine lv_iload_n hx hb dJ7_fill_53178_5 rfl (lv_at hl 0 rfl) ?_
  refine lv_iload_n hx hb dJ7_fill_53178_6 rfl (lv_at hl 1 rfl) ?_
  refine lv_icmp_ge (tgt := 20) hx hb dJ7_fill_53178_7 (by decide) (fun c9 => by first | exact absurd c9 (by decide) | exact absurd (by decide) c9) (fun _ => ?_)
  refine lv_aload_n hx hb dJ7_fill_53178_10 rfl (lv_at hl 2 rfl) ?_
  refine lv_iload_n hx hb dJ7_fill_53178_11 rfl (lv_at hl 0 rfl) ?_
  refine lv_iload_n hx hb dJ7_fill_53178_12 rfl (lv_at hl 3 rfl) ?_
  refine va_iast hx hb hK hP hD hS 0 1 rfl rfl (by unfold vp_in; decide) dJ7_fill_53178_13 (fun H locs hP hD hS => ?_)
  rw [z_updI] at hP hD
  have hP : va_P (dC, dI) vwCl [(q1, .inl (cI, 5, .inl (fun _ => 0)))] H := hP
  have hD : va_D A [(q1, .inl (cI, 5, .inl (fun _ => 0)))] := hD
  refine lv_iinc (v := 3) (lv' := [(2, .int 3), (3, .int 5), (0, .ref q1), (1, .int 0)]) hx hb dJ7_fill_53178_14 hl (k := 0) rfl (by decide) (by decide) rfl (fun ls hl => ?_)
  refine lv_goto (tgt := 5) hx hb dJ7_fill_53178_17 (by decide) ?_
  refine lv_iload_n hx hb dJ7_fill_53178_5 rfl (lv_at hl 0 rfl) ?_
  refine lv_iload_n hx hb dJ7_fill_53178_6 rfl (lv_at hl 1 rfl) ?_
  refine lv_icmp_ge (tgt := 20) hx hb dJ7_fill_53178_7 (by decide) (fun c9 => by first | exact absurd c9 (by decide) | exact absurd (by decide) c9) (fun _ => ?_)
  refine lv_aload_n hx hb dJ7_fill_53178_10 rfl (lv_at hl 2 rfl) ?_
  refine lv_iload_n hx hb dJ7_fill_53178_11 rfl (lv_at hl 0 rfl) ?_
  refine lv_iload_n hx hb dJ7_fill_53178_12 rfl (lv_at hl 3 rfl) ?_
  refine va_iast hx hb hK hP hD hS 0 1 rfl rfl (by unfold vp_in; decide) dJ7_fill_53178_13 (fun H locs hP hD hS => ?_)
  rw [z_updI] at hP hD
  have hP : va_P (dC, dI) vwCl [(q1, .inl (cI, 5, .inl (fun _ => 0)))] H := hP
  have hD : va_D A [(q1, .inl (cI, 5, .inl (fun _ => 0)))] := hD
  refine lv_iinc (v := 4) (lv' := [(2, .int 4), (3, .int 5), (0, .ref q1), (1, .int 0)]) hx hb dJ7_fill_53178_14 hl (k := 0) rfl (by decide) (by decide) rfl (fun ls hl => ?_)
  refine lv_goto (tgt := 5) hx hb dJ7_fill_53178_17 (by decide) ?_
  refine lv_iload_n hx hb dJ7_fill_53178_5 rfl (lv_at hl 0 rfl) ?_
  refine lv_iload_n hx hb dJ7_fill_53178_6 rfl (lv_at hl 1 rfl) ?_
  refine lv_icmp_ge (tgt := 20) hx hb dJ7_fill_53178_7 (by decide) (fun c9 => by first | exact absurd c9 (by decide) | exact absurd (by decide) c9) (fun _ => ?_)
  refine lv_aload_n hx hb dJ7_fill_53178_10 rfl (lv_at hl 2 rfl) ?_
  refine lv_iload_n hx hb dJ7_fill_53178_11 rfl (lv_at hl 0 rfl) ?_
  refine lv_iload_n hx hb dJ7_fill_53178_12 rfl (lv_at hl 3 rfl) ?_
  refine va_iast hx hb hK hP hD hS 0 1 rfl rfl (by unfold vp_in; decide) dJ7_fill_53178_13 (fun H locs hP hD hS => ?_)
  rw [z_updI] at hP hD
  have hP : va_P (dC, dI) vwCl [(q1, .inl (cI, 5, .inl (fun _ => 0)))] H := hP
  have hD : va_D A [(q1, .inl (cI, 5, .inl (fun _ => 0)))] := hD
  refine lv_iinc (v := 5) (lv' := [(2, .int 5), (3, .int 5), (0, .ref q1), (1, .int 0)]) hx hb dJ7_fill_53178_14 hl (k := 0) rfl (by decide) (by decide) rfl (fun ls hl => ?_)
  refine lv_goto (tgt := 5) hx hb dJ7_fill_53178_17 (by decide) ?_
  refine lv_iload_n hx hb dJ7_fill_53178_5 rfl (lv_at hl 0 rfl) ?_
  refine lv_iload_n hx hb dJ7_fill_53178_6 rfl (lv_at hl 1 rfl) ?_
  refine lv_icmp_ge (tgt := 20) hx hb dJ7_fill_53178_7 (by decide) (fun _ => ?_) (fun c9 => by first | exact absurd (by decide) c9 | exact absurd c9 (by decide))
  have hP9 := hP.sub (ws' := [(q1, .inl (cI, 5, .inl (fun _ => 0)))]) [0] rfl
  have hD9 := hD.sub (ws' := [(q1, .inl (cI, 5, .inl (fun _ => 0)))]) [0] (by decide) rfl
  refine W.widen (k := 0) (n := 0) (Nat.le_of_ble_eq_true rfl) (Nat.le_of_ble_eq_true rfl) ?_
  exact W.vret hx hb hr (fun t ht hW => ⟨⟨(), rfl, trivial, ⟨by rw [ht]; exact hP9, hD9⟩⟩, hS.F ht⟩) hS.2.2 dJ7_fill_53178_20
