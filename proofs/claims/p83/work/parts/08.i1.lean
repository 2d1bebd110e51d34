set_option maxHeartbeats 4000000 in
set_option maxRecDepth 100000 in
theorem k_X0_init (l : Launch) (dC : Nat → ClassId) (dI : Nat → Nat → Nat) (cB cI cJ cZ cL : ClassId) (sz : Nat) (h0 : Nat)  : Met l yX0_init (wy yX0_init cX0_init 1 none) ({ frames := 1, cells := 0, slots := 0, locals := 40 }) (va_Pc [.ref h0] (fun U => U.heap.size = sz ∧ va_P (dC, dI) vwCl [(h0, .inr (0, [.long 0, .long 0]))] U.heap ∧ va_K (dC, dI) vwCl (tyL cB cI cJ cZ cL) U ∧ va_D (fun _ => True) [(h0, .inr (0, [.long 0, .long 0]))])) (va_Qv (fun _ => True) (fun (u : Unit) t => va_P (dC, dI) vwCl [(h0, .inr (0, [.long 0, .long 1]))] t.heap ∧ va_D (va_A [(h0, .inr (0, [.long 0, .long 0]))] sz) [(h0, .inr (0, [.long 0, .long 1]))]) (va_A [(h0, .inr (0, [.long 0, .long 0]))] sz)) 0 0 (va_A [(h0, .inr (0, [.long 0, .long 0]))] sz) := by
  refine Met.ofW (cc := cX0_init) (maxL := 1) (ret := none) (by decide) rfl ?_
  intro p e s m args below meth c s₁ B hml hv
  obtain ⟨rfl, hsz, hP, hK, hD0⟩ := hv
  have hx := B.exec
  have hb := B.bytes
  have hr := B.returns
  have ht : ∀ w ∈ lw_ok, w.before _ s = true := fun w h => atoms_spec (ws := wy yX0_init cX0_init 1 none) B.pre w (List.mem_cons_of_mem _ h)
  have hown : s.vm.findClass RX0 = some m.cls := findClass_of_methodNamed B.named
  have hlocks := B.notSynchronized
  have hin : meth.name = "<init>" := (name_of_methodNamed B.named B.method).1
  subst hsz
  have hD := hD0.self (sz := s.heap.size)
  generalize hAe : va_A [(h0, .inr (0, [.long 0, .long 0]))] s.heap.size = A at hD ⊢
  have hA : ∀ q : Nat, s.heap.size ≤ q → A q := fun q h => by rw [← hAe]; exact Or.inr h
  have hS : va_S A s.heap s.heap [] := va_S.rf
  have hl := lv_entry ([.ref h0]) (n := 1) (Nat.le_of_ble_eq_true rfl)
  rw [lg_entry_eq]
  generalize (lg_sl ([.ref h0]) ++ List.replicate (1 - (lg_sl ([.ref h0])).length) Slot.unset).toArray = ls at hl ⊢
  have hl : lv_has ls 1 [(0, .ref h0)] := hl
  have hP : va_P (dC, dI) vwCl [(h0, .inr (0, [.long 0, .long 0]))] s.heap := hP
  have hD : va_D A [(h0, .inr (0, [.long 0, .long 0]))] := hD
  refine lv_aload_n hx hb dX0_init_0 rfl (lv_at hl 0 rfl) ?_
  refine W.objInit hx hb hown (ht _ w_365) (ht _ w_129) (ht _ w_130) rfl (by rw [hml]; exact hl.1) rfl dX0_init_1 (Nat.le_of_ble_eq_true rfl) (Nat.le_of_ble_eq_true rfl) ?_
  refine W.eq (g2 := F0 m 4 ls []) rfl ?_
  refine lv_aload_n hx hb dX0_init_4 rfl (lv_at hl 0 rfl) ?_
  refine lv_lconst (v := 0) hx hb dX0_init_5 (by decide) ?_
  refine va_put (D := (dC, dI)) (ci := 0) (v := .long 0) (ty := .long) (C := RX0) (T := TX0) (N := 2) hx hb ht iX0 tyX0 tyX0_ok nmX0 hown hK hP hD hS 0 rfl rfl 0 (by decide) (ht _ w_366) (fun _ h9 => h9) rfl (by decide +kernel) rfl rfl (Nat.le_of_ble_eq_true rfl) dX0_init_6 (fun H locs hP hD hS => ?_)
  have hP : va_P (dC, dI) vwCl [(h0, .inr (0, [.long 0, .long 0]))] H := hP
  have hD : va_D A [(h0, .inr (0, [.long 0, .long 0]))] := hD
  refine lv_aload_n hx hb dX0_init_9 rfl (lv_at hl 0 rfl) ?_
  refine lv_lconst (v := 1) hx hb dX0_init_10 (by decide) ?_
  refine va_put (D := (dC, dI)) (ci := 0) (v := .long 1) (ty := .long) (C := RX0) (T := TX0) (N := 2) hx hb ht iX0 tyX0 tyX0_ok nmX0 hown hK hP hD hS 0 rfl rfl 1 (by decide) (ht _ w_368) (fun _ h9 => h9) rfl (by decide +kernel) rfl rfl (Nat.le_of_ble_eq_true rfl) dX0_init_11 (fun H locs hP hD hS => ?_)
  have hP : va_P (dC, dI) vwCl [(h0, .inr (0, [.long 0, .long 1]))] H := hP
  have hD : va_D A [(h0, .inr (0, [.long 0, .long 1]))] := hD
  have hP9 := hP.sub (ws' := [(h0, .inr (0, [.long 0, .long 1]))]) [0] rfl
  have hD9 := hD.sub (ws' := [(h0, .inr (0, [.long 0, .long 1]))]) [0] (by decide) rfl
  refine W.widen (k := 0) (n := 0) (Nat.le_of_ble_eq_true rfl) (Nat.le_of_ble_eq_true rfl) ?_
  exact W.vret hx hb hr (fun t ht hW => ⟨⟨(), rfl, trivial, ⟨by rw [ht]; exact hP9, hD9⟩⟩, hS.F ht⟩) hS.2.2 dX0_init_14
set_option maxHeartbeats 4000000 in
set_option maxRecDepth 100000 in
theorem k_X6_init (l : Launch) (dC : Nat → ClassId) (dI : Nat → Nat → Nat) (cB cI cJ cZ cL : ClassId) (sz : Nat) (h0 : Nat)  : Met l yX6_init (wy yX6_init cX6_init 1 none) ({ frames := 1, cells := 0, slots := 0, locals := 40 }) (va_Pc [.ref h0] (fun U => U.heap.size = sz ∧ va_P (dC, dI) vwCl [(h0, .inr (6, [.int 0, .int 0, .int 0, .int 0, .int 0]))] U.heap ∧ va_K (dC, dI) vwCl (tyL cB cI cJ cZ cL) U ∧ va_D (fun _ => True) [(h0, .inr (6, [.int 0, .int 0, .int 0, .int 0, .int 0]))])) (va_Qv (fun _ => True) (fun (u : Unit) t => va_P (dC, dI) vwCl [(h0, .inr (6, [.int 0, .int 0, .int 0, .int 0, .int 0]))] t.heap ∧ va_D (va_A [(h0, .inr (6, [.int 0, .int 0, .int 0, .int 0, .int 0]))] sz) [(h0, .inr (6, [.int 0, .int 0, .int 0, .int 0, .int 0]))]) (va_A [(h0, .inr (6, [.int 0, .int 0, .int 0, .int 0, .int 0]))] sz)) 0 0 (va_A [(h0, .inr (6, [.int 0, .int 0, .int 0, .int 0, .int 0]))] sz) := by
  refine Met.ofW (cc := cX6_init) (maxL := 1) (ret := none) (by decide) rfl ?_
  intro p e s m args below meth c s₁ B hml hv
  obtain ⟨rfl, hsz, hP, hK, hD0⟩ := hv
  have hx := B.exec
  have hb := B.bytes
  have hr := B.returns
  have ht : ∀ w ∈ lw_ok, w.before _ s = true := fun w h => atoms_spec (ws := wy yX6_init cX6_init 1 none) B.pre w (List.mem_cons_of_mem _ h)
  have hown : s.vm.findClass RX6 = some m.cls := findClass_of_methodNamed B.named
  have hlocks := B.notSynchronized
  have hin : meth.name = "<init>" := (name_of_methodNamed B.named B.method).1
  subst hsz
  have hD := hD0.self (sz := s.heap.size)
  generalize hAe : va_A [(h0, .inr (6, [.int 0, .int 0, .int 0, .int 0, .int 0]))] s.heap.size = A at hD ⊢
  have hA : ∀ q : Nat, s.heap.size ≤ q → A q := fun q h => by rw [← hAe]; exact Or.inr h
  have hS : va_S A s.heap s.heap [] := va_S.rf
  have hl := lv_entry ([.ref h0]) (n := 1) (Nat.le_of_ble_eq_true rfl)
  rw [lg_entry_eq]
  generalize (lg_sl ([.ref h0]) ++ List.replicate (1 - (lg_sl ([.ref h0])).length) Slot.unset).toArray = ls at hl ⊢
  have hl : lv_has ls 1 [(0, .ref h0)] := hl
  have hP : va_P (dC, dI) vwCl [(h0, .inr (6, [.int 0, .int 0, .int 0, .int 0, .int 0]))] s.heap := hP
  have hD : va_D A [(h0, .inr (6, [.int 0, .int 0, .int 0, .int 0, .int 0]))] := hD
  refine lv_aload_n hx hb dX6_init_0 rfl (lv_at hl 0 rfl) ?_
  refine W.objInit hx hb hown (ht _ w_176) (ht _ w_129) (ht _ w_130) rfl (by rw [hml]; exact hl.1) rfl dX6_init_1 (Nat.le_of_ble_eq_true rfl) (Nat.le_of_ble_eq_true rfl) ?_
  refine W.eq (g2 := F0 m 4 ls []) rfl ?_
  refine lv_aload_n hx hb dX6_init_4 rfl (lv_at hl 0 rfl) ?_
  refine lv_iconst (v := 0) hx hb dX6_init_5 (by decide) ?_
  refine va_put (D := (dC, dI)) (ci := 6) (v := .int 0) (ty := .int) (C := RX6) (T := TX6) (N := 5) hx hb ht iX6 tyX6 tyX6_ok nmX6 hown hK hP hD hS 0 rfl rfl 0 (by decide) (ht _ w_177) (fun _ h9 => h9) rfl (by decide +kernel) rfl rfl (Nat.le_of_ble_eq_true rfl) dX6_init_6 (fun H locs hP hD hS => ?_)
  have hP : va_P (dC, dI) vwCl [(h0, .inr (6, [.int 0, .int 0, .int 0, .int 0, .int 0]))] H := hP
  have hD : va_D A [(h0, .inr (6, [.int 0, .int 0, .int 0, .int 0, .int 0]))] := hD
  refine lv_aload_n hx hb dX6_init_9 rfl (lv_at hl 0 rfl) ?_
  refine lv_iconst (v := 0) hx hb dX6_init_10 (by decide) ?_
  refine va_put (D := (dC, dI)) (ci := 6) (v := .int 0) (ty := .int) (C := RX6) (T := TX6) (N := 5) hx hb ht iX6 tyX6 tyX6_ok nmX6 hown hK hP hD hS 0 rfl rfl 1 (by decide) (ht _ w_179) (fun _ h9 => h9) rfl (by decide +kernel) rfl rfl (Nat.le_of_ble_eq_true rfl) dX6_init_11 (fun H locs hP hD hS => ?_)
  have hP : va_P (dC, dI) vwCl [(h0, .inr (6, [.int 0, .int 0, .int 0, .int 0, .int 0]))] H := hP
  have hD : va_D A [(h0, .inr (6, [.int 0, .int 0, .int 0, .int 0, .int 0]))] := hD
  refine lv_aload_n hx hb dX6_init_14 rfl (lv_at hl 0 rfl) ?_
  refine lv_iconst (v := 0) hx hb dX6_init_15 (by decide) ?_
  refine va_put (D := (dC, dI)) (ci := 6) (v := .int 0) (ty := .int) (C := RX6) (T := TX6) (N := 5) hx hb ht iX6 tyX6 tyX6_ok nmX6 hown hK hP hD hS 0 rfl rfl 2 (by decide) (ht _ w_181) (fun _ h9 => h9) rfl (by decide +kernel) rfl rfl (Nat.le_of_ble_eq_true rfl) dX6_init_16 (fun H locs hP hD hS => ?_)
  have hP : va_P (dC, dI) vwCl [(h0, .inr (6, [.int 0, .int 0, .int 0, .int 0, .int 0]))] H := hP
  have hD : va_D A [(h0, .inr (6, [.int 0, .int 0, .int 0, .int 0, .int 0]))] := hD
  refine lv_aload_n hx hb dX6_init_19 rfl (lv_at hl 0 rfl) ?_
  refine lv_iconst (v := 0) hx hb dX6_init_20 (by decide) ?_
  refine va_put (D := (dC, dI)) (ci := 6) (v := .int 0) (ty := .int) (C := RX6) (T := TX6) (N := 5) hx hb ht iX6 tyX6 tyX6_ok nmX6 hown hK hP hD hS 0 rfl rfl 3 (by decide) (ht _ w_182) (fun _ h9 => h9) rfl (by decide +kernel) rfl rfl (Nat.le_of_ble_eq_true rfl) dX6_init_21 (fun H locs hP hD hS => ?_)
  have hP : va_P (dC, dI) vwCl [(h0, .inr (6, [.int 0, .int 0, .int 0, .int 0, .int 0]))] H := hP
  have hD : va_D A [(h0, .inr (6, [.int 0, .int 0, .int 0, .int 0, .int 0]))] := hD
  refine lv_aload_n hx hb dX6_init_24 rfl (lv_at hl 0 rfl) ?_
  refine lv_iconst (v := 0) hx hb dX6_init_25 (by decide) ?_
  refine va_put (D := (dC, dI)) (ci := 6) (v := .int 0) (ty := .int) (C := RX6) (T := TX6) (N := 5) hx hb ht iX6 tyX6 tyX6_ok nmX6 hown hK hP hD hS 0 rfl rfl 4 (by decide) (ht _ w_183) (fun _ h9 => h9) rfl (by decide +kernel) rfl rfl (Nat.le_of_ble_eq_true rfl) dX6_init_26 (fun H locs hP hD hS => ?_)
  have hP : va_P (dC, dI) vwCl [(h0, .inr (6, [.int 0, .int 0, .int 0, .int 0, .int 0]))] H := hP
  have hD : va_D A [(h0, .inr (6, [.int 0, .int 0, .int 0, .int 0, .int 0]))] := hD
  have hP9 := hP.sub (ws' := [(h0, .inr (6, [.int 0, .int 0, .int 0, .int 0, .int 0]))]) [0] rfl
  have hD9 := hD.sub (ws' := [(h0, .inr (6, [.int 0, .int 0, .int 0, .int 0, .int 0]))]) [0] (by decide) rfl
  refine W.widen (k := 0) (n := 0) (Nat.le_of_ble_eq_true rfl) (Nat.le_of_ble_eq_true rfl) ?_
  exact W.vret hx hb hr (fun t ht hW => ⟨⟨(), rfl, trivial, ⟨by rw [ht]; exact hP9, hD9⟩⟩, hS.F ht⟩) hS.2.2 dX6_init_29
set_option maxHeartbeats 4000000 in
set_option maxRecDepth 100000 in
theorem k_X1_init (l : Launch) (dC : Nat → ClassId) (dI : Nat → Nat → Nat) (cB cI cJ cZ cL : ClassId) (sz : Nat) (h0 : Nat)  : Met l yX1_init (wy yX1_init cX1_init 1 none) ({ frames := 1, cells := 3, slots := 15, locals := 40 }) (va_Pc [.ref h0] (fun U => U.heap.size = sz ∧ va_P (dC, dI) vwCl [(h0, .inr (1, [.int 0, .long 0, .null, .null, .null]))] U.heap ∧ va_K (dC, dI) vwCl (tyL cB cI cJ cZ cL) U ∧ va_D (fun _ => True) [(h0, .inr (1, [.int 0, .long 0, .null, .null, .null]))])) (va_Qv (fun _ => True) (fun (u : Nat → Nat) t => va_P (dC, dI) vwCl [(h0, .inr (1, [.int 0, .long 1, .ref (u 0), .ref (u 1), .ref (u 2)])), ((u 0), .inl (cI, 5, .inl (fun _ => 0))), ((u 1), .inl (cJ, 5, .inr (.inl (fun _ => 0)))), ((u 2), .inl (cJ, 5, .inr (.inl (fun _ => 0))))] t.heap ∧ va_D (va_A [(h0, .inr (1, [.int 0, .long 0, .null, .null, .null]))] sz) [(h0, .inr (1, [.int 0, .long 1, .ref (u 0), .ref (u 1), .ref (u 2)])), ((u 0), .inl (cI, 5, .inl (fun _ => 0))), ((u 1), .inl (cJ, 5, .inr (.inl (fun _ => 0)))), ((u 2), .inl (cJ, 5, .inr (.inl (fun _ => 0))))]) (va_A [(h0, .inr (1, [.int 0, .long 0, .null, .null, .null]))] sz)) 3 15 (va_A [(h0, .inr (1, [.int 0, .long 0, .null, .null, .null]))] sz) := by
  refine Met.ofW (cc := cX1_init) (maxL := 1) (ret := none) (by decide) rfl ?_
  intro p e s m args below meth c s₁ B hml hv
  obtain ⟨rfl, hsz, hP, hK, hD0⟩ := hv
  have hx := B.exec
  have hb := B.bytes
  have hr := B.returns
  have ht : ∀ w ∈ lw_ok, w.before _ s = true := fun w h => atoms_spec (ws := wy yX1_init cX1_init 1 none) B.pre w (List.mem_cons_of_mem _ h)
  have hown : s.vm.findClass RX1 = some m.cls := findClass_of_methodNamed B.named
  have hlocks := B.notSynchronized
  have hin : meth.name = "<init>" := (name_of_methodNamed B.named B.method).1
  subst hsz
  have hD := hD0.self (sz := s.heap.size)
  generalize hAe : va_A [(h0, .inr (1, [.int 0, .long 0, .null, .null, .null]))] s.heap.size = A at hD ⊢
  have hA : ∀ q : Nat, s.heap.size ≤ q → A q := fun q h => by rw [← hAe]; exact Or.inr h
  have hS : va_S A s.heap s.heap [] := va_S.rf
  have hl := lv_entry ([.ref h0]) (n := 1) (Nat.le_of_ble_eq_true rfl)
  rw [lg_entry_eq]
  generalize (lg_sl ([.ref h0]) ++ List.replicate (1 - (lg_sl ([.ref h0])).length) Slot.unset).toArray = ls at hl ⊢
  have hl : lv_has ls 1 [(0, .ref h0)] := hl
  have hP : va_P (dC, dI) vwCl [(h0, .inr (1, [.int 0, .long 0, .null, .null, .null]))] s.heap := hP
  have hD : va_D A [(h0, .inr (1, [.int 0, .long 0, .null, .null, .null]))] := hD
  refine lv_aload_n hx hb dX1_init_0 rfl (lv_at hl 0 rfl) ?_
  refine W.objInit hx hb hown (ht _ w_339) (ht _ w_129) (ht _ w_130) rfl (by rw [hml]; exact hl.1) rfl dX1_init_1 (Nat.le_of_ble_eq_true rfl) (Nat.le_of_ble_eq_true rfl) ?_
  refine W.eq (g2 := F0 m 4 ls []) rfl ?_
  refine lv_aload_n hx hb dX1_init_4 rfl (lv_at hl 0 rfl) ?_
  refine lv_iconst (v := 0) hx hb dX1_init_5 (by decide) ?_
  refine va_put (D := (dC, dI)) (ci := 1) (v := .int 0) (ty := .int) (C := RX1) (T := TX1) (N := 5) hx hb ht iX1 tyX1 tyX1_ok nmX1 hown hK hP hD hS 0 rfl rfl 0 (by decide) (ht _ w_340) (fun _ h9 => h9) rfl (by decide +kernel) rfl rfl (Nat.le_of_ble_eq_true rfl) dX1_init_6 (fun H locs hP hD hS => ?_)
  have hP : va_P (dC, dI) vwCl [(h0, .inr (1, [.int 0, .long 0, .null, .null, .null]))] H := hP
  have hD : va_D A [(h0, .inr (1, [.int 0, .long 0, .null, .null, .null]))] := hD
  refine lv_aload_n hx hb dX1_init_9 rfl (lv_at hl 0 rfl) ?_
  refine lv_lconst (v := 1) hx hb dX1_init_10 (by decide) ?_
  refine va_put (D := (dC, dI)) (ci := 1) (v := .long 1) (ty := .long) (C := RX1) (T := TX1) (N := 5) hx hb ht iX1 tyX1 tyX1_ok nmX1 hown hK hP hD hS 0 rfl rfl 1 (by decide) (ht _ w_342) (fun _ h9 => h9) rfl (by decide +kernel) rfl rfl (Nat.le_of_ble_eq_true rfl) dX1_init_11 (fun H locs hP hD hS => ?_)
  have hP : va_P (dC, dI) vwCl [(h0, .inr (1, [.int 0, .long 1, .null, .null, .null]))] H := hP
  have hD : va_D A [(h0, .inr (1, [.int 0, .long 1, .null, .null, .null]))] := hD
  refine lv_aload_n hx hb dX1_init_14 rfl (lv_at hl 0 rfl) ?_
  refine lv_iconst (v := 5) hx hb dX1_init_15 (by decide) ?_
  refine va_newa (atype := .int) (ty := .int) (a0 := (5, .inl (fun _ => 0))) hx hb (ht _ w_170) rfl hK hP hD hS hA (fun _ => rfl) (by decide) (by decide) (by decide) (Nat.le_of_ble_eq_true rfl) (Nat.le_of_ble_eq_true rfl) dX1_init_16 (fun q_1 cA H hK1 hP hD hS => ?_)
  have ecA := tyI_one hK1
  subst ecA
  have hP : va_P (dC, dI) vwCl [(h0, .inr (1, [.int 0, .long 1, .null, .null, .null])), (q_1, .inl (cI, 5, .inl (fun _ => 0)))] H := hP
  have hD : va_D A [(h0, .inr (1, [.int 0, .long 1, .null, .null, .null])), (q_1, .inl (cI, 5, .inl (fun _ => 0)))] := hD
  refine W.widen (k := 1) (n := 5) (Nat.le_of_ble_eq_true rfl) (Nat.le_of_ble_eq_true rfl) ?_
  refine va_putF (D := (dC, dI)) (ci := 1) (v := .ref q_1) (ty := .array .int) (C := RX1) (T := TX1) (N := 5) hx hb ht iX1 tyX1 tyX1_ok nmX1 hown hK hP hD hS 0 rfl rfl 2 (by decide) (ht _ w_344) (fun _ h9 => h9) rfl hin rfl (by decide +kernel) rfl rfl (Nat.le_of_ble_eq_true rfl) dX1_init_18 (fun H locs hP hD hS => ?_)
  have hP : va_P (dC, dI) vwCl [(h0, .inr (1, [.int 0, .long 1, .ref q_1, .null, .null])), (q_1, .inl (cI, 5, .inl (fun _ => 0)))] H := hP
  have hD : va_D A [(h0, .inr (1, [.int 0, .long 1, .ref q_1, .null, .null])), (q_1, .inl (cI, 5, .inl (fun _ => 0)))] := hD
  refine lv_aload_n hx hb dX1_init_21 rfl (lv_at hl 0 rfl) ?_
  refine lv_iconst (v := 5) hx hb dX1_init_22 (by decide) ?_
  refine va_newa (atype := .long) (ty := .long) (a0 := (5, .inr (.inl (fun _ => 0)))) hx hb (ht _ w_301) rfl hK hP hD hS hA (fun _ => rfl) (by decide) (by decide) (by decide) (Nat.le_of_ble_eq_true rfl) (Nat.le_of_ble_eq_true rfl) dX1_init_23 (fun q_2 cA H hK1 hP hD hS => ?_)
  have ecA := tyJ_one hK1
  subst ecA
  have hP : va_P (dC, dI) vwCl [(h0, .inr (1, [.int 0, .long 1, .ref q_1, .null, .null])), (q_1, .inl (cI, 5, .inl (fun _ => 0))), (q_2, .inl (cJ, 5, .inr (.inl (fun _ => 0))))] H := hP
  have hD : va_D A [(h0, .inr (1, [.int 0, .long 1, .ref q_1, .null, .null])), (q_1, .inl (cI, 5, .inl (fun _ => 0))), (q_2, .inl (cJ, 5, .inr (.inl (fun _ => 0))))] := hD
  refine W.widen (k := 2) (n := 10) (Nat.le_of_ble_eq_true rfl) (Nat.le_of_ble_eq_true rfl) ?_
  refine va_putF (D := (dC, dI)) (ci := 1) (v := .ref q_2) (ty := .array .long) (C := RX1) (T := TX1) (N := 5) hx hb ht iX1 tyX1 tyX1_ok nmX1 hown hK hP hD hS 0 rfl rfl 3 (by decide) (ht _ w_346) (fun _ h9 => h9) rfl hin rfl (by decide +kernel) rfl rfl (Nat.le_of_ble_eq_true rfl) dX1_init_25 (fun H locs hP hD hS => ?_)
  have hP : va_P (dC, dI) vwCl [(h0, .inr (1, [.int 0, .long 1, .ref q_1, .ref q_2, .null])), (q_1, .inl (cI, 5, .inl (fun _ => 0))), (q_2, .inl (cJ, 5, .inr (.inl (fun _ => 0))))] H := hP
  have hD : va_D A [(h0, .inr (1, [.int 0, .long 1, .ref q_1, .ref q_2, .null])), (q_1, .inl (cI, 5, .inl (fun _ => 0))), (q_2, .inl (cJ, 5, .inr (.inl (fun _ => 0))))] := hD
  refine lv_aload_n hx hb dX1_init_28 rfl (lv_at hl 0 rfl) ?_
  refine lv_iconst (v := 5) hx hb dX1_init_29 (by decide) ?_
  refine va_newa (atype := .long) (ty := .long) (a0 := (5, .inr (.inl (fun _ => 0)))) hx hb (ht _ w_301) rfl hK hP hD hS hA (fun _ => rfl) (by decide) (by decide) (by decide) (Nat.le_of_ble_eq_true rfl) (Nat.le_of_ble_eq_true rfl) dX1_init_30 (fun q_3 cA H hK1 hP hD hS => ?_)
  have ecA := tyJ_one hK1
  subst ecA
  have hP : va_P (dC, dI) vwCl [(h0, .inr (1, [.int 0, .long 1, .ref q_1, .ref q_2, .null])), (q_1, .inl (cI, 5, .inl (fun _ => 0))), (q_2, .inl (cJ, 5, .inr (.inl (fun _ => 0)))), (q_3, .inl (cJ, 5, .inr (.inl (fun _ => 0))))] H := hP
  have hD : va_D A [(h0, .inr (1, [.int 0, .long 1, .ref q_1, .ref q_2, .null])), (q_1, .inl (cI, 5, .inl (fun _ => 0))), (q_2, .inl (cJ, 5, .inr (.inl (fun _ => 0)))), (q_3, .inl (cJ, 5, .inr (.inl (fun _ => 0))))] := hD
  refine W.widen (k := 3) (n := 15) (Nat.le_of_ble_eq_true rfl) (Nat.le_of_ble_eq_true rfl) ?_
  refine va_putF (D := (dC, dI)) (ci := 1) (v := .ref q_3) (ty := .array .long) (C := RX1) (T := TX1) (N := 5) hx hb ht iX1 tyX1 tyX1_ok nmX1 hown hK hP hD hS 0 rfl rfl 4 (by decide) (ht _ w_348) (fun _ h9 => h9) rfl hin rfl (by decide +kernel) rfl rfl (Nat.le_of_ble_eq_true rfl) dX1_init_32 (fun H locs hP hD hS => ?_)
  have hP : va_P (dC, dI) vwCl [(h0, .inr (1, [.int 0, .long 1, .ref q_1, .ref q_2, .ref q_3])), (q_1, .inl (cI, 5, .inl (fun _ => 0))), (q_2, .inl (cJ, 5, .inr (.inl (fun _ => 0)))), (q_3, .inl (cJ, 5, .inr (.inl (fun _ => 0))))] H := hP
  have hD : va_D A [(h0, .inr (1, [.int 0, .long 1, .ref q_1, .ref q_2, .ref q_3])), (q_1, .inl (cI, 5, .inl (fun _ => 0))), (q_2, .inl (cJ, 5, .inr (.inl (fun _ => 0)))), (q_3, .inl (cJ, 5, .inr (.inl (fun _ => 0))))] := hD
  have hP9 := hP.sub (ws' := [(h0, .inr (1, [.int 0, .long 1, .ref q_1, .ref q_2, .ref q_3])), (q_1, .inl (cI, 5, .inl (fun _ => 0))), (q_2, .inl (cJ, 5, .inr (.inl (fun _ => 0)))), (q_3, .inl (cJ, 5, .inr (.inl (fun _ => 0))))]) [0, 1, 2, 3] rfl
  have hD9 := hD.sub (ws' := [(h0, .inr (1, [.int 0, .long 1, .ref q_1, .ref q_2, .ref q_3])), (q_1, .inl (cI, 5, .inl (fun _ => 0))), (q_2, .inl (cJ, 5, .inr (.inl (fun _ => 0)))), (q_3, .inl (cJ, 5, .inr (.inl (fun _ => 0))))]) [0, 1, 2, 3] (by decide) rfl
  refine W.widen (k := 3) (n := 15) (Nat.le_of_ble_eq_true rfl) (Nat.le_of_ble_eq_true rfl) ?_
  exact W.vret hx hb hr (fun t ht hW => ⟨⟨(fun k => match k with | 0 => q_1 | 1 => q_2 | _ => q_3), rfl, trivial, ⟨by rw [ht]; exact hP9, hD9⟩⟩, hS.F ht⟩) hS.2.2 dX1_init_35
set_option maxHeartbeats 4000000 in
set_option maxRecDepth 100000 in
theorem k_X4_init (l : Launch) (dC : Nat → ClassId) (dI : Nat → Nat → Nat) (cB cI cJ cZ cL : ClassId) (sz : Nat) (h0 : Nat)  : Met l yX4_init (wy yX4_init cX4_init 1 none) ({ frames := 1, cells := 2, slots := 10, locals := 40 }) (va_Pc [.ref h0] (fun U => U.heap.size = sz ∧ va_P (dC, dI) vwCl [(h0, .inr (4, [.int 0, .int 0, .int 0, .int 0, .null, .null]))] U.heap ∧ va_K (dC, dI) vwCl (tyL cB cI cJ cZ cL) U ∧ va_D (fun _ => True) [(h0, .inr (4, [.int 0, .int 0, .int 0, .int 0, .null, .null]))])) (va_Qv (fun _ => True) (fun (u : Nat → Nat) t => va_P (dC, dI) vwCl [(h0, .inr (4, [.int 0, .int 0, .int 0, .int (-1), .ref (u 0), .ref (u 1)])), ((u 0), .inl (cI, 5, .inl (fun _ => 0))), ((u 1), .inl (cI, 5, .inl (fun _ => 0)))] t.heap ∧ va_D (va_A [(h0, .inr (4, [.int 0, .int 0, .int 0, .int 0, .null, .null]))] sz) [(h0, .inr (4, [.int 0, .int 0, .int 0, .int (-1), .ref (u 0), .ref (u 1)])), ((u 0), .inl (cI, 5, .inl (fun _ => 0))), ((u 1), .inl (cI, 5, .inl (fun _ => 0)))]) (va_A [(h0, .inr (4, [.int 0, .int 0, .int 0, .int 0, .null, .null]))] sz)) 2 10 (va_A [(h0, .inr (4, [.int 0, .int 0, .int 0, .int 0, .null, .null]))] sz) := by
  refine Met.ofW (cc := cX4_init) (maxL := 1) (ret := none) (by decide) rfl ?_
  intro p e s m args below meth c s₁ B hml hv
  obtain ⟨rfl, hsz, hP, hK, hD0⟩ := hv
  have hx := B.exec
  have hb := B.bytes
  have hr := B.returns
  have ht : ∀ w ∈ lw_ok, w.before _ s = true := fun w h => atoms_spec (ws := wy yX4_init cX4_init 1 none) B.pre w (List.mem_cons_of_mem _ h)
  have hown : s.vm.findClass RX4 = some m.cls := findClass_of_methodNamed B.named
  have hlocks := B.notSynchronized
  have hin : meth.name = "<init>" := (name_of_methodNamed B.named B.method).1
  subst hsz
  have hD := hD0.self (sz := s.heap.size)
  generalize hAe : va_A [(h0, .inr (4, [.int 0, .int 0, .int 0, .int 0, .null, .null]))] s.heap.size = A at hD ⊢
  have hA : ∀ q : Nat, s.heap.size ≤ q → A q := fun q h => by rw [← hAe]; exact Or.inr h
  have hS : va_S A s.heap s.heap [] := va_S.rf
  have hl := lv_entry ([.ref h0]) (n := 1) (Nat.le_of_ble_eq_true rfl)
  rw [lg_entry_eq]
  generalize (lg_sl ([.ref h0]) ++ List.replicate (1 - (lg_sl ([.ref h0])).length) Slot.unset).toArray = ls at hl ⊢
  have hl : lv_has ls 1 [(0, .ref h0)] := hl
  have hP : va_P (dC, dI) vwCl [(h0, .inr (4, [.int 0, .int 0, .int 0, .int 0, .null, .null]))] s.heap := hP
  have hD : va_D A [(h0, .inr (4, [.int 0, .int 0, .int 0, .int 0, .null, .null]))] := hD
  refine lv_aload_n hx hb dX4_init_0 rfl (lv_at hl 0 rfl) ?_
  refine W.objInit hx hb hown (ht _ w_307) (ht _ w_129) (ht _ w_130) rfl (by rw [hml]; exact hl.1) rfl dX4_init_1 (Nat.le_of_ble_eq_true rfl) (Nat.le_of_ble_eq_true rfl) ?_
  refine W.eq (g2 := F0 m 4 ls []) rfl ?_
  refine lv_aload_n hx hb dX4_init_4 rfl (lv_at hl 0 rfl) ?_
  refine lv_iconst (v := 0) hx hb dX4_init_5 (by decide) ?_
  refine va_put (D := (dC, dI)) (ci := 4) (v := .int 0) (ty := .int) (C := RX4) (T := TX4) (N := 6) hx hb ht iX4 tyX4 tyX4_ok nmX4 hown hK hP hD hS 0 rfl rfl 0 (by decide) (ht _ w_308) (fun _ h9 => h9) rfl (by decide +kernel) rfl rfl (Nat.le_of_ble_eq_true rfl) dX4_init_6 (fun H locs hP hD hS => ?_)
  have hP : va_P (dC, dI) vwCl [(h0, .inr (4, [.int 0, .int 0, .int 0, .int 0, .null, .null]))] H := hP
  have hD : va_D A [(h0, .inr (4, [.int 0, .int 0, .int 0, .int 0, .null, .null]))] := hD
  refine lv_aload_n hx hb dX4_init_9 rfl (lv_at hl 0 rfl) ?_
  refine lv_iconst (v := 0) hx hb dX4_init_10 (by decide) ?_
  refine va_put (D := (dC, dI)) (ci := 4) (v := .int 0) (ty := .int) (C := RX4) (T := TX4) (N := 6) hx hb ht iX4 tyX4 tyX4_ok nmX4 hown hK hP hD hS 0 rfl rfl 1 (by decide) (ht _ w_310) (fun _ h9 => h9) rfl (by decide +kernel) rfl rfl (Nat.le_of_ble_eq_true rfl) dX4_init_11 (fun H locs hP hD hS => ?_)
  have hP : va_P (dC, dI) vwCl [(h0, .inr (4, [.int 0, .int 0, .int 0, .int 0, .null, .null]))] H := hP
  have hD : va_D A [(h0, .inr (4, [.int 0, .int 0, .int 0, .int 0, .null, .null]))] := hD
  refine lv_aload_n hx hb dX4_init_14 rfl (lv_at hl 0 rfl) ?_
  refine lv_iconst (v := 0) hx hb dX4_init_15 (by decide) ?_
  refine va_put (D := (dC, dI)) (ci := 4) (v := .int 0) (ty := .int) (C := RX4) (T := TX4) (N := 6) hx hb ht iX4 tyX4 tyX4_ok nmX4 hown hK hP hD hS 0 rfl rfl 2 (by decide) (ht _ w_312) (fun _ h9 => h9) rfl (by decide +kernel) rfl rfl (Nat.le_of_ble_eq_true rfl) dX4_init_16 (fun H locs hP hD hS => ?_)
  have hP : va_P (dC, dI) vwCl [(h0, .inr (4, [.int 0, .int 0, .int 0, .int 0, .null, .null]))] H := hP
  have hD : va_D A [(h0, .inr (4, [.int 0, .int 0, .int 0, .int 0, .null, .null]))] := hD
  refine lv_aload_n hx hb dX4_init_19 rfl (lv_at hl 0 rfl) ?_
  refine lv_iconst (v := (-1)) hx hb dX4_init_20 (by decide) ?_
  refine va_put (D := (dC, dI)) (ci := 4) (v := .int (-1)) (ty := .int) (C := RX4) (T := TX4) (N := 6) hx hb ht iX4 tyX4 tyX4_ok nmX4 hown hK hP hD hS 0 rfl rfl 3 (by decide) (ht _ w_314) (fun _ h9 => h9) rfl (by decide +kernel) rfl rfl (Nat.le_of_ble_eq_true rfl) dX4_init_21 (fun H locs hP hD hS => ?_)
  have hP : va_P (dC, dI) vwCl [(h0, .inr (4, [.int 0, .int 0, .int 0, .int (-1), .null, .null]))] H := hP
  have hD : va_D A [(h0, .inr (4, [.int 0, .int 0, .int 0, .int (-1), .null, .null]))] := hD
  refine lv_aload_n hx hb dX4_init_24 rfl (lv_at hl 0 rfl) ?_
  refine lv_iconst (v := 5) hx hb dX4_init_25 (by decide) ?_
  refine va_newa (atype := .int) (ty := .int) (a0 := (5, .inl (fun _ => 0))) hx hb (ht _ w_170) rfl hK hP hD hS hA (fun _ => rfl) (by decide) (by decide) (by decide) (Nat.le_of_ble_eq_true rfl) (Nat.le_of_ble_eq_true rfl) dX4_init_26 (fun q_1 cA H hK1 hP hD hS => ?_)
  have ecA := tyI_one hK1
  subst ecA
  have hP : va_P (dC, dI) vwCl [(h0, .inr (4, [.int 0, .int 0, .int 0, .int (-1), .null, .null])), (q_1, .inl (cI, 5, .inl (fun _ => 0)))] H := hP
  have hD : va_D A [(h0, .inr (4, [.int 0, .int 0, .int 0, .int (-1), .null, .null])), (q_1, .inl (cI, 5, .inl (fun _ => 0)))] := hD
  refine W.widen (k := 1) (n := 5) (Nat.le_of_ble_eq_true rfl) (Nat.le_of_ble_eq_true rfl) ?_
  refine va_putF (D := (dC, dI)) (ci := 4) (v := .ref q_1) (ty := .array .int) (C := RX4) (T := TX4) (N := 6) hx hb ht iX4 tyX4 tyX4_ok nmX4 hown hK hP hD hS 0 rfl rfl 4 (by decide) (ht _ w_316) (fun _ h9 => h9) rfl hin rfl (by decide +kernel) rfl rfl (Nat.le_of_ble_eq_true rfl) dX4_init_28 (fun H locs hP hD hS => ?_)
  have hP : va_P (dC, dI) vwCl [(h0, .inr (4, [.int 0, .int 0, .int 0, .int (-1), .ref q_1, .null])), (q_1, .inl (cI, 5, .inl (fun _ => 0)))] H := hP
  have hD : va_D A [(h0, .inr (4, [.int 0, .int 0, .int 0, .int (-1), .ref q_1, .null])), (q_1, .inl (cI, 5, .inl (fun _ => 0)))] := hD
  refine lv_aload_n hx hb dX4_init_31 rfl (lv_at hl 0 rfl) ?_
  refine lv_iconst (v := 5) hx hb dX4_init_32 (by decide) ?_
  refine va_newa (atype := .int) (ty := .int) (a0 := (5, .inl (fun _ => 0))) hx hb (ht _ w_170) rfl hK hP hD hS hA (fun _ => rfl) (by decide) (by decide) (by decide) (Nat.le_of_ble_eq_true rfl) (Nat.le_of_ble_eq_true rfl) dX4_init_33 (fun q_2 cA H hK1 hP hD hS => ?_)
  have ecA := tyI_one hK1
  subst ecA
  have hP : va_P (dC, dI) vwCl [(h0, .inr (4, [.int 0, .int 0, .int 0, .int (-1), .ref q_1, .null])), (q_1, .inl (cI, 5, .inl (fun _ => 0))), (q_2, .inl (cI, 5, .inl (fun _ => 0)))] H := hP
  have hD : va_D A [(h0, .inr (4, [.int 0, .int 0, .int 0, .int (-1), .ref q_1, .null])), (q_1, .inl (cI, 5, .inl (fun _ => 0))), (q_2, .inl (cI, 5, .inl (fun _ => 0)))] := hD
  refine W.widen (k := 2) (n := 10) (Nat.le_of_ble_eq_true rfl) (Nat.le_of_ble_eq_true rfl) ?_
  refine va_putF (D := (dC, dI)) (ci := 4) (v := .ref q_2) (ty := .array .int) (C := RX4) (T := TX4) (N := 6) hx hb ht iX4 tyX4 tyX4_ok nmX4 hown hK hP hD hS 0 rfl rfl 5 (by decide) (ht _ w_319) (fun _ h9 => h9) rfl hin rfl (by decide +kernel) rfl rfl (Nat.le_of_ble_eq_true rfl) dX4_init_35 (fun H locs hP hD hS => ?_)
  have hP : va_P (dC, dI) vwCl [(h0, .inr (4, [.int 0, .int 0, .int 0, .int (-1), .ref q_1, .ref q_2])), (q_1, .inl (cI, 5, .inl (fun _ => 0))), (q_2, .inl (cI, 5, .inl (fun _ => 0)))] H := hP
  have hD : va_D A [(h0, .inr (4, [.int 0, .int 0, .int 0, .int (-1), .ref q_1, .ref q_2])), (q_1, .inl (cI, 5, .inl (fun _ => 0))), (q_2, .inl (cI, 5, .inl (fun _ => 0)))] := hD
  have hP9 := hP.sub (ws' := [(h0, .inr (4, [.int 0, .int 0, .int 0, .int (-1), .ref q_1, .ref q_2])), (q_1, .inl (cI, 5, .inl (fun _ => 0))), (q_2, .inl (cI, 5, .inl (fun _ => 0)))]) [0, 1, 2] rfl
  have hD9 := hD.sub (ws' := [(h0, .inr (4, [.int 0, .int 0, .int 0, .int (-1), .ref q_1, .ref q_2])), (q_1, .inl (cI, 5, .inl (fun _ => 0))), (q_2, .inl (cI, 5, .inl (fun _ => 0)))]) [0, 1, 2] (by decide) rfl
  refine W.widen (k := 2) (n := 10) (Nat.le_of_ble_eq_true rfl) (Nat.le_of_ble_eq_true rfl) ?_
  exact W.vret hx hb hr (fun t ht hW => ⟨⟨(fun k => match k with | 0 => q_1 | _ => q_2), rfl, trivial, ⟨by rw [ht]; exact hP9, hD9⟩⟩, hS.F ht⟩) hS.2.2 dX4_init_38
set_option maxHeartbeats 4000000 in
set_option maxRecDepth 100000 in
theorem k_X5_init (l : Launch) (dC : Nat → ClassId) (dI : Nat → Nat → Nat) (cB cI cJ cZ cL : ClassId) (sz : Nat) (h0 : Nat)  : Met l yX5_init (wy yX5_init cX5_init 1 none) ({ frames := 1, cells := 1, slots := 500, locals := 40 }) (va_Pc [.ref h0] (fun U => U.heap.size = sz ∧ va_P (dC, dI) vwCl [(h0, .inr (5, [.null, .int 0]))] U.heap ∧ va_K (dC, dI) vwCl (tyL cB cI cJ cZ cL) U ∧ va_D (fun _ => True) [(h0, .inr (5, [.null, .int 0]))])) (va_Qv (fun _ => True) (fun (u : Nat → Nat) t => va_P (dC, dI) vwCl [(h0, .inr (5, [.ref (u 0), .int 0])), ((u 0), .inl (cB, 500, .inl (fun _ => 0)))] t.heap ∧ va_D (va_A [(h0, .inr (5, [.null, .int 0]))] sz) [(h0, .inr (5, [.ref (u 0), .int 0])), ((u 0), .inl (cB, 500, .inl (fun _ => 0)))]) (va_A [(h0, .inr (5, [.null, .int 0]))] sz)) 1 500 (va_A [(h0, .inr (5, [.null, .int 0]))] sz) := by
  refine Met.ofW (cc := cX5_init) (maxL := 1) (ret := none) (by decide) rfl ?_
  intro p e s m args below meth c s₁ B hml hv
  obtain ⟨rfl, hsz, hP, hK, hD0⟩ := hv
  have hx := B.exec
  have hb := B.bytes
  have hr := B.returns
  have ht : ∀ w ∈ lw_ok, w.before _ s = true := fun w h => atoms_spec (ws := wy yX5_init cX5_init 1 none) B.pre w (List.mem_cons_of_mem _ h)
  have hown : s.vm.findClass RX5 = some m.cls := findClass_of_methodNamed B.named
  have hlocks := B.notSynchronized
  have hin : meth.name = "<init>" := (name_of_methodNamed B.named B.method).1
  subst hsz
  have hD := hD0.self (sz := s.heap.size)
  generalize hAe : va_A [(h0, .inr (5, [.null, .int 0]))] s.heap.size = A at hD ⊢
  have hA : ∀ q : Nat, s.heap.size ≤ q → A q := fun q h => by rw [← hAe]; exact Or.inr h
  have hS : va_S A s.heap s.heap [] := va_S.rf
  have hl := lv_entry ([.ref h0]) (n := 1) (Nat.le_of_ble_eq_true rfl)
  rw [lg_entry_eq]
  generalize (lg_sl ([.ref h0]) ++ List.replicate (1 - (lg_sl ([.ref h0])).length) Slot.unset).toArray = ls at hl ⊢
  have hl : lv_has ls 1 [(0, .ref h0)] := hl
  have hP : va_P (dC, dI) vwCl [(h0, .inr (5, [.null, .int 0]))] s.heap := hP
  have hD : va_D A [(h0, .inr (5, [.null, .int 0]))] := hD
  refine lv_aload_n hx hb dX5_init_0 rfl (lv_at hl 0 rfl) ?_
  refine W.objInit hx hb hown (ht _ w_136) (ht _ w_129) (ht _ w_130) rfl (by rw [hml]; exact hl.1) rfl dX5_init_1 (Nat.le_of_ble_eq_true rfl) (Nat.le_of_ble_eq_true rfl) ?_
  refine W.eq (g2 := F0 m 4 ls []) rfl ?_
  refine lv_aload_n hx hb dX5_init_4 rfl (lv_at hl 0 rfl) ?_
  refine lv_sipush (v := 500) hx hb dX5_init_5 (by decide) ?_
  refine va_newa (atype := .byte) (ty := .byte) (a0 := (500, .inl (fun _ => 0))) hx hb (ht _ w_146) rfl hK hP hD hS hA (fun _ => rfl) (by decide) (by decide) (by decide) (Nat.le_of_ble_eq_true rfl) (Nat.le_of_ble_eq_true rfl) dX5_init_8 (fun q_1 cA H hK1 hP hD hS => ?_)
  have ecA := tyB_one hK1
  subst ecA
  have hP : va_P (dC, dI) vwCl [(h0, .inr (5, [.null, .int 0])), (q_1, .inl (cB, 500, .inl (fun _ => 0)))] H := hP
  have hD : va_D A [(h0, .inr (5, [.null, .int 0])), (q_1, .inl (cB, 500, .inl (fun _ => 0)))] := hD
  refine W.widen (k := 1) (n := 500) (Nat.le_of_ble_eq_true rfl) (Nat.le_of_ble_eq_true rfl) ?_
  refine va_putF (D := (dC, dI)) (ci := 5) (v := .ref q_1) (ty := .array .byte) (C := RX5) (T := TX5) (N := 2) hx hb ht iX5 tyX5 tyX5_ok nmX5 hown hK hP hD hS 0 rfl rfl 0 (by decide) (ht _ w_137) (fun _ h9 => h9) rfl hin rfl (by decide +kernel) rfl rfl (Nat.le_of_ble_eq_true rfl) dX5_init_10 (fun H locs hP hD hS => ?_)
  have hP : va_P (dC, dI) vwCl [(h0, .inr (5, [.ref q_1, .int 0])), (q_1, .inl (cB, 500, .inl (fun _ => 0)))] H := hP
  have hD : va_D A [(h0, .inr (5, [.ref q_1, .int 0])), (q_1, .inl (cB, 500, .inl (fun _ => 0)))] := hD
  refine lv_aload_n hx hb dX5_init_13 rfl (lv_at hl 0 rfl) ?_
  refine lv_iconst (v := 0) hx hb dX5_init_14 (by decide) ?_
  refine va_put (D := (dC, dI)) (ci := 5) (v := .int 0) (ty := .int) (C := RX5) (T := TX5) (N := 2) hx hb ht iX5 tyX5 tyX5_ok nmX5 hown hK hP hD hS 0 rfl rfl 1 (by decide) (ht _ w_138) (fun _ h9 => h9) rfl (by decide +kernel) rfl rfl (Nat.le_of_ble_eq_true rfl) dX5_init_15 (fun H locs hP hD hS => ?_)
  have hP : va_P (dC, dI) vwCl [(h0, .inr (5, [.ref q_1, .int 0])), (q_1, .inl (cB, 500, .inl (fun _ => 0)))] H := hP
  have hD : va_D A [(h0, .inr (5, [.ref q_1, .int 0])), (q_1, .inl (cB, 500, .inl (fun _ => 0)))] := hD
  have hP9 := hP.sub (ws' := [(h0, .inr (5, [.ref q_1, .int 0])), (q_1, .inl (cB, 500, .inl (fun _ => 0)))]) [0, 1] rfl
  have hD9 := hD.sub (ws' := [(h0, .inr (5, [.ref q_1, .int 0])), (q_1, .inl (cB, 500, .inl (fun _ => 0)))]) [0, 1] (by decide) rfl
  refine W.widen (k := 1) (n := 500) (Nat.le_of_ble_eq_true rfl) (Nat.le_of_ble_eq_true rfl) ?_
  exact W.vret hx hb hr (fun t ht hW => ⟨⟨(fun _ => q_1), rfl, trivial, ⟨by rw [ht]; exact hP9, hD9⟩⟩, hS.F ht⟩) hS.2.2 dX5_init_18
set_option maxHeartbeats 4000000 in
set_option maxRecDepth 100000 in
theorem k_X7_init (l : Launch) (dC : Nat → ClassId) (dI : Nat → Nat → Nat) (cB cI cJ cZ cL : ClassId) (sz : Nat) (h0 : Nat)  : Met l yX7_init (wy yX7_init cX7_init 1 none) ({ frames := 1, cells := 3, slots := 1503, locals := 40 }) (va_Pc [.ref h0] (fun U => U.heap.size = sz ∧ va_P (dC, dI) vwCl [(h0, .inr (7, [.null, .null, .null, .int 0]))] U.heap ∧ va_K (dC, dI) vwCl (tyL cB cI cJ cZ cL) U ∧ va_D (fun _ => True) [(h0, .inr (7, [.null, .null, .null, .int 0]))])) (va_Qv (fun _ => True) (fun (u : Nat → Nat) t => va_P (dC, dI) vwCl [(h0, .inr (7, [.ref (u 0), .ref (u 1), .ref (u 2), .int 0])), ((u 0), .inl (cI, 501, .inl (fun _ => 0))), ((u 1), .inl (cI, 501, .inl (fun _ => 0))), ((u 2), .inl (cI, 501, .inl (fun _ => 0)))] t.heap ∧ va_D (va_A [(h0, .inr (7, [.null, .null, .null, .int 0]))] sz) [(h0, .inr (7, [.ref (u 0), .ref (u 1), .ref (u 2), .int 0])), ((u 0), .inl (cI, 501, .inl (fun _ => 0))), ((u 1), .inl (cI, 501, .inl (fun _ => 0))), ((u 2), .inl (cI, 501, .inl (fun _ => 0)))]) (va_A [(h0, .inr (7, [.null, .null, .null, .int 0]))] sz)) 3 1503 (va_A [(h0, .inr (7, [.null, .null, .null, .int 0]))] sz) := by
  refine Met.ofW (cc := cX7_init) (maxL := 1) (ret := none) (by decide) rfl ?_
  intro p e s m args below meth c s₁ B hml hv
  obtain ⟨rfl, hsz, hP, hK, hD0⟩ := hv
  have hx := B.exec
  have hb := B.bytes
  have hr := B.returns
  have ht : ∀ w ∈ lw_ok, w.before _ s = true := fun w h => atoms_spec (ws := wy yX7_init cX7_init 1 none) B.pre w (List.mem_cons_of_mem _ h)
  have hown : s.vm.findClass RX7 = some m.cls := findClass_of_methodNamed B.named
  have hlocks := B.notSynchronized
  have hin : meth.name = "<init>" := (name_of_methodNamed B.named B.method).1
  subst hsz
  have hD := hD0.self (sz := s.heap.size)
  generalize hAe : va_A [(h0, .inr (7, [.null, .null, .null, .int 0]))] s.heap.size = A at hD ⊢
  have hA : ∀ q : Nat, s.heap.size ≤ q → A q := fun q h => by rw [← hAe]; exact Or.inr h
  have hS : va_S A s.heap s.heap [] := va_S.rf
  have hl := lv_entry ([.ref h0]) (n := 1) (Nat.le_of_ble_eq_true rfl)
  rw [lg_entry_eq]
  generalize (lg_sl ([.ref h0]) ++ List.replicate (1 - (lg_sl ([.ref h0])).length) Slot.unset).toArray = ls at hl ⊢
  have hl : lv_has ls 1 [(0, .ref h0)] := hl
  have hP : va_P (dC, dI) vwCl [(h0, .inr (7, [.null, .null, .null, .int 0]))] s.heap := hP
  have hD : va_D A [(h0, .inr (7, [.null, .null, .null, .int 0]))] := hD
  refine lv_aload_n hx hb dX7_init_0 rfl (lv_at hl 0 rfl) ?_
  refine W.objInit hx hb hown (ht _ w_152) (ht _ w_129) (ht _ w_130) rfl (by rw [hml]; exact hl.1) rfl dX7_init_1 (Nat.le_of_ble_eq_true rfl) (Nat.le_of_ble_eq_true rfl) ?_
  refine W.eq (g2 := F0 m 4 ls []) rfl ?_
  refine lv_aload_n hx hb dX7_init_4 rfl (lv_at hl 0 rfl) ?_
  refine lv_sipush (v := 501) hx hb dX7_init_5 (by decide) ?_
  refine va_newa (atype := .int) (ty := .int) (a0 := (501, .inl (fun _ => 0))) hx hb (ht _ w_170) rfl hK hP hD hS hA (fun _ => rfl) (by decide) (by decide) (by decide) (Nat.le_of_ble_eq_true rfl) (Nat.le_of_ble_eq_true rfl) dX7_init_8 (fun q_1 cA H hK1 hP hD hS => ?_)
  have ecA := tyI_one hK1
  subst ecA
  have hP : va_P (dC, dI) vwCl [(h0, .inr (7, [.null, .null, .null, .int 0])), (q_1, .inl (cI, 501, .inl (fun _ => 0)))] H := hP
  have hD : va_D A [(h0, .inr (7, [.null, .null, .null, .int 0])), (q_1, .inl (cI, 501, .inl (fun _ => 0)))] := hD
  refine W.widen (k := 1) (n := 501) (Nat.le_of_ble_eq_true rfl) (Nat.le_of_ble_eq_true rfl) ?_
  refine va_putF (D := (dC, dI)) (ci := 7) (v := .ref q_1) (ty := .array .int) (C := RX7) (T := TX7) (N := 4) hx hb ht iX7 tyX7 tyX7_ok nmX7 hown hK hP hD hS 0 rfl rfl 0 (by decide) (ht _ w_153) (fun _ h9 => h9) rfl hin rfl (by decide +kernel) rfl rfl (Nat.le_of_ble_eq_true rfl) dX7_init_10 (fun H locs hP hD hS => ?_)
  have hP : va_P (dC, dI) vwCl [(h0, .inr (7, [.ref q_1, .null, .null, .int 0])), (q_1, .inl (cI, 501, .inl (fun _ => 0)))] H := hP
  have hD : va_D A [(h0, .inr (7, [.ref q_1, .null, .null, .int 0])), (q_1, .inl (cI, 501, .inl (fun _ => 0)))] := hD
  refine lv_aload_n hx hb dX7_init_13 rfl (lv_at hl 0 rfl) ?_
  refine lv_sipush (v := 501) hx hb dX7_init_14 (by decide) ?_
  refine va_newa (atype := .int) (ty := .int) (a0 := (501, .inl (fun _ => 0))) hx hb (ht _ w_170) rfl hK hP hD hS hA (fun _ => rfl) (by decide) (by decide) (by decide) (Nat.le_of_ble_eq_true rfl) (Nat.le_of_ble_eq_true rfl) dX7_init_17 (fun q_2 cA H hK1 hP hD hS => ?_)
  have ecA := tyI_one hK1
  subst ecA
  have hP : va_P (dC, dI) vwCl [(h0, .inr (7, [.ref q_1, .null, .null, .int 0])), (q_1, .inl (cI, 501, .inl (fun _ => 0))), (q_2, .inl (cI, 501, .inl (fun _ => 0)))] H := hP
  have hD : va_D A [(h0, .inr (7, [.ref q_1, .null, .null, .int 0])), (q_1, .inl (cI, 501, .inl (fun _ => 0))), (q_2, .inl (cI, 501, .inl (fun _ => 0)))] := hD
  refine W.widen (k := 2) (n := 1002) (Nat.le_of_ble_eq_true rfl) (Nat.le_of_ble_eq_true rfl) ?_
  refine va_putF (D := (dC, dI)) (ci := 7) (v := .ref q_2) (ty := .array .int) (C := RX7) (T := TX7) (N := 4) hx hb ht iX7 tyX7 tyX7_ok nmX7 hown hK hP hD hS 0 rfl rfl 1 (by decide) (ht _ w_155) (fun _ h9 => h9) rfl hin rfl (by decide +kernel) rfl rfl (Nat.le_of_ble_eq_true rfl) dX7_init_19 (fun H locs hP hD hS => ?_)
  have hP : va_P (dC, dI) vwCl [(h0, .inr (7, [.ref q_1, .ref q_2, .null, .int 0])), (q_1, .inl (cI, 501, .inl (fun _ => 0))), (q_2, .inl (cI, 501, .inl (fun _ => 0)))] H := hP
  have hD : va_D A [(h0, .inr (7, [.ref q_1, .ref q_2, .null, .int 0])), (q_1, .inl (cI, 501, .inl (fun _ => 0))), (q_2, .inl (cI, 501, .inl (fun _ => 0)))] := hD
  refine lv_aload_n hx hb dX7_init_22 rfl (lv_at hl 0 rfl) ?_
  refine lv_sipush (v := 501) hx hb dX7_init_23 (by decide) ?_
  refine va_newa (atype := .int) (ty := .int) (a0 := (501, .inl (fun _ => 0))) hx hb (ht _ w_170) rfl hK hP hD hS hA (fun _ => rfl) (by decide) (by decide) (by decide) (Nat.le_of_ble_eq_true rfl) (Nat.le_of_ble_eq_true rfl) dX7_init_26 (fun q_3 cA H hK1 hP hD hS => ?_)
  have ecA := tyI_one hK1
  subst ecA
  have hP : va_P (dC, dI) vwCl [(h0, .inr (7, [.ref q_1, .ref q_2, .null, .int 0])), (q_1, .inl (cI, 501, .inl (fun _ => 0))), (q_2, .inl (cI, 501, .inl (fun _ => 0))), (q_3, .inl (cI, 501, .inl (fun _ => 0)))] H := hP
  have hD : va_D A [(h0, .inr (7, [.ref q_1, .ref q_2, .null, .int 0])), (q_1, .inl (cI, 501, .inl (fun _ => 0))), (q_2, .inl (cI, 501, .inl (fun _ => 0))), (q_3, .inl (cI, 501, .inl (fun _ => 0)))] := hD
  refine W.widen (k := 3) (n := 1503) (Nat.le_of_ble_eq_true rfl) (Nat.le_of_ble_eq_true rfl) ?_
  refine va_putF (D := (dC, dI)) (ci := 7) (v := .ref q_3) (ty := .array .int) (C := RX7) (T := TX7) (N := 4) hx hb ht iX7 tyX7 tyX7_ok nmX7 hown hK hP hD hS 0 rfl rfl 2 (by decide) (ht _ w_157) (fun _ h9 => h9) rfl hin rfl (by decide +kernel) rfl rfl (Nat.le_of_ble_eq_true rfl) dX7_init_28 (fun H locs hP hD hS => ?_)
  have hP : va_P (dC, dI) vwCl [(h0, .inr (7, [.ref q_1, .ref q_2, .ref q_3, .int 0])), (q_1, .inl (cI, 501, .inl (fun _ => 0))), (q_2, .inl (cI, 501, .inl (fun _ => 0))), (q_3, .inl (cI, 501, .inl (fun _ => 0)))] H := hP
  have hD : va_D A [(h0, .inr (7, [.ref q_1, .ref q_2, .ref q_3, .int 0])), (q_1, .inl (cI, 501, .inl (fun _ => 0))), (q_2, .inl (cI, 501, .inl (fun _ => 0))), (q_3, .inl (cI, 501, .inl (fun _ => 0)))] := hD
  refine lv_aload_n hx hb dX7_init_31 rfl (lv_at hl 0 rfl) ?_
  refine lv_iconst (v := 0) hx hb dX7_init_32 (by decide) ?_
  refine va_put (D := (dC, dI)) (ci := 7) (v := .int 0) (ty := .int) (C := RX7) (T := TX7) (N := 4) hx hb ht iX7 tyX7 tyX7_ok nmX7 hown hK hP hD hS 0 rfl rfl 3 (by decide) (ht _ w_159) (fun _ h9 => h9) rfl (by decide +kernel) rfl rfl (Nat.le_of_ble_eq_true rfl) dX7_init_33 (fun H locs hP hD hS => ?_)
  have hP : va_P (dC, dI) vwCl [(h0, .inr (7, [.ref q_1, .ref q_2, .ref q_3, .int 0])), (q_1, .inl (cI, 501, .inl (fun _ => 0))), (q_2, .inl (cI, 501, .inl (fun _ => 0))), (q_3, .inl (cI, 501, .inl (fun _ => 0)))] H := hP
  have hD : va_D A [(h0, .inr (7, [.ref q_1, .ref q_2, .ref q_3, .int 0])), (q_1, .inl (cI, 501, .inl (fun _ => 0))), (q_2, .inl (cI, 501, .inl (fun _ => 0))), (q_3, .inl (cI, 501, .inl (fun _ => 0)))] := hD
  have hP9 := hP.sub (ws' := [(h0, .inr (7, [.ref q_1, .ref q_2, .ref q_3, .int 0])), (q_1, .inl (cI, 501, .inl (fun _ => 0))), (q_2, .inl (cI, 501, .inl (fun _ => 0))), (q_3, .inl (cI, 501, .inl (fun _ => 0)))]) [0, 1, 2, 3] rfl
  have hD9 := hD.sub (ws' := [(h0, .inr (7, [.ref q_1, .ref q_2, .ref q_3, .int 0])), (q_1, .inl (cI, 501, .inl (fun _ => 0))), (q_2, .inl (cI, 501, .inl (fun _ => 0))), (q_3, .inl (cI, 501, .inl (fun _ => 0)))]) [0, 1, 2, 3] (by decide) rfl
  refine W.widen (k := 3) (n := 1503) (Nat.le_of_ble_eq_true rfl) (Nat.le_of_ble_eq_true rfl) ?_
  exact W.vret hx hb hr (fun t ht hW => ⟨⟨(fun k => match k with | 0 => q_1 | 1 => q_2 | _ => q_3), rfl, trivial, ⟨by rw [ht]; exact hP9, hD9⟩⟩, hS.F ht⟩) hS.2.2 dX7_init_36
set_option maxHeartbeats 4000000 in
set_option maxRecDepth 100000 in
theorem k_X2_init (l : Launch) (dC : Nat → ClassId) (dI : Nat → Nat → Nat) (cB cI cJ cZ cL : ClassId) (sz : Nat) (h0 : Nat)  : Met l yX2_init (wy yX2_init cX2_init 1 none) ({ frames := 1, cells := 8, slots := 115, locals := 40 }) (va_Pc [.ref h0] (fun U => U.heap.size = sz ∧ va_P (dC, dI) vwCl [(h0, .inr (2, [.int 0, .int 0, .int 0, .int 0, .int 0, .int 0, .int 0, .int 0, .int 0, .null, .null, .null, .null, .null, .null, .null, .null]))] U.heap ∧ va_K (dC, dI) vwCl (tyL cB cI cJ cZ cL) U ∧ va_D (fun _ => True) [(h0, .inr (2, [.int 0, .int 0, .int 0, .int 0, .int 0, .int 0, .int 0, .int 0, .int 0, .null, .null, .null, .null, .null, .null, .null, .null]))])) (va_Qv (fun _ => True) (fun (u : Nat → Nat) t => va_P (dC, dI) vwCl [(h0, .inr (2, [.int 0, .int 0, .int 0, .int 0, .int 0, .int 0, .int 0, .int 0, .int 0, .ref (u 0), .ref (u 1), .ref (u 2), .ref (u 3), .ref (u 4), .ref (u 5), .ref (u 6), .ref (u 7)])), ((u 0), .inl (cI, 5, .inl (fun _ => 0))), ((u 1), .inl (cI, 5, .inl (fun _ => 0))), ((u 2), .inl (cI, 5, .inl (fun _ => 0))), ((u 3), .inl (cI, 30, .inl (fun _ => 0))), ((u 4), .inl (cI, 30, .inl (fun _ => 0))), ((u 5), .inl (cI, 30, .inl (fun _ => 0))), ((u 6), .inl (cI, 5, .inl (fun _ => 0))), ((u 7), .inl (cI, 5, .inl (fun _ => 0)))] t.heap ∧ va_D (va_A [(h0, .inr (2, [.int 0, .int 0, .int 0, .int 0, .int 0, .int 0, .int 0, .int 0, .int 0, .null, .null, .null, .null, .null, .null, .null, .null]))] sz) [(h0, .inr (2, [.int 0, .int 0, .int 0, .int 0, .int 0, .int 0, .int 0, .int 0, .int 0, .ref (u 0), .ref (u 1), .ref (u 2), .ref (u 3), .ref (u 4), .ref (u 5), .ref (u 6), .ref (u 7)])), ((u 0), .inl (cI, 5, .inl (fun _ => 0))), ((u 1), .inl (cI, 5, .inl (fun _ => 0))), ((u 2), .inl (cI, 5, .inl (fun _ => 0))), ((u 3), .inl (cI, 30, .inl (fun _ => 0))), ((u 4), .inl (cI, 30, .inl (fun _ => 0))), ((u 5), .inl (cI, 30, .inl (fun _ => 0))), ((u 6), .inl (cI, 5, .inl (fun _ => 0))), ((u 7), .inl (cI, 5, .inl (fun _ => 0)))]) (va_A [(h0, .inr (2, [.int 0, .int 0, .int 0, .int 0, .int 0, .int 0, .int 0, .int 0, .int 0, .null, .null, .null, .null, .null, .null, .null, .null]))] sz)) 8 115 (va_A [(h0, .inr (2, [.int 0, .int 0, .int 0, .int 0, .int 0, .int 0, .int 0, .int 0, .int 0, .null, .null, .null, .null, .null, .null, .null, .null]))] sz) := by
  refine Met.ofW (cc := cX2_init) (maxL := 1) (ret := none) (by decide) rfl ?_
  intro p e s m args below meth c s₁ B hml hv
  obtain ⟨rfl, hsz, hP, hK, hD0⟩ := hv
  have hx := B.exec
  have hb := B.bytes
  have hr := B.returns
  have ht : ∀ w ∈ lw_ok, w.before _ s = true := fun w h => atoms_spec (ws := wy yX2_init cX2_init 1 none) B.pre w (List.mem_cons_of_mem _ h)
  have hown : s.vm.findClass RX2 = some m.cls := findClass_of_methodNamed B.named
  have hlocks := B.notSynchronized
  have hin : meth.name = "<init>" := (name_of_methodNamed B.named B.method).1
  subst hsz
  have hD := hD0.self (sz := s.heap.size)
  generalize hAe : va_A [(h0, .inr (2, [.int 0, .int 0, .int 0, .int 0, .int 0, .int 0, .int 0, .int 0, .int 0, .null, .null, .null, .null, .null, .null, .null, .null]))] s.heap.size = A at hD ⊢
  have hA : ∀ q : Nat, s.heap.size ≤ q → A q := fun q h => by rw [← hAe]; exact Or.inr h
  have hS : va_S A s.heap s.heap [] := va_S.rf
  have hl := lv_entry ([.ref h0]) (n := 1) (Nat.le_of_ble_eq_true rfl)
  rw [lg_entry_eq]
  generalize (lg_sl ([.ref h0]) ++ List.replicate (1 - (lg_sl ([.ref h0])).length) Slot.unset).toArray = ls at hl ⊢
  have hl : lv_has ls 1 [(0, .ref h0)] := hl
  have hP : va_P (dC, dI) vwCl [(h0, .inr (2, [.int 0, .int 0, .int 0, .int 0, .int 0, .int 0, .int 0, .int 0, .int 0, .null, .null, .null, .null, .null, .null, .null, .null]))] s.heap := hP
  have hD : va_D A [(h0, .inr (2, [.int 0, .int 0, .int 0, .int 0, .int 0, .int 0, .int 0, .int 0, .int 0, .null, .null, .null, .null, .null, .null, .null, .null]))] := hD
  refine lv_aload_n hx hb dX2_init_0 rfl (lv_at hl 0 rfl) ?_
  refine W.objInit hx hb hown (ht _ w_200) (ht _ w_129) (ht _ w_130) rfl (by rw [hml]; exact hl.1) rfl dX2_init_1 (Nat.le_of_ble_eq_true rfl) (Nat.le_of_ble_eq_true rfl) ?_
  refine W.eq (g2 := F0 m 4 ls []) rfl ?_
  refine lv_aload_n hx hb dX2_init_4 rfl (lv_at hl 0 rfl) ?_
  refine lv_iconst (v := 0) hx hb dX2_init_5 (by decide) ?_
  refine va_put (D := (dC, dI)) (ci := 2) (v := .int 0) (ty := .int) (C := RX2) (T := TX2) (N := 17) hx hb ht iX2 tyX2 tyX2_ok nmX2 hown hK hP hD hS 0 rfl rfl 0 (by decide) (ht _ w_201) (fun _ h9 => h9) rfl (by decide +kernel) rfl rfl (Nat.le_of_ble_eq_true rfl) dX2_init_6 (fun H locs hP hD hS => ?_)
  have hP : va_P (dC, dI) vwCl [(h0, .inr (2, [.int 0, .int 0, .int 0, .int 0, .int 0, .int 0, .int 0, .int 0, .int 0, .null, .null, .null, .null, .null, .null, .null, .null]))] H := hP
  have hD : va_D A [(h0, .inr (2, [.int 0, .int 0, .int 0, .int 0, .int 0, .int 0, .int 0, .int 0, .int 0, .null, .null, .null, .null, .null, .null, .null, .null]))] := hD
  refine lv_aload_n hx hb dX2_init_9 rfl (lv_at hl 0 rfl) ?_
  refine lv_iconst (v := 0) hx hb dX2_init_10 (by decide) ?_
  refine va_put (D := (dC, dI)) (ci := 2) (v := .int 0) (ty := .int) (C := RX2) (T := TX2) (N := 17) hx hb ht iX2 tyX2 tyX2_ok nmX2 hown hK hP hD hS 0 rfl rfl 1 (by decide) (ht _ w_204) (fun _ h9 => h9) rfl (by decide +kernel) rfl rfl (Nat.le_of_ble_eq_true rfl) dX2_init_11 (fun H locs hP hD hS => ?_)
  have hP : va_P (dC, dI) vwCl [(h0, .inr (2, [.int 0, .int 0, .int 0, .int 0, .int 0, .int 0, .int 0, .int 0, .int 0, .null, .null, .null, .null, .null, .null, .null, .null]))] H := hP
  have hD : va_D A [(h0, .inr (2, [.int 0, .int 0, .int 0, .int 0, .int 0, .int 0, .int 0, .int 0, .int 0, .null, .null, .null, .null, .null, .null, .null, .null]))] := hD
  refine lv_aload_n hx hb dX2_init_14 rfl (lv_at hl 0 rfl) ?_
  refine lv_iconst (v := 0) hx hb dX2_init_15 (by decide) ?_
  refine va_put (D := (dC, dI)) (ci := 2) (v := .int 0) (ty := .int) (C := RX2) (T := TX2) (N := 17) hx hb ht iX2 tyX2 tyX2_ok nmX2 hown hK hP hD hS 0 rfl rfl 2 (by decide) (ht _ w_207) (fun _ h9 => h9) rfl (by decide +kernel) rfl rfl (Nat.le_of_ble_eq_true rfl) dX2_init_16 (fun H locs hP hD hS => ?_)
  have hP : va_P (dC, dI) vwCl [(h0, .inr (2, [.int 0, .int 0, .int 0, .int 0, .int 0, .int 0, .int 0, .int 0, .int 0, .null, .null, .null, .null, .null, .null, .null, .null]))] H := hP
  have hD : va_D A [(h0, .inr (2, [.int 0, .int 0, .int 0, .int 0, .int 0, .int 0, .int 0, .int 0, .int 0, .null, .null, .null, .null, .null, .null, .null, .null]))] := hD
  refine lv_aload_n hx hb dX2_init_19 rfl (lv_at hl 0 rfl) ?_
  refine lv_iconst (v := 0) hx hb dX2_init_20 (by decide) ?_
  refine va_put (D := (dC, dI)) (ci := 2) (v := .int 0) (ty := .int) (C := RX2) (T := TX2) (N := 17) hx hb ht iX2 tyX2 tyX2_ok nmX2 hown hK hP hD hS 0 rfl rfl 3 (by decide) (ht _ w_211) (fun _ h9 => h9) rfl (by decide +kernel) rfl rfl (Nat.le_of_ble_eq_true rfl) dX2_init_21 (fun H locs hP hD hS => ?_)
  have hP : va_P (dC, dI) vwCl [(h0, .inr (2, [.int 0, .int 0, .int 0, .int 0, .int 0, .int 0, .int 0, .int 0, .int 0, .null, .null, .null, .null, .null, .null, .null, .null]))] H := hP
  have hD : va_D A [(h0, .inr (2, [.int 0, .int 0, .int 0, .int 0, .int 0, .int 0, .int 0, .int 0, .int 0, .null, .null, .null, .null, .null, .null, .null, .null]))] := hD
  refine lv_aload_n hx hb dX2_init_24 rfl (lv_at hl 0 rfl) ?_
  refine lv_iconst (v := 0) hx hb dX2_init_25 (by decide) ?_
  refine va_put (D := (dC, dI)) (ci := 2) (v := .int 0) (ty := .int) (C := RX2) (T := TX2) (N := 17) hx hb ht iX2 tyX2 tyX2_ok nmX2 hown hK hP hD hS 0 rfl rfl 4 (by decide) (ht _ w_214) (fun _ h9 => h9) rfl (by decide +kernel) rfl rfl (Nat.le_of_ble_eq_true rfl) dX2_init_26 (fun H locs hP hD hS => ?_)
  have hP : va_P (dC, dI) vwCl [(h0, .inr (2, [.int 0, .int 0, .int 0, .int 0, .int 0, .int 0, .int 0, .int 0, .int 0, .null, .null, .null, .null, .null, .null, .null, .null]))] H := hP
  have hD : va_D A [(h0, .inr (2, [.int 0, .int 0, .int 0, .int 0, .int 0, .int 0, .int 0, .int 0, .int 0, .null, .null, .null, .null, .null, .null, .null, .null]))] := hD
  refine lv_aload_n hx hb dX2_init_29 rfl (lv_at hl 0 rfl) ?_
  refine lv_iconst (v := 0) hx hb dX2_init_30 (by decide) ?_
  refine va_put (D := (dC, dI)) (ci := 2) (v := .int 0) (ty := .int) (C := RX2) (T := TX2) (N := 17) hx hb ht iX2 tyX2 tyX2_ok nmX2 hown hK hP hD hS 0 rfl rfl 5 (by decide) (ht _ w_217) (fun _ h9 => h9) rfl (by decide +kernel) rfl rfl (Nat.le_of_ble_eq_true rfl) dX2_init_31 (fun H locs hP hD hS => ?_)
  have hP : va_P (dC, dI) vwCl [(h0, .inr (2, [.int 0, .int 0, .int 0, .int 0, .int 0, .int 0, .int 0, .int 0, .int 0, .null, .null, .null, .null, .null, .null, .null, .null]))] H := hP
  have hD : va_D A [(h0, .inr (2, [.int 0, .int 0, .int 0, .int 0, .int 0, .int 0, .int 0, .int 0, .int 0, .null, .null, .null, .null, .null, .null, .null, .null]))] := hD
  refine lv_aload_n hx hb dX2_init_34 rfl (lv_at hl 0 rfl) ?_
  refine lv_iconst (v := 0) hx hb dX2_init_35 (by decide) ?_
  refine va_put (D := (dC, dI)) (ci := 2) (v := .int 0) (ty := .int) (C := RX2) (T := TX2) (N := 17) hx hb ht iX2 tyX2 tyX2_ok nmX2 hown hK hP hD hS 0 rfl rfl 6 (by decide) (ht _ w_222) (fun _ h9 => h9) rfl (by decide +kernel) rfl rfl (Nat.le_of_ble_eq_true rfl) dX2_init_36 (fun H locs hP hD hS => ?_)
  have hP : va_P (dC, dI) vwCl [(h0, .inr (2, [.int 0, .int 0, .int 0, .int 0, .int 0, .int 0, .int 0, .int 0, .int 0, .null, .null, .null, .null, .null, .null, .null, .null]))] H := hP
  have hD : va_D A [(h0, .inr (2, [.int 0, .int 0, .int 0, .int 0, .int 0, .int 0, .int 0, .int 0, .int 0, .null, .null, .null, .null, .null, .null, .null, .null]))] := hD
  refine lv_aload_n hx hb dX2_init_39 rfl (lv_at hl 0 rfl) ?_
  refine lv_iconst (v := 0) hx hb dX2_init_40 (by decide) ?_
  refine va_put (D := (dC, dI)) (ci := 2) (v := .int 0) (ty := .int) (C := RX2) (T := TX2) (N := 17) hx hb ht iX2 tyX2 tyX2_ok nmX2 hown hK hP hD hS 0 rfl rfl 7 (by decide) (ht _ w_225) (fun _ h9 => h9) rfl (by decide +kernel) rfl rfl (Nat.le_of_ble_eq_true rfl) dX2_init_41 (fun H locs hP hD hS => ?_)
  have hP : va_P (dC, dI) vwCl [(h0, .inr (2, [.int 0, .int 0, .int 0, .int 0, .int 0, .int 0, .int 0, .int 0, .int 0, .null, .null, .null, .null, .null, .null, .null, .null]))] H := hP
  have hD : va_D A [(h0, .inr (2, [.int 0, .int 0, .int 0, .int 0, .int 0, .int 0, .int 0, .int 0, .int 0, .null, .null, .null, .null, .null, .null, .null, .null]))] := hD
  refine lv_aload_n hx hb dX2_init_44 rfl (lv_at hl 0 rfl) ?_
  refine lv_iconst (v := 0) hx hb dX2_init_45 (by decide) ?_
  refine va_put (D := (dC, dI)) (ci := 2) (v := .int 0) (ty := .int) (C := RX2) (T := TX2) (N := 17) hx hb ht iX2 tyX2 tyX2_ok nmX2 hown hK hP hD hS 0 rfl rfl 8 (by decide) (ht _ w_229) (fun _ h9 => h9) rfl (by decide +kernel) rfl rfl (Nat.le_of_ble_eq_true rfl) dX2_init_46 (fun H locs hP hD hS => ?_)
  have hP : va_P (dC, dI) vwCl [(h0, .inr (2, [.int 0, .int 0, .int 0, .int 0, .int 0, .int 0, .int 0, .int 0, .int 0, .null, .null, .null, .null, .null, .null, .null, .null]))] H := hP
  have hD : va_D A [(h0, .inr (2, [.int 0, .int 0, .int 0, .int 0, .int 0, .int 0, .int 0, .int 0, .int 0, .null, .null, .null, .null, .null, .null, .null, .null]))] := hD
  refine lv_aload_n hx hb dX2_init_49 rfl (lv_at hl 0 rfl) ?_
  refine lv_iconst (v := 5) hx hb dX2_init_50 (by decide) ?_
  refine va_newa (atype := .int) (ty := .int) (a0 := (5, .inl (fun _ => 0))) hx hb (ht _ w_170) rfl hK hP hD hS hA (fun _ => rfl) (by decide) (by decide) (by decide) (Nat.le_of_ble_eq_true rfl) (Nat.le_of_ble_eq_true rfl) dX2_init_51 (fun q_1 cA H hK1 hP hD hS => ?_)
  have ecA := tyI_one hK1
  subst ecA
  have hP : va_P (dC, dI) vwCl [(h0, .inr (2, [.int 0, .int 0, .int 0, .int 0, .int 0, .int 0, .int 0, .int 0, .int 0, .null, .null, .null, .null, .null, .null, .null, .null])), (q_1, .inl (cI, 5, .inl (fun _ => 0)))] H := hP
  have hD : va_D A [(h0, .inr (2, [.int 0, .int 0, .int 0, .int 0, .int 0, .int 0, .int 0, .int 0, .int 0, .null, .null, .null, .null, .null, .null, .null, .null])), (q_1, .inl (cI, 5, .inl (fun _ => 0)))] := hD
  refine W.widen (k := 1) (n := 5) (Nat.le_of_ble_eq_true rfl) (Nat.le_of_ble_eq_true rfl) ?_
  refine va_putF (D := (dC, dI)) (ci := 2) (v := .ref q_1) (ty := .array .int) (C := RX2) (T := TX2) (N := 17) hx hb ht iX2 tyX2 tyX2_ok nmX2 hown hK hP hD hS 0 rfl rfl 9 (by decide) (ht _ w_231) (fun _ h9 => h9) rfl hin rfl (by decide +kernel) rfl rfl (Nat.le_of_ble_eq_true rfl) dX2_init_53 (fun H locs hP hD hS => ?_)
  have hP : va_P (dC, dI) vwCl [(h0, .inr (2, [.int 0, .int 0, .int 0, .int 0, .int 0, .int 0, .int 0, .int 0, .int 0, .ref q_1, .null, .null, .null, .null, .null, .null, .null])), (q_1, .inl (cI, 5, .inl (fun _ => 0)))] H := hP
  have hD : va_D A [(h0, .inr (2, [.int 0, .int 0, .int 0, .int 0, .int 0, .int 0, .int 0, .int 0, .int 0, .ref q_1, .null, .null, .null, .null, .null, .null, .null])), (q_1, .inl (cI, 5, .inl (fun _ => 0)))] := hD
  refine lv_aload_n hx hb dX2_init_56 rfl (lv_at hl 0 rfl) ?_
  refine lv_iconst (v := 5) hx hb dX2_init_57 (by decide) ?_
  refine va_newa (atype := .int) (ty := .int) (a0 := (5, .inl (fun _ => 0))) hx hb (ht _ w_170) rfl hK hP hD hS hA (fun _ => rfl) (by decide) (by decide) (by decide) (Nat.le_of_ble_eq_true rfl) (Nat.le_of_ble_eq_true rfl) dX2_init_58 (fun q_2 cA H hK1 hP hD hS => ?_)
  have ecA := tyI_one hK1
  subst ecA
  have hP : va_P (dC, dI) vwCl [(h0, .inr (2, [.int 0, .int 0, .int 0, .int 0, .int 0, .int 0, .int 0, .int 0, .int 0, .ref q_1, .null, .null, .null, .null, .null, .null, .null])), (q_1, .inl (cI, 5, .inl (fun _ => 0))), (q_2, .inl (cI, 5, .inl (fun _ => 0)))] H := hP
  have hD : va_D A [(h0, .inr (2, [.int 0, .int 0, .int 0, .int 0, .int 0, .int 0, .int 0, .int 0, .int 0, .ref q_1, .null, .null, .null, .null, .null, .null, .null])), (q_1, .inl (cI, 5, .inl (fun _ => 0))), (q_2, .inl (cI, 5, .inl (fun _ => 0)))] := hD
  refine W.widen (k := 2) (n := 10) (Nat.le_of_ble_eq_true rfl) (Nat.le_of_ble_eq_true rfl) ?_
  refine va_putF (D := (dC, dI)) (ci := 2) (v := .ref q_2) (ty := .array .int) (C := RX2) (T := TX2) (N := 17) hx hb ht iX2 tyX2 tyX2_ok nmX2 hown hK hP hD hS 0 rfl rfl 10 (by decide) (ht _ w_235) (fun _ h9 => h9) rfl hin rfl (by decide +kernel) rfl rfl (Nat.le_of_ble_eq_true rfl) dX2_init_60 (fun H locs hP hD hS => ?_)
  have hP : va_P (dC, dI) vwCl [(h0, .inr (2, [.int 0, .int 0, .int 0, .int 0, .int 0, .int 0, .int 0, .int 0, .int 0, .ref q_1, .ref q_2, .null, .null, .null, .null, .null, .null])), (q_1, .inl (cI, 5, .inl (fun _ => 0))), (q_2, .inl (cI, 5, .inl (fun _ => 0)))] H := hP
  have hD : va_D A [(h0, .inr (2, [.int 0, .int 0, .int 0, .int 0, .int 0, .int 0, .int 0, .int 0, .int 0, .ref q_1, .ref q_2, .null, .null, .null, .null, .null, .null])), (q_1, .inl (cI, 5, .inl (fun _ => 0))), (q_2, .inl (cI, 5, .inl (fun _ => 0)))] := hD
  refine lv_aload_n hx hb dX2_init_63 rfl (lv_at hl 0 rfl) ?_
  refine lv_iconst (v := 5) hx hb dX2_init_64 (by decide) ?_
  refine va_newa (atype := .int) (ty := .int) (a0 := (5, .inl (fun _ => 0))) hx hb (ht _ w_170) rfl hK hP hD hS hA (fun _ => rfl) (by decide) (by decide) (by decide) (Nat.le_of_ble_eq_true rfl) (Nat.le_of_ble_eq_true rfl) dX2_init_65 (fun q_3 cA H hK1 hP hD hS => ?_)
  have ecA := tyI_one hK1
  subst ecA
  have hP : va_P (dC, dI) vwCl [(h0, .inr (2, [.int 0, .int 0, .int 0, .int 0, .int 0, .int 0, .int 0, .int 0, .int 0, .ref q_1, .ref q_2, .null, .null, .null, .null, .null, .null])), (q_1, .inl (cI, 5, .inl (fun _ => 0))), (q_2, .inl (cI, 5, .inl (fun _ => 0))), (q_3, .inl (cI, 5, .inl (fun _ => 0)))] H := hP
  have hD : va_D A [(h0, .inr (2, [.int 0, .int 0, .int 0, .int 0, .int 0, .int 0, .int 0, .int 0, .int 0, .ref q_1, .ref q_2, .null, .null, .null, .null, .null, .null])), (q_1, .inl (cI, 5, .inl (fun _ => 0))), (q_2, .inl (cI, 5, .inl (fun _ => 0))), (q_3, .inl (cI, 5, .inl (fun _ => 0)))] := hD
  refine W.widen (k := 3) (n := 15) (Nat.le_of_ble_eq_true rfl) (Nat.le_of_ble_eq_true rfl) ?_
  refine va_putF (D := (dC, dI)) (ci := 2) (v := .ref q_3) (ty := .array .int) (C := RX2) (T := TX2) (N := 17) hx hb ht iX2 tyX2 tyX2_ok nmX2 hown hK hP hD hS 0 rfl rfl 11 (by decide) (ht _ w_239) (fun _ h9 => h9) rfl hin rfl (by decide +kernel) rfl rfl (Nat.le_of_ble_eq_true rfl) dX2_init_67 (fun H locs hP hD hS => ?_)
  have hP : va_P (dC, dI) vwCl [(h0, .inr (2, [.int 0, .int 0, .int 0, .int 0, .int 0, .int 0, .int 0, .int 0, .int 0, .ref q_1, .ref q_2, .ref q_3, .null, .null, .null, .null, .null])), (q_1, .inl (cI, 5, .inl (fun _ => 0))), (q_2, .inl (cI, 5, .inl (fun _ => 0))), (q_3, .inl (cI, 5, .inl (fun _ => 0)))] H := hP
  have hD : va_D A [(h0, .inr (2, [.int 0, .int 0, .int 0, .int 0, .int 0, .int 0, .int 0, .int 0, .int 0, .ref q_1, .ref q_2, .ref q_3, .null, .null, .null, .null, .null])), (q_1, .inl (cI, 5, .inl (fun _ => 0))), (q_2, .inl (cI, 5, .inl (fun _ => 0))), (q_3, .inl (cI, 5, .inl (fun _ => 0)))] := hD
  refine lv_aload_n hx hb dX2_init_70 rfl (lv_at hl 0 rfl) ?_
  refine lv_bipush (v := 30) hx hb dX2_init_71 (by decide) ?_
  refine va_newa (atype := .int) (ty := .int) (a0 := (30, .inl (fun _ => 0))) hx hb (ht _ w_170) rfl hK hP hD hS hA (fun _ => rfl) (by decide) (by decide) (by decide) (Nat.le_of_ble_eq_true rfl) (Nat.le_of_ble_eq_true rfl) dX2_init_73 (fun q_4 cA H hK1 hP hD hS => ?_)
  have ecA := tyI_one hK1
  subst ecA
  have hP : va_P (dC, dI) vwCl [(h0, .inr (2, [.int 0, .int 0, .int 0, .int 0, .int 0, .int 0, .int 0, .int 0, .int 0, .ref q_1, .ref q_2, .ref q_3, .null, .null, .null, .null, .null])), (q_1, .inl (cI, 5, .inl (fun _ => 0))), (q_2, .inl (cI, 5, .inl (fun _ => 0))), (q_3, .inl (cI, 5, .inl (fun _ => 0))), (q_4, .inl (cI, 30, .inl (fun _ => 0)))] H := hP
  have hD : va_D A [(h0, .inr (2, [.int 0, .int 0, .int 0, .int 0, .int 0, .int 0, .int 0, .int 0, .int 0, .ref q_1, .ref q_2, .ref q_3, .null, .null, .null, .null, .null])), (q_1, .inl (cI, 5, .inl (fun _ => 0))), (q_2, .inl (cI, 5, .inl (fun _ => 0))), (q_3, .inl (cI, 5, .inl (fun _ => 0))), (q_4, .inl (cI, 30, .inl (fun _ => 0)))] := hD
  refine W.widen (k := 4) (n := 45) (Nat.le_of_ble_eq_true rfl) (Nat.le_of_ble_eq_true rfl) ?_
  refine va_putF (D := (dC, dI)) (ci := 2) (v := .ref q_4) (ty := .array .int) (C := RX2) (T := TX2) (N := 17) hx hb ht iX2 tyX2 tyX2_ok nmX2 hown hK hP hD hS 0 rfl rfl 12 (by decide) (ht _ w_242) (fun _ h9 => h9) rfl hin rfl (by decide +kernel) rfl rfl (Nat.le_of_ble_eq_true rfl) dX2_init_75 (fun H locs hP hD hS => ?_)
  have hP : va_P (dC, dI) vwCl [(h0, .inr (2, [.int 0, .int 0, .int 0, .int 0, .int 0, .int 0, .int 0, .int 0, .int 0, .ref q_1, .ref q_2, .ref q_3, .ref q_4, .null, .null, .null, .null])), (q_1, .inl (cI, 5, .inl (fun _ => 0))), (q_2, .inl (cI, 5, .inl (fun _ => 0))), (q_3, .inl (cI, 5, .inl (fun _ => 0))), (q_4, .inl (cI, 30, .inl (fun _ => 0)))] H := hP
  have hD : va_D A [(h0, .inr (2, [.int 0, .int 0, .int 0, .int 0, .int 0, .int 0, .int 0, .int 0, .int 0, .ref q_1, .ref q_2, .ref q_3, .ref q_4, .null, .null, .null, .null])), (q_1, .inl (cI, 5, .inl (fun _ => 0))), (q_2, .inl (cI, 5, .inl (fun _ => 0))), (q_3, .inl (cI, 5, .inl (fun _ => 0))), (q_4, .inl (cI, 30, .inl (fun _ => 0)))] := hD
  refine lv_aload_n hx hb dX2_init_78 rfl (lv_at hl 0 rfl) ?_
  refine lv_bipush (v := 30) hx hb dX2_init_79 (by decide) ?_
  refine va_newa (atype := .int) (ty := .int) (a0 := (30, .inl (fun _ => 0))) hx hb (ht _ w_170) rfl hK hP hD hS hA (fun _ => rfl) (by decide) (by decide) (by decide) (Nat.le_of_ble_eq_true rfl) (Nat.le_of_ble_eq_true rfl) dX2_init_81 (fun q_5 cA H hK1 hP hD hS => ?_)
  have ecA := tyI_one hK1
  subst ecA
  have hP : va_P (dC, dI) vwCl [(h0, .inr (2, [.int 0, .int 0, .int 0, .int 0, .int 0, .int 0, .int 0, .int 0, .int 0, .ref q_1, .ref q_2, .ref q_3, .ref q_4, .null, .null, .null, .null])), (q_1, .inl (cI, 5, .inl (fun _ => 0))), (q_2, .inl (cI, 5, .inl (fun _ => 0))), (q_3, .inl (cI, 5, .inl (fun _ => 0))), (q_4, .inl (cI, 30, .inl (fun _ => 0))), (q_5, .inl (cI, 30, .inl (fun _ => 0)))] H := hP
  have hD : va_D A [(h0, .inr (2, [.int 0, .int 0, .int 0, .int 0, .int 0, .int 0, .int 0, .int 0, .int 0, .ref q_1, .ref q_2, .ref q_3, .ref q_4, .null, .null, .null, .null])), (q_1, .inl (cI, 5, .inl (fun _ => 0))), (q_2, .inl (cI, 5, .inl (fun _ => 0))), (q_3, .inl (cI, 5, .inl (fun _ => 0))), (q_4, .inl (cI, 30, .inl (fun _ => 0))), (q_5, .inl (cI, 30, .inl (fun _ => 0)))] := hD
  refine W.widen (k := 5) (n := 75) (Nat.le_of_ble_eq_true rfl) (Nat.le_of_ble_eq_true rfl) ?_
  refine va_putF (D := (dC, dI)) (ci := 2) (v := .ref q_5) (ty := .array .int) (C := RX2) (T := TX2) (N := 17) hx hb ht iX2 tyX2 tyX2_ok nmX2 hown hK hP hD hS 0 rfl rfl 13 (by decide) (ht _ w_243) (fun _ h9 => h9) rfl hin rfl (by decide +kernel) rfl rfl (Nat.le_of_ble_eq_true rfl) dX2_init_83 (fun H locs hP hD hS => ?_)
  have hP : va_P (dC, dI) vwCl [(h0, .inr (2, [.int 0, .int 0, .int 0, .int 0, .int 0, .int 0, .int 0, .int 0, .int 0, .ref q_1, .ref q_2, .ref q_3, .ref q_4, .ref q_5, .null, .null, .null])), (q_1, .inl (cI, 5, .inl (fun _ => 0))), (q_2, .inl (cI, 5, .inl (fun _ => 0))), (q_3, .inl (cI, 5, .inl (fun _ => 0))), (q_4, .inl (cI, 30, .inl (fun _ => 0))), (q_5, .inl (cI, 30, .inl (fun _ => 0)))] H := hP
  have hD : va_D A [(h0, .inr (2, [.int 0, .int 0, .int 0, .int 0, .int 0, .int 0, .int 0, .int 0, .int 0, .ref q_1, .ref q_2, .ref q_3, .ref q_4, .ref q_5, .null, .null, .null])), (q_1, .inl (cI, 5, .inl (fun _ => 0))), (q_2, .inl (cI, 5, .inl (fun _ => 0))), (q_3, .inl (cI, 5, .inl (fun _ => 0))), (q_4, .inl (cI, 30, .inl (fun _ => 0))), (q_5, .inl (cI, 30, .inl (fun _ => 0)))] := hD
  refine lv_aload_n hx hb dX2_init_86 rfl (lv_at hl 0 rfl) ?_
  refine lv_bipush (v := 30) hx hb dX2_init_87 (by decide) ?_
  refine va_newa (atype := .int) (ty := .int) (a0 := (30, .inl (fun _ => 0))) hx hb (ht _ w_170) rfl hK hP hD hS hA (fun _ => rfl) (by decide) (by decide) (by decide) (Nat.le_of_ble_eq_true rfl) (Nat.le_of_ble_eq_true rfl) dX2_init_89 (fun q_6 cA H hK1 hP hD hS => ?_)
  have ecA := tyI_one hK1
  subst ecA
  have hP : va_P (dC, dI) vwCl [(h0, .inr (2, [.int 0, .int 0, .int 0, .int 0, .int 0, .int 0, .int 0, .int 0, .int 0, .ref q_1, .ref q_2, .ref q_3, .ref q_4, .ref q_5, .null, .null, .null])), (q_1, .inl (cI, 5, .inl (fun _ => 0))), (q_2, .inl (cI, 5, .inl (fun _ => 0))), (q_3, .inl (cI, 5, .inl (fun _ => 0))), (q_4, .inl (cI, 30, .inl (fun _ => 0))), (q_5, .inl (cI, 30, .inl (fun _ => 0))), (q_6, .inl (cI, 30, .inl (fun _ => 0)))] H := hP
  have hD : va_D A [(h0, .inr (2, [.int 0, .int 0, .int 0, .int 0, .int 0, .int 0, .int 0, .int 0, .int 0, .ref q_1, .ref q_2, .ref q_3, .ref q_4, .ref q_5, .null, .null, .null])), (q_1, .inl (cI, 5, .inl (fun _ => 0))), (q_2, .inl (cI, 5, .inl (fun _ => 0))), (q_3, .inl (cI, 5, .inl (fun _ => 0))), (q_4, .inl (cI, 30, .inl (fun _ => 0))), (q_5, .inl (cI, 30, .inl (fun _ => 0))), (q_6, .inl (cI, 30, .inl (fun _ => 0)))] := hD
  refine W.widen (k := 6) (n := 105) (Nat.le_of_ble_eq_true rfl) (Nat.le_of_ble_eq_true rfl) ?_
  refine va_putF (D := (dC, dI)) (ci := 2) (v := .ref q_6) (ty := .array .int) (C := RX2) (T := TX2) (N := 17) hx hb ht iX2 tyX2 tyX2_ok nmX2 hown hK hP hD hS 0 rfl rfl 14 (by decide) (ht _ w_244) (fun _ h9 => h9) rfl hin rfl (by decide +kernel) rfl rfl (Nat.le_of_ble_eq_true rfl) dX2_init_91 (fun H locs hP hD hS => ?_)
  have hP : va_P (dC, dI) vwCl [(h0, .inr (2, [.int 0, .int 0, .int 0, .int 0, .int 0, .int 0, .int 0, .int 0, .int 0, .ref q_1, .ref q_2, .ref q_3, .ref q_4, .ref q_5, .ref q_6, .null, .null])), (q_1, .inl (cI, 5, .inl (fun _ => 0))), (q_2, .inl (cI, 5, .inl (fun _ => 0))), (q_3, .inl (cI, 5, .inl (fun _ => 0))), (q_4, .inl (cI, 30, .inl (fun _ => 0))), (q_5, .inl (cI, 30, .inl (fun _ => 0))), (q_6, .inl (cI, 30, .inl (fun _ => 0)))] H := hP
  have hD : va_D A [(h0, .inr (2, [.int 0, .int 0, .int 0, .int 0, .int 0, .int 0, .int 0, .int 0, .int 0, .ref q_1, .ref q_2, .ref q_3, .ref q_4, .ref q_5, .ref q_6, .null, .null])), (q_1, .inl (cI, 5, .inl (fun _ => 0))), (q_2, .inl (cI, 5, .inl (fun _ => 0))), (q_3, .inl (cI, 5, .inl (fun _ => 0))), (q_4, .inl (cI, 30, .inl (fun _ => 0))), (q_5, .inl (cI, 30, .inl (fun _ => 0))), (q_6, .inl (cI, 30, .inl (fun _ => 0)))] := hD
  refine lv_aload_n hx hb dX2_init_94 rfl (lv_at hl 0 rfl) ?_
  refine lv_iconst (v := 5) hx hb dX2_init_95 (by decide) ?_
  refine va_newa (atype := .int) (ty := .int) (a0 := (5, .inl (fun _ => 0))) hx hb (ht _ w_170) rfl hK hP hD hS hA (fun _ => rfl) (by decide) (by decide) (by decide) (Nat.le_of_ble_eq_true rfl) (Nat.le_of_ble_eq_true rfl) dX2_init_96 (fun q_7 cA H hK1 hP hD hS => ?_)
  have ecA := tyI_one hK1
  subst ecA
  have hP : va_P (dC, dI) vwCl [(h0, .inr (2, [.int 0, .int 0, .int 0, .int 0, .int 0, .int 0, .int 0, .int 0, .int 0, .ref q_1, .ref q_2, .ref q_3, .ref q_4, .ref q_5, .ref q_6, .null, .null])), (q_1, .inl (cI, 5, .inl (fun _ => 0))), (q_2, .inl (cI, 5, .inl (fun _ => 0))), (q_3, .inl (cI, 5, .inl (fun _ => 0))), (q_4, .inl (cI, 30, .inl (fun _ => 0))), (q_5, .inl (cI, 30, .inl (fun _ => 0))), (q_6, .inl (cI, 30, .inl (fun _ => 0))), (q_7, .inl (cI, 5, .inl (fun _ => 0)))] H := hP
  have hD : va_D A [(h0, .inr (2, [.int 0, .int 0, .int 0, .int 0, .int 0, .int 0, .int 0, .int 0, .int 0, .ref q_1, .ref q_2, .ref q_3, .ref q_4, .ref q_5, .ref q_6, .null, .null])), (q_1, .inl (cI, 5, .inl (fun _ => 0))), (q_2, .inl (cI, 5, .inl (fun _ => 0))), (q_3, .inl (cI, 5, .inl (fun _ => 0))), (q_4, .inl (cI, 30, .inl (fun _ => 0))), (q_5, .inl (cI, 30, .inl (fun _ => 0))), (q_6, .inl (cI, 30, .inl (fun _ => 0))), (q_7, .inl (cI, 5, .inl (fun _ => 0)))] := hD
  refine W.widen (k := 7) (n := 110) (Nat.le_of_ble_eq_true rfl) (Nat.le_of_ble_eq_true rfl) ?_
  refine va_putF (D := (dC, dI)) (ci := 2) (v := .ref q_7) (ty := .array .int) (C := RX2) (T := TX2) (N := 17) hx hb ht iX2 tyX2 tyX2_ok nmX2 hown hK hP hD hS 0 rfl rfl 15 (by decide) (ht _ w_245) (fun _ h9 => h9) rfl hin rfl (by decide +kernel) rfl rfl (Nat.le_of_ble_eq_true rfl) dX2_init_98 (fun H locs hP hD hS => ?_)
  have hP : va_P (dC, dI) vwCl [(h0, .inr (2, [.int 0, .int 0, .int 0, .int 0, .int 0, .int 0, .int 0, .int 0, .int 0, .ref q_1, .ref q_2, .ref q_3, .ref q_4, .ref q_5, .ref q_6, .ref q_7, .null])), (q_1, .inl (cI, 5, .inl (fun _ => 0))), (q_2, .inl (cI, 5, .inl (fun _ => 0))), (q_3, .inl (cI, 5, .inl (fun _ => 0))), (q_4, .inl (cI, 30, .inl (fun _ => 0))), (q_5, .inl (cI, 30, .inl (fun _ => 0))), (q_6, .inl (cI, 30, .inl (fun _ => 0))), (q_7, .inl (cI, 5, .inl (fun _ => 0)))] H := hP
  have hD : va_D A [(h0, .inr (2, [.int 0, .int 0, .int 0, .int 0, .int 0, .int 0, .int 0, .int 0, .int 0, .ref q_1, .ref q_2, .ref q_3, .ref q_4, .ref q_5, .ref q_6, .ref q_7, .null])), (q_1, .inl (cI, 5, .inl (fun _ => 0))), (q_2, .inl (cI, 5, .inl (fun _ => 0))), (q_3, .inl (cI, 5, .inl (fun _ => 0))), (q_4, .inl (cI, 30, .inl (fun _ => 0))), (q_5, .inl (cI, 30, .inl (fun _ => 0))), (q_6, .inl (cI, 30, .inl (fun _ => 0))), (q_7, .inl (cI, 5, .inl (fun _ => 0)))] := hD
  refine lv_aload_n hx hb dX2_init_101 rfl (lv_at hl 0 rfl) ?_
  refine lv_iconst (v := 5) hx hb dX2_init_102 (by decide) ?_
  refine va_newa (atype := .int) (ty := .int) (a0 := (5, .inl (fun _ => 0))) hx hb (ht _ w_170) rfl hK hP hD hS hA (fun _ => rfl) (by decide) (by decide) (by decide) (Nat.le_of_ble_eq_true rfl) (Nat.le_of_ble_eq_true rfl) dX2_init_103 (fun q_8 cA H hK1 hP hD hS => ?_)
  have ecA := tyI_one hK1
  subst ecA
  have hP : va_P (dC, dI) vwCl [(h0, .inr (2, [.int 0, .int 0, .int 0, .int 0, .int 0, .int 0, .int 0, .int 0, .int 0, .ref q_1, .ref q_2, .ref q_3, .ref q_4, .ref q_5, .ref q_6, .ref q_7, .null])), (q_1, .inl (cI, 5, .inl (fun _ => 0))), (q_2, .inl (cI, 5, .inl (fun _ => 0))), (q_3, .inl (cI, 5, .inl (fun _ => 0))), (q_4, .inl (cI, 30, .inl (fun _ => 0))), (q_5, .inl (cI, 30, .inl (fun _ => 0))), (q_6, .inl (cI, 30, .inl (fun _ => 0))), (q_7, .inl (cI, 5, .inl (fun _ => 0))), (q_8, .inl (cI, 5, .inl (fun _ => 0)))] H := hP
  have hD : va_D A [(h0, .inr (2, [.int 0, .int 0, .int 0, .int 0, .int 0, .int 0, .int 0, .int 0, .int 0, .ref q_1, .ref q_2, .ref q_3, .ref q_4, .ref q_5, .ref q_6, .ref q_7, .null])), (q_1, .inl (cI, 5, .inl (fun _ => 0))), (q_2, .inl (cI, 5, .inl (fun _ => 0))), (q_3, .inl (cI, 5, .inl (fun _ => 0))), (q_4, .inl (cI, 30, .inl (fun _ => 0))), (q_5, .inl (cI, 30, .inl (fun _ => 0))), (q_6, .inl (cI, 30, .inl (fun _ => 0))), (q_7, .inl (cI, 5, .inl (fun _ => 0))), (q_8, .inl (cI, 5, .inl (fun _ => 0)))] := hD
  refine W.widen (k := 8) (n := 115) (Nat.le_of_ble_eq_true rfl) (Nat.le_of_ble_eq_true rfl) ?_
  refine va_putF (D := (dC, dI)) (ci := 2) (v := .ref q_8) (ty := .array .int) (C := RX2) (T := TX2) (N := 17) hx hb ht iX2 tyX2 tyX2_ok nmX2 hown hK hP hD hS 0 rfl rfl 16 (by decide) (ht _ w_246) (fun _ h9 => h9) rfl hin rfl (by decide +kernel) rfl rfl (Nat.le_of_ble_eq_true rfl) dX2_init_105 (fun H locs hP hD hS => ?_)
  have hP : va_P (dC, dI) vwCl [(h0, .inr (2, [.int 0, .int 0, .int 0, .int 0, .int 0, .int 0, .int 0, .int 0, .int 0, .ref q_1, .ref q_2, .ref q_3, .ref q_4, .ref q_5, .ref q_6, .ref q_7, .ref q_8])), (q_1, .inl (cI, 5, .inl (fun _ => 0))), (q_2, .inl (cI, 5, .inl (fun _ => 0))), (q_3, .inl (cI, 5, .inl (fun _ => 0))), (q_4, .inl (cI, 30, .inl (fun _ => 0))), (q_5, .inl (cI, 30, .inl (fun _ => 0))), (q_6, .inl (cI, 30, .inl (fun _ => 0))), (q_7, .inl (cI, 5, .inl (fun _ => 0))), (q_8, .inl (cI, 5, .inl (fun _ => 0)))] H := hP
  have hD : va_D A [(h0, .inr (2, [.int 0, .int 0, .int 0, .int 0, .int 0, .int 0, .int 0, .int 0, .int 0, .ref q_1, .ref q_2, .ref q_3, .ref q_4, .ref q_5, .ref q_6, .ref q_7, .ref q_8])), (q_1, .inl (cI, 5, .inl (fun _ => 0))), (q_2, .inl (cI, 5, .inl (fun _ => 0))), (q_3, .inl (cI, 5, .inl (fun _ => 0))), (q_4, .inl (cI, 30, .inl (fun _ => 0))), (q_5, .inl (cI, 30, .inl (fun _ => 0))), (q_6, .inl (cI, 30, .inl (fun _ => 0))), (q_7, .inl (cI, 5, .inl (fun _ => 0))), (q_8, .inl (cI, 5, .inl (fun _ => 0)))] := hD
  have hP9 := hP.sub (ws' := [(h0, .inr (2, [.int 0, .int 0, .int 0, .int 0, .int 0, .int 0, .int 0, .int 0, .int 0, .ref q_1, .ref q_2, .ref q_3, .ref q_4, .ref q_5, .ref q_6, .ref q_7, .ref q_8])), (q_1, .inl (cI, 5, .inl (fun _ => 0))), (q_2, .inl (cI, 5, .inl (fun _ => 0))), (q_3, .inl (cI, 5, .inl (fun _ => 0))), (q_4, .inl (cI, 30, .inl (fun _ => 0))), (q_5, .inl (cI, 30, .inl (fun _ => 0))), (q_6, .inl (cI, 30, .inl (fun _ => 0))), (q_7, .inl (cI, 5, .inl (fun _ => 0))), (q_8, .inl (cI, 5, .inl (fun _ => 0)))]) [0, 1, 2, 3, 4, 5, 6, 7, 8] rfl
  have hD9 := hD.sub (ws' := [(h0, .inr (2, [.int 0, .int 0, .int 0, .int 0, .int 0, .int 0, .int 0, .int 0, .int 0, .ref q_1, .ref q_2, .ref q_3, .ref q_4, .ref q_5, .ref q_6, .ref q_7, .ref q_8])), (q_1, .inl (cI, 5, .inl (fun _ => 0))), (q_2, .inl (cI, 5, .inl (fun _ => 0))), (q_3, .inl (cI, 5, .inl (fun _ => 0))), (q_4, .inl (cI, 30, .inl (fun _ => 0))), (q_5, .inl (cI, 30, .inl (fun _ => 0))), (q_6, .inl (cI, 30, .inl (fun _ => 0))), (q_7, .inl (cI, 5, .inl (fun _ => 0))), (q_8, .inl (cI, 5, .inl (fun _ => 0)))]) [0, 1, 2, 3, 4, 5, 6, 7, 8] (by decide) rfl
  refine W.widen (k := 8) (n := 115) (Nat.le_of_ble_eq_true rfl) (Nat.le_of_ble_eq_true rfl) ?_
  exact W.vret hx hb hr (fun t ht hW => ⟨⟨(fun k => match k with | 0 => q_1 | 1 => q_2 | 2 => q_3 | 3 => q_4 | 4 => q_5 | 5 => q_6 | 6 => q_7 | _ => q_8), rfl, trivial, ⟨by rw [ht]; exact hP9, hD9⟩⟩, hS.F ht⟩) hS.2.2 dX2_init_108
set_option maxHeartbeats 4000000 in
set_option maxRecDepth 100000 in
theorem k_X3_init (l : Launch) (dC : Nat → ClassId) (dI : Nat → Nat → Nat) (cB cI cJ cZ cL : ClassId) (sz : Nat) (h0 : Nat)  : Met l yX3_init (wy yX3_init cX3_init 1 none) ({ frames := 1, cells := 3, slots := 248, locals := 40 }) (va_Pc [.ref h0] (fun U => U.heap.size = sz ∧ va_P (dC, dI) vwCl [(h0, .inr (3, [.null, .null, .null]))] U.heap ∧ va_K (dC, dI) vwCl (tyL cB cI cJ cZ cL) U ∧ va_D (fun _ => True) [(h0, .inr (3, [.null, .null, .null]))])) (va_Qv (fun u => (∀ j, j < 4 → u.2 j = -1) ∧ ∀ j : Nat, -1 ≤ Int32.toInt (u.2 j) ∧ Int32.toInt (u.2 j) ≤ 60) (fun (u : (Nat → Nat) × (Nat → Int32)) t => va_P (dC, dI) vwCl [(h0, .inr (3, [.ref (u.1 0), .ref (u.1 1), .ref (u.1 2)])), ((u.1 0), .inl (cJ, 240, .inr (.inl (fun _ => 0)))), ((u.1 1), .inl (cI, 4, .inl (fun _ => 0))), ((u.1 2), .inl (cI, 4, .inl u.2))] t.heap ∧ va_D (va_A [(h0, .inr (3, [.null, .null, .null]))] sz) [(h0, .inr (3, [.ref (u.1 0), .ref (u.1 1), .ref (u.1 2)])), ((u.1 0), .inl (cJ, 240, .inr (.inl (fun _ => 0)))), ((u.1 1), .inl (cI, 4, .inl (fun _ => 0))), ((u.1 2), .inl (cI, 4, .inl u.2))]) (va_A [(h0, .inr (3, [.null, .null, .null]))] sz)) 3 248 (va_A [(h0, .inr (3, [.null, .null, .null]))] sz) := by
  refine Met.ofW (cc := cX3_init) (maxL := 1) (ret := none) (by decide) rfl ?_
  intro p e s m args below meth c s₁ B hml hv
  obtain ⟨rfl, hsz, hP, hK, hD0⟩ := hv
  have hx := B.exec
  have hb := B.bytes
  have hr := B.returns
  have ht : ∀ w ∈ lw_ok, w.before _ s = true := fun w h => atoms_spec (ws := wy yX3_init cX3_init 1 none) B.pre w (List.mem_cons_of_mem _ h)
  have hown : s.vm.findClass RX3 = some m.cls := findClass_of_methodNamed B.named
  have hlocks := B.notSynchronized
  have hin : meth.name = "<init>" := (name_of_methodNamed B.named B.method).1
  subst hsz
  have hD := hD0.self (sz := s.heap.size)
  generalize hAe : va_A [(h0, .inr (3, [.null, .null, .null]))] s.heap.size = A at hD ⊢
  have hA : ∀ q : Nat, s.heap.size ≤ q → A q := fun q h => by rw [← hAe]; exact Or.inr h
  have hS : va_S A s.heap s.heap [] := va_S.rf
  have hl := lv_entry ([.ref h0]) (n := 1) (Nat.le_of_ble_eq_true rfl)
  rw [lg_entry_eq]
  generalize (lg_sl ([.ref h0]) ++ List.replicate (1 - (lg_sl ([.ref h0])).length) Slot.unset).toArray = ls at hl ⊢
  have hl : lv_has ls 1 [(0, .ref h0)] := hl
  have hP : va_P (dC, dI) vwCl [(h0, .inr (3, [.null, .null, .null]))] s.heap := hP
  have hD : va_D A [(h0, .inr (3, [.null, .null, .null]))] := hD
  refine lv_aload_n hx hb dX3_init_0 rfl (lv_at hl 0 rfl) ?_
  refine W.objInit hx hb hown (ht _ w_288) (ht _ w_129) (ht _ w_130) rfl (by rw [hml]; exact hl.1) rfl dX3_init_1 (Nat.le_of_ble_eq_true rfl) (Nat.le_of_ble_eq_true rfl) ?_
  refine W.eq (g2 := F0 m 4 ls []) rfl ?_
  refine lv_aload_n hx hb dX3_init_4 rfl (lv_at hl 0 rfl) ?_
  refine lv_sipush (v := 240) hx hb dX3_init_5 (by decide) ?_
  refine va_newa (atype := .long) (ty := .long) (a0 := (240, .inr (.inl (fun _ => 0)))) hx hb (ht _ w_301) rfl hK hP hD hS hA (fun _ => rfl) (by decide) (by decide) (by decide) (Nat.le_of_ble_eq_true rfl) (Nat.le_of_ble_eq_true rfl) dX3_init_8 (fun q_1 cA H hK1 hP hD hS => ?_)
  have ecA := tyJ_one hK1
  subst ecA
  have hP : va_P (dC, dI) vwCl [(h0, .inr (3, [.null, .null, .null])), (q_1, .inl (cJ, 240, .inr (.inl (fun _ => 0))))] H := hP
  have hD : va_D A [(h0, .inr (3, [.null, .null, .null])), (q_1, .inl (cJ, 240, .inr (.inl (fun _ => 0))))] := hD
  refine W.widen (k := 1) (n := 240) (Nat.le_of_ble_eq_true rfl) (Nat.le_of_ble_eq_true rfl) ?_
  refine va_putF (D := (dC, dI)) (ci := 3) (v := .ref q_1) (ty := .array .long) (C := RX3) (T := TX3) (N := 3) hx hb ht iX3 tyX3 tyX3_ok nmX3 hown hK hP hD hS 0 rfl rfl 0 (by decide) (ht _ w_289) (fun _ h9 => h9) rfl hin rfl (by decide +kernel) rfl rfl (Nat.le_of_ble_eq_true rfl) dX3_init_10 (fun H locs hP hD hS => ?_)
  have hP : va_P (dC, dI) vwCl [(h0, .inr (3, [.ref q_1, .null, .null])), (q_1, .inl (cJ, 240, .inr (.inl (fun _ => 0))))] H := hP
  have hD : va_D A [(h0, .inr (3, [.ref q_1, .null, .null])), (q_1, .inl (cJ, 240, .inr (.inl (fun _ => 0))))] := hD
  refine lv_aload_n hx hb dX3_init_13 rfl (lv_at hl 0 rfl) ?_
  refine lv_iconst (v := 4) hx hb dX3_init_14 (by decide) ?_
  refine va_newa (atype := .int) (ty := .int) (a0 := (4, .inl (fun _ => 0))) hx hb (ht _ w_170) rfl hK hP hD hS hA (fun _ => rfl) (by decide) (by decide) (by decide) (Nat.le_of_ble_eq_true rfl) (Nat.le_of_ble_eq_true rfl) dX3_init_15 (fun q_2 cA H hK1 hP hD hS => ?_)
  have ecA := tyI_one hK1
  subst ecA
  have hP : va_P (dC, dI) vwCl [(h0, .inr (3, [.ref q_1, .null, .null])), (q_1, .inl (cJ, 240, .inr (.inl (fun _ => 0)))), (q_2, .inl (cI, 4, .inl (fun _ => 0)))] H := hP
  have hD : va_D A [(h0, .inr (3, [.ref q_1, .null, .null])), (q_1, .inl (cJ, 240, .inr (.inl (fun _ => 0)))), (q_2, .inl (cI, 4, .inl (fun _ => 0)))] := hD
  refine W.widen (k := 2) (n := 244) (Nat.le_of_ble_eq_true rfl) (Nat.le_of_ble_eq_true rfl) ?_
  refine va_putF (D := (dC, dI)) (ci := 3) (v := .ref q_2) (ty := .array .int) (C := RX3) (T := TX3) (N := 3) hx hb ht iX3 tyX3 tyX3_ok nmX3 hown hK hP hD hS 0 rfl rfl 1 (by decide) (ht _ w_290) (fun _ h9 => h9) rfl hin rfl (by decide +kernel) rfl rfl (Nat.le_of_ble_eq_true rfl) dX3_init_17 (fun H locs hP hD hS => ?_)
  have hP : va_P (dC, dI) vwCl [(h0, .inr (3, [.ref q_1, .ref q_2, .null])), (q_1, .inl (cJ, 240, .inr (.inl (fun _ => 0)))), (q_2, .inl (cI, 4, .inl (fun _ => 0)))] H := hP
  have hD : va_D A [(h0, .inr (3, [.ref q_1, .ref q_2, .null])), (q_1, .inl (cJ, 240, .inr (.inl (fun _ => 0)))), (q_2, .inl (cI, 4, .inl (fun _ => 0)))] := hD
  refine lv_aload_n hx hb dX3_init_20 rfl (lv_at hl 0 rfl) ?_
  refine lv_iconst (v := 4) hx hb dX3_init_21 (by decide) ?_
  refine va_newa (atype := .int) (ty := .int) (a0 := (4, .inl (fun _ => 0))) hx hb (ht _ w_170) rfl hK hP hD hS hA (fun _ => rfl) (by decide) (by decide) (by decide) (Nat.le_of_ble_eq_true rfl) (Nat.le_of_ble_eq_true rfl) dX3_init_22 (fun q_3 cA H hK1 hP hD hS => ?_)
  have ecA := tyI_one hK1
  subst ecA
  have hP : va_P (dC, dI) vwCl [(h0, .inr (3, [.ref q_1, .ref q_2, .null])), (q_1, .inl (cJ, 240, .inr (.inl (fun _ => 0)))), (q_2, .inl (cI, 4, .inl (fun _ => 0))), (q_3, .inl (cI, 4, .inl (fun _ => 0)))] H := hP
  have hD : va_D A [(h0, .inr (3, [.ref q_1, .ref q_2, .null])), (q_1, .inl (cJ, 240, .inr (.inl (fun _ => 0)))), (q_2, .inl (cI, 4, .inl (fun _ => 0))), (q_3, .inl (cI, 4, .inl (fun _ => 0)))] := hD
  refine W.widen (k := 3) (n := 248) (Nat.le_of_ble_eq_true rfl) (Nat.le_of_ble_eq_true rfl) ?_
  refine lv_dup hx hb dX3_init_24 rfl ?_
  refine lv_iconst (v := 0) hx hb dX3_init_25 (by decide) ?_
  refine lv_iconst (v := (-1)) hx hb dX3_init_26 (by decide) ?_
  refine va_iast hx hb hK hP hD hS 3 1 rfl rfl (by unfold vp_in; decide) dX3_init_27 (fun H locs hP hD hS => ?_)
  obtain ⟨f_4, ef_4⟩ : ∃ z : Nat → Int32, z = upd (fun _ => 0) (Int32.toNatClampNeg 0) (-1) := ⟨_, rfl⟩
  rw [← ef_4] at hP hD
  have hP : va_P (dC, dI) vwCl [(h0, .inr (3, [.ref q_1, .ref q_2, .null])), (q_1, .inl (cJ, 240, .inr (.inl (fun _ => 0)))), (q_2, .inl (cI, 4, .inl (fun _ => 0))), (q_3, .inl (cI, 4, .inl f_4))] H := hP
  have hD : va_D A [(h0, .inr (3, [.ref q_1, .ref q_2, .null])), (q_1, .inl (cJ, 240, .inr (.inl (fun _ => 0)))), (q_2, .inl (cI, 4, .inl (fun _ => 0))), (q_3, .inl (cI, 4, .inl f_4))] := hD
  refine lv_dup hx hb dX3_init_28 rfl ?_
  refine lv_iconst (v := 1) hx hb dX3_init_29 (by decide) ?_
  refine lv_iconst (v := (-1)) hx hb dX3_init_30 (by decide) ?_
  refine va_iast hx hb hK hP hD hS 3 1 rfl rfl (by unfold vp_in; decide) dX3_init_31 (fun H locs hP hD hS => ?_)
  obtain ⟨f_5, ef_5⟩ : ∃ z : Nat → Int32, z = upd f_4 (Int32.toNatClampNeg 1) (-1) := ⟨_, rfl⟩
  rw [← ef_5] at hP hD
  have hP : va_P (dC, dI) vwCl [(h0, .inr (3, [.ref q_1, .ref q_2, .null])), (q_1, .inl (cJ, 240, .inr (.inl (fun _ => 0)))), (q_2, .inl (cI, 4, .inl (fun _ => 0))), (q_3, .inl (cI, 4, .inl f_5))] H := hP
  have hD : va_D A [(h0, .inr (3, [.ref q_1, .ref q_2, .null])), (q_1, .inl (cJ, 240, .inr (.inl (fun _ => 0)))), (q_2, .inl (cI, 4, .inl (fun _ => 0))), (q_3, .inl (cI, 4, .inl f_5))] := hD
  refine lv_dup hx hb dX3_init_32 rfl ?_
  refine lv_iconst (v := 2) hx hb dX3_init_33 (by decide) ?_
  refine lv_iconst (v := (-1)) hx hb dX3_init_34 (by decide) ?_
  refine va_iast hx hb hK hP hD hS 3 1 rfl rfl (by unfold vp_in; decide) dX3_init_35 (fun H locs hP hD hS => ?_)
  obtain ⟨f_6, ef_6⟩ : ∃ z : Nat → Int32, z = upd f_5 (Int32.toNatClampNeg 2) (-1) := ⟨_, rfl⟩
  rw [← ef_6] at hP hD
  have hP : va_P (dC, dI) vwCl [(h0, .inr (3, [.ref q_1, .ref q_2, .null])), (q_1, .inl (cJ, 240, .inr (.inl (fun _ => 0)))), (q_2, .inl (cI, 4, .inl (fun _ => 0))), (q_3, .inl (cI, 4, .inl f_6))] H := hP
  have hD : va_D A [(h0, .inr (3, [.ref q_1, .ref q_2, .null])), (q_1, .inl (cJ, 240, .inr (.inl (fun _ => 0)))), (q_2, .inl (cI, 4, .inl (fun _ => 0))), (q_3, .inl (cI, 4, .inl f_6))] := hD
  refine lv_dup hx hb dX3_init_36 rfl ?_
  refine lv_iconst (v := 3) hx hb dX3_init_37 (by decide) ?_
  refine lv_iconst (v := (-1)) hx hb dX3_init_38 (by decide) ?_
  refine va_iast hx hb hK hP hD hS 3 1 rfl rfl (by unfold vp_in; decide) dX3_init_39 (fun H locs hP hD hS => ?_)
  obtain ⟨f_7, ef_7⟩ : ∃ z : Nat → Int32, z = upd f_6 (Int32.toNatClampNeg 3) (-1) := ⟨_, rfl⟩
  rw [← ef_7] at hP hD
  have hP : va_P (dC, dI) vwCl [(h0, .inr (3, [.ref q_1, .ref q_2, .null])), (q_1, .inl (cJ, 240, .inr (.inl (fun _ => 0)))), (q_2, .inl (cI, 4, .inl (fun _ => 0))), (q_3, .inl (cI, 4, .inl f_7))] H := hP
  have hD : va_D A [(h0, .inr (3, [.ref q_1, .ref q_2, .null])), (q_1, .inl (cJ, 240, .inr (.inl (fun _ => 0)))), (q_2, .inl (cI, 4, .inl (fun _ => 0))), (q_3, .inl (cI, 4, .inl f_7))] := hD
  refine va_putF (D := (dC, dI)) (ci := 3) (v := .ref q_3) (ty := .array .int) (C := RX3) (T := TX3) (N := 3) hx hb ht iX3 tyX3 tyX3_ok nmX3 hown hK hP hD hS 0 rfl rfl 2 (by decide) (ht _ w_292) (fun _ h9 => h9) rfl hin rfl (by decide +kernel) rfl rfl (Nat.le_of_ble_eq_true rfl) dX3_init_40 (fun H locs hP hD hS => ?_)
  have hP : va_P (dC, dI) vwCl [(h0, .inr (3, [.ref q_1, .ref q_2, .ref q_3])), (q_1, .inl (cJ, 240, .inr (.inl (fun _ => 0)))), (q_2, .inl (cI, 4, .inl (fun _ => 0))), (q_3, .inl (cI, 4, .inl f_7))] H := hP
  have hD : va_D A [(h0, .inr (3, [.ref q_1, .ref q_2, .ref q_3])), (q_1, .inl (cJ, 240, .inr (.inl (fun _ => 0)))), (q_2, .inl (cI, 4, .inl (fun _ => 0))), (q_3, .inl (cI, 4, .inl f_7))] := hD
  have hP9 := hP.sub (ws' := [(h0, .inr (3, [.ref q_1, .ref q_2, .ref q_3])), (q_1, .inl (cJ, 240, .inr (.inl (fun _ => 0)))), (q_2, .inl (cI, 4, .inl (fun _ => 0))), (q_3, .inl (cI, 4, .inl f_7))]) [0, 1, 2, 3] rfl
  have hD9 := hD.sub (ws' := [(h0, .inr (3, [.ref q_1, .ref q_2, .ref q_3])), (q_1, .inl (cJ, 240, .inr (.inl (fun _ => 0)))), (q_2, .inl (cI, 4, .inl (fun _ => 0))), (q_3, .inl (cI, 4, .inl f_7))]) [0, 1, 2, 3] (by decide) rfl
  refine W.widen (k := 3) (n := 248) (Nat.le_of_ble_eq_true rfl) (Nat.le_of_ble_eq_true rfl) ?_
  exact W.vret hx hb hr (fun t ht hW => ⟨⟨((fun k => match k with | 0 => q_1 | 1 => q_2 | _ => q_3), f_7), rfl, ⟨(by intro j hj; rcases (show j = 0 ∨ j = 1 ∨ j = 2 ∨ j = 3 by omega) with rfl | rfl | rfl | rfl <;> simp [ef_7, ef_6, ef_5, ef_4, upd]), szQ (szR (szR (szR (szR (fun _ => Or.inr rfl) ef_4) ef_5) ef_6) ef_7)⟩, ⟨by rw [ht]; exact hP9, hD9⟩⟩, hS.F ht⟩) hS.2.2 dX3_init_43
set_option maxHeartbeats 8000000 in
set_option maxRecDepth 100000 in
theorem s_X8_image_out (l : Launch) (dC : Nat → ClassId) (dI : Nat → Nat → Nat) (cB cI cJ cZ cL : ClassId) (a : Nat → Nat) (fk : Int32) (fp : Int32) (im : Nat → Option Nat) (p0 : Int32) (ho : ¬ (0 ≤ Int32.toInt p0 ∧ Int32.toInt p0 ≤ 2)) : Met l yX8_image (wy yX8_image cX8_image 3 (some .int)) ({ frames := 0, cells := 0, slots := 0, locals := 0 }) (va_Pc [.ref (a 0), .int p0] (fun U => va_P (dC, dI) vwCl [((a 0), .inr (8, [.ref (a 1), .ref (a 2), .ref (a 3), .ref (a 4), .ref (a 5), .ref (a 6), .ref (a 7), .ref (a 8), .ref (a 9), .ref (a 10), .ref (a 11), .ref (a 12), .ref (a 13), .ref (a 14), .int fk, .int fp])), ((a 6), .inl (cL, 3, .inr (.inr (.inr (.inr im)))))] U.heap ∧ va_K (dC, dI) vwCl (tyL cB cI cJ cZ cL) U ∧ NW U)) (vp_Si (fun r => r = -2)) 0 0 (fun _ => False) := by
  refine Met.ofW (cc := cX8_image) (maxL := 3) (ret := (some .int)) (by decide) rfl ?_
  intro p e s m args below meth c s₁ B hml hv
  obtain ⟨rfl, hP, hK, hN⟩ := hv
  have hx := B.exec
  have hb := B.bytes
  have hr := B.returns
  have ht : ∀ w ∈ lw_ok, w.before _ s = true := fun w h => atoms_spec (ws := wy yX8_image cX8_image 3 (some .int)) B.pre w (List.mem_cons_of_mem _ h)
  have hown : s.vm.findClass RX8 = some m.cls := findClass_of_methodNamed B.named
  have hlocks := B.notSynchronized
  have hl := lv_entry ([.ref (a 0), .int p0]) (n := 3) (Nat.le_of_ble_eq_true rfl)
  rw [lg_entry_eq]
  generalize (lg_sl ([.ref (a 0), .int p0]) ++ List.replicate (3 - (lg_sl ([.ref (a 0), .int p0])).length) Slot.unset).toArray = ls at hl ⊢
  have hl : lv_has ls 3 [(0, .ref (a 0)), (1, .int p0)] := hl
  have hP : va_P (dC, dI) vwCl [((a 0), .inr (8, [.ref (a 1), .ref (a 2), .ref (a 3), .ref (a 4), .ref (a 5), .ref (a 6), .ref (a 7), .ref (a 8), .ref (a 9), .ref (a 10), .ref (a 11), .ref (a 12), .ref (a 13), .ref (a 14), .int fk, .int fp])), ((a 6), .inl (cL, 3, .inr (.inr (.inr (.inr im)))))] s.heap := hP
  have rg_p0 := rgI p0
  refine lv_iload_n hx hb dX8_image_0 rfl (lv_at hl 1 rfl) ?_
  refine lv_if_lt (tgt := 13) hx hb dX8_image_1 (by decide) (fun c_1 => ?_) (fun c_1 => ?_)
  · (try simp only [i_lt, i_le, i_eq, T0] at c_1)
    refine lv_bipush (v := (-2)) hx hb dX8_image_13 (by decide) ?_
    exact W.iret (v := (-2)) hx hb hr (fun t ht hW => ⟨(-2), rfl, rfl, ht⟩) (fun q h => absurd h List.not_mem_nil) dX8_image_15
  · (try simp only [i_lt, i_le, i_eq, T0] at c_1)
    refine lv_iload_n hx hb dX8_image_4 rfl (lv_at hl 1 rfl) ?_
    refine lv_aload_n hx hb dX8_image_5 rfl (lv_at hl 0 rfl) ?_
    refine va_get (D := (dC, dI)) (ci := 8) (v := .ref (a 6)) (C := RX8) (T := TX8) (N := 16) hx hb ht iX8 hown hK hP 0 rfl rfl 5 (by decide) (ht _ w_380) (fun _ h9 => h9) rfl dX8_image_6 ?_
    refine va_alen (v := 3) hx hb hK hP 1 4 rfl rfl (by first | decide | (show Int32.ofNat 3 = 3; decide)) dX8_image_9 ?_
    refine lv_icmp_lt (tgt := 16) hx hb dX8_image_10 (by decide) (fun c9 => absurd c9 (by rw [i_lt, T3]; omega)) (fun _ => ?_)
    refine lv_bipush (v := (-2)) hx hb dX8_image_13 (by decide) ?_
    exact W.iret (v := (-2)) hx hb hr (fun t ht hW => ⟨(-2), rfl, rfl, ht⟩) (fun q h => absurd h List.not_mem_nil) dX8_image_15
set_option maxHeartbeats 8000000 in
set_option maxRecDepth 100000 in
theorem s_X8_back_out (l : Launch) (dC : Nat → ClassId) (dI : Nat → Nat → Nat) (cB cI cJ cZ cL : ClassId) (a : Nat → Nat) (fk : Int32) (fp : Int32) (im : Nat → Option Nat) (p0 : Int32) (ho : ¬ (0 ≤ Int32.toInt p0 ∧ Int32.toInt p0 ≤ 2)) : Met l yX8_back (wy yX8_back cX8_back 3 (some .int)) ({ frames := 0, cells := 0, slots := 0, locals := 0 }) (va_Pc [.ref (a 0), .int p0] (fun U => va_P (dC, dI) vwCl [((a 0), .inr (8, [.ref (a 1), .ref (a 2), .ref (a 3), .ref (a 4), .ref (a 5), .ref (a 6), .ref (a 7), .ref (a 8), .ref (a 9), .ref (a 10), .ref (a 11), .ref (a 12), .ref (a 13), .ref (a 14), .int fk, .int fp])), ((a 6), .inl (cL, 3, .inr (.inr (.inr (.inr im)))))] U.heap ∧ va_K (dC, dI) vwCl (tyL cB cI cJ cZ cL) U ∧ NW U)) (vp_Si (fun r => r = -2)) 0 0 (fun _ => False) := by
  refine Met.ofW (cc := cX8_back) (maxL := 3) (ret := (some .int)) (by decide) rfl ?_
  intro p e s m args below meth c s₁ B hml hv
  obtain ⟨rfl, hP, hK, hN⟩ := hv
  have hx := B.exec
  have hb := B.bytes
  have hr := B.returns
  have ht : ∀ w ∈ lw_ok, w.before _ s = true := fun w h => atoms_spec (ws := wy yX8_back cX8_back 3 (some .int)) B.pre w (List.mem_cons_of_mem _ h)
  have hown : s.vm.findClass RX8 = some m.cls := findClass_of_methodNamed B.named
  have hlocks := B.notSynchronized
  have hl := lv_entry ([.ref (a 0), .int p0]) (n := 3) (Nat.le_of_ble_eq_true rfl)
  rw [lg_entry_eq]
  generalize (lg_sl ([.ref (a 0), .int p0]) ++ List.replicate (3 - (lg_sl ([.ref (a 0), .int p0])).length) Slot.unset).toArray = ls at hl ⊢
  have hl : lv_has ls 3 [(0, .ref (a 0)), (1, .int p0)] := hl
  have hP : va_P (dC, dI) vwCl [((a 0), .inr (8, [.ref (a 1), .ref (a 2), .ref (a 3), .ref (a 4), .ref (a 5), .ref (a 6), .ref (a 7), .ref (a 8), .ref (a 9), .ref (a 10), .ref (a 11), .ref (a 12), .ref (a 13), .ref (a 14), .int fk, .int fp])), ((a 6), .inl (cL, 3, .inr (.inr (.inr (.inr im)))))] s.heap := hP
  have rg_p0 := rgI p0
  refine lv_iload_n hx hb dX8_back_0 rfl (lv_at hl 1 rfl) ?_
  refine lv_if_lt (tgt := 13) hx hb dX8_back_1 (by decide) (fun c_1 => ?_) (fun c_1 => ?_)
  · (try simp only [i_lt, i_le, i_eq, T0] at c_1)
    refine lv_bipush (v := (-2)) hx hb dX8_back_13 (by decide) ?_
    exact W.iret (v := (-2)) hx hb hr (fun t ht hW => ⟨(-2), rfl, rfl, ht⟩) (fun q h => absurd h List.not_mem_nil) dX8_back_15
  · (try simp only [i_lt, i_le, i_eq, T0] at c_1)
    refine lv_iload_n hx hb dX8_back_4 rfl (lv_at hl 1 rfl) ?_
    refine lv_aload_n hx hb dX8_back_5 rfl (lv_at hl 0 rfl) ?_
    refine va_get (D := (dC, dI)) (ci := 8) (v := .ref (a 6)) (C := RX8) (T := TX8) (N := 16) hx hb ht iX8 hown hK hP 0 rfl rfl 5 (by decide) (ht _ w_380) (fun _ h9 => h9) rfl dX8_back_6 ?_
    refine va_alen (v := 3) hx hb hK hP 1 4 rfl rfl (by first | decide | (show Int32.ofNat 3 = 3; decide)) dX8_back_9 ?_
    refine lv_icmp_lt (tgt := 16) hx hb dX8_back_10 (by decide) (fun c9 => absurd c9 (by rw [i_lt, T3]; omega)) (fun _ => ?_)
    refine lv_bipush (v := (-2)) hx hb dX8_back_13 (by decide) ?_
    exact W.iret (v := (-2)) hx hb hr (fun t ht hW => ⟨(-2), rfl, rfl, ht⟩) (fun q h => absurd h List.not_mem_nil) dX8_back_15
set_option maxHeartbeats 8000000 in
set_option maxRecDepth 100000 in
theorem s_X8_back_none (l : Launch) (dC : Nat → ClassId) (dI : Nat → Nat → Nat) (cB cI cJ cZ cL : ClassId) (a : Nat → Nat) (fk : Int32) (fp : Int32) (im : Nat → Option Nat) (p0 : Int32) (hk : 0 ≤ Int32.toInt p0 ∧ Int32.toInt p0 ≤ 2) (him : im (Int32.toNatClampNeg p0) = none) : Met l yX8_back (wy yX8_back cX8_back 3 (some .int)) ({ frames := 0, cells := 0, slots := 0, locals := 0 }) (va_Pc [.ref (a 0), .int p0] (fun U => va_P (dC, dI) vwCl [((a 0), .inr (8, [.ref (a 1), .ref (a 2), .ref (a 3), .ref (a 4), .ref (a 5), .ref (a 6), .ref (a 7), .ref (a 8), .ref (a 9), .ref (a 10), .ref (a 11), .ref (a 12), .ref (a 13), .ref (a 14), .int fk, .int fp])), ((a 6), .inl (cL, 3, .inr (.inr (.inr (.inr im)))))] U.heap ∧ va_K (dC, dI) vwCl (tyL cB cI cJ cZ cL) U ∧ NW U)) (vp_Si (fun r => r = -6)) 0 0 (fun _ => False) := by
  refine Met.ofW (cc := cX8_back) (maxL := 3) (ret := (some .int)) (by decide) rfl ?_
  intro p e s m args below meth c s₁ B hml hv
  obtain ⟨rfl, hP, hK, hN⟩ := hv
  have hx := B.exec
  have hb := B.bytes
  have hr := B.returns
  have ht : ∀ w ∈ lw_ok, w.before _ s = true := fun w h => atoms_spec (ws := wy yX8_back cX8_back 3 (some .int)) B.pre w (List.mem_cons_of_mem _ h)
  have hown : s.vm.findClass RX8 = some m.cls := findClass_of_methodNamed B.named
  have hlocks := B.notSynchronized
  have hl := lv_entry ([.ref (a 0), .int p0]) (n := 3) (Nat.le_of_ble_eq_true rfl)
  rw [lg_entry_eq]
  generalize (lg_sl ([.ref (a 0), .int p0]) ++ List.replicate (3 - (lg_sl ([.ref (a 0), .int p0])).length) Slot.unset).toArray = ls at hl ⊢
  have hl : lv_has ls 3 [(0, .ref (a 0)), (1, .int p0)] := hl
  have hP : va_P (dC, dI) vwCl [((a 0), .inr (8, [.ref (a 1), .ref (a 2), .ref (a 3), .ref (a 4), .ref (a 5), .ref (a 6), .ref (a 7), .ref (a 8), .ref (a 9), .ref (a 10), .ref (a 11), .ref (a 12), .ref (a 13), .ref (a 14), .int fk, .int fp])), ((a 6), .inl (cL, 3, .inr (.inr (.inr (.inr im)))))] s.heap := hP
  have rg_p0 := rgI p0
  refine lv_iload_n hx hb dX8_back_0 rfl (lv_at hl 1 rfl) ?_
  refine lv_if_lt (tgt := 13) hx hb dX8_back_1 (by decide) (fun c9 => absurd c9 (by rw [i_lt, T0]; omega)) (fun _ => ?_)
  refine lv_iload_n hx hb dX8_back_4 rfl (lv_at hl 1 rfl) ?_
  refine lv_aload_n hx hb dX8_back_5 rfl (lv_at hl 0 rfl) ?_
  refine va_get (D := (dC, dI)) (ci := 8) (v := .ref (a 6)) (C := RX8) (T := TX8) (N := 16) hx hb ht iX8 hown hK hP 0 rfl rfl 5 (by decide) (ht _ w_380) (fun _ h9 => h9) rfl dX8_back_6 ?_
  refine va_alen (v := 3) hx hb hK hP 1 4 rfl rfl (by first | decide | (show Int32.ofNat 3 = 3; decide)) dX8_back_9 ?_
  refine lv_icmp_lt (tgt := 16) hx hb dX8_back_10 (by decide) (fun _ => ?_) (fun c9 => absurd (by rw [i_lt, T3]; omega) c9)
  refine lv_aload_n hx hb dX8_back_16 rfl (lv_at hl 0 rfl) ?_
  refine va_get (D := (dC, dI)) (ci := 8) (v := .ref (a 6)) (C := RX8) (T := TX8) (N := 16) hx hb ht iX8 hown hK hP 0 rfl rfl 5 (by decide) (ht _ w_380) (fun _ h9 => h9) rfl dX8_back_17 ?_
  refine lv_iload_n hx hb dX8_back_20 rfl (lv_at hl 1 rfl) ?_
  refine va_aldq hx hb hK hP 1 4 rfl rfl (vp_in_iff.mpr (by omega)) dX8_back_21 ?_
  rw [him]
  refine W.eq (g2 := F0 m 22 ls (.null :: [])) rfl ?_
  refine lv_astore_nN (lv' := [(2, .null), (0, .ref (a 0)), (1, .int p0)]) hx hb dX8_back_22 rfl hl (by decide) rfl (fun ls hl => ?_)
  refine lv_aload_nN hx hb dX8_back_23 rfl (lv_at hl 0 rfl) ?_
  refine lv_ifnonnullN hx hb dX8_back_24 ?_
  refine lv_bipush (v := (-6)) hx hb dX8_back_27 (by decide) ?_
  exact W.iret (v := (-6)) hx hb hr (fun t ht hW => ⟨(-6), rfl, rfl, ht⟩) (fun q h => absurd h List.not_mem_nil) dX8_back_29
set_option maxHeartbeats 8000000 in
set_option maxRecDepth 100000 in
theorem s_X8_image_old (l : Launch) (dC : Nat → ClassId) (dI : Nat → Nat → Nat) (cB cI cJ cZ cL : ClassId) (sz : Nat) (a : Nat → Nat) (h : Nat) (v : Nat → Nat) (fk : Int32) (fp : Int32) (n_lines : Int32) (n_days : Int32) (n_law : Int32) (n_odds : Int32) (n_volts : Int32) (n_spans : Int32) (n_wetLines : Int32) (n_wet : Int32) (n_acts : Int32) (n_a_ohms : Nat → Int32) (n_a_leaks : Nat → Int32) (n_a_needs : Nat → Int32) (n_a_kinds : Nat → Int32) (n_a_places : Nat → Int32) (n_a_actDays : Nat → Int32) (im : Nat → Option Nat) (c_lines : Int32) (c_days : Int32) (c_law : Int32) (c_odds : Int32) (c_volts : Int32) (c_spans : Int32) (c_wetLines : Int32) (c_wet : Int32) (c_acts : Int32) (c_a_ohms : Nat → Int32) (c_a_leaks : Nat → Int32) (c_a_needs : Nat → Int32) (c_a_kinds : Nat → Int32) (c_a_places : Nat → Int32) (c_a_actDays : Nat → Int32) (c_a_cupDays : Nat → Int32) (c_a_snapDays : Nat → Int32) (p0 : Int32) (hk : 0 ≤ Int32.toInt p0 ∧ Int32.toInt p0 ≤ 2) (him : im (Int32.toNatClampNeg p0) = some h) (hpc : ∀ i : Nat, 0 ≤ Int32.toInt (c_a_places i) ∧ Int32.toInt (c_a_places i) ≤ 4) (hpl : ∀ i : Nat, 0 ≤ Int32.toInt (n_a_places i) ∧ Int32.toInt (n_a_places i) ≤ 4) (hac : 0 ≤ Int32.toInt n_acts ∧ Int32.toInt n_acts ≤ 30) : Met l yX8_image (wy yX8_image cX8_image 3 (some .int)) ({ frames := 3, cells := 0, slots := 0, locals := 120 }) (va_Pc [.ref (a 0), .int p0] (fun U => U.heap.size = sz ∧ va_P (dC, dI) vwCl [((a 0), .inr (8, [.ref (a 1), .ref (a 2), .ref (a 3), .ref (a 4), .ref (a 5), .ref (a 6), .ref (a 7), .ref (a 8), .ref (a 9), .ref (a 10), .ref (a 11), .ref (a 12), .ref (a 13), .ref (a 14), .int fk, .int fp])), ((a 4), .inr (2, [.int n_lines, .int n_days, .int n_law, .int n_odds, .int n_volts, .int n_spans, .int n_wetLines, .int n_wet, .int n_acts, .ref (a 19), .ref (a 20), .ref (a 21), .ref (a 22), .ref (a 23), .ref (a 24), .ref (a 25), .ref (a 26)])), ((a 19), .inl (cI, 5, .inl n_a_ohms)), ((a 20), .inl (cI, 5, .inl n_a_leaks)), ((a 21), .inl (cI, 5, .inl n_a_needs)), ((a 22), .inl (cI, 30, .inl n_a_kinds)), ((a 23), .inl (cI, 30, .inl n_a_places)), ((a 24), .inl (cI, 30, .inl n_a_actDays)), ((a 6), .inl (cL, 3, .inr (.inr (.inr (.inr im))))), (h, .inr (2, [.int c_lines, .int c_days, .int c_law, .int c_odds, .int c_volts, .int c_spans, .int c_wetLines, .int c_wet, .int c_acts, .ref (v 0), .ref (v 1), .ref (v 2), .ref (v 3), .ref (v 4), .ref (v 5), .ref (v 6), .ref (v 7)])), ((v 0), .inl (cI, 5, .inl c_a_ohms)), ((v 1), .inl (cI, 5, .inl c_a_leaks)), ((v 2), .inl (cI, 5, .inl c_a_needs)), ((v 3), .inl (cI, 30, .inl c_a_kinds)), ((v 4), .inl (cI, 30, .inl c_a_places)), ((v 5), .inl (cI, 30, .inl c_a_actDays)), ((v 6), .inl (cI, 5, .inl c_a_cupDays)), ((v 7), .inl (cI, 5, .inl c_a_snapDays))] U.heap ∧ va_K (dC, dI) vwCl (tyL cB cI cJ cZ cL) U ∧ va_D (fun _ => True) [((a 0), .inr (8, [.ref (a 1), .ref (a 2), .ref (a 3), .ref (a 4), .ref (a 5), .ref (a 6), .ref (a 7), .ref (a 8), .ref (a 9), .ref (a 10), .ref (a 11), .ref (a 12), .ref (a 13), .ref (a 14), .int fk, .int fp])), ((a 4), .inr (2, [.int n_lines, .int n_days, .int n_law, .int n_odds, .int n_volts, .int n_spans, .int n_wetLines, .int n_wet, .int n_acts, .ref (a 19), .ref (a 20), .ref (a 21), .ref (a 22), .ref (a 23), .ref (a 24), .ref (a 25), .ref (a 26)])), ((a 19), .inl (cI, 5, .inl n_a_ohms)), ((a 20), .inl (cI, 5, .inl n_a_leaks)), ((a 21), .inl (cI, 5, .inl n_a_needs)), ((a 22), .inl (cI, 30, .inl n_a_kinds)), ((a 23), .inl (cI, 30, .inl n_a_places)), ((a 24), .inl (cI, 30, .inl n_a_actDays)), ((a 6), .inl (cL, 3, .inr (.inr (.inr (.inr im))))), (h, .inr (2, [.int c_lines, .int c_days, .int c_law, .int c_odds, .int c_volts, .int c_spans, .int c_wetLines, .int c_wet, .int c_acts, .ref (v 0), .ref (v 1), .ref (v 2), .ref (v 3), .ref (v 4), .ref (v 5), .ref (v 6), .ref (v 7)])), ((v 0), .inl (cI, 5, .inl c_a_ohms)), ((v 1), .inl (cI, 5, .inl c_a_leaks)), ((v 2), .inl (cI, 5, .inl c_a_needs)), ((v 3), .inl (cI, 30, .inl c_a_kinds)), ((v 4), .inl (cI, 30, .inl c_a_places)), ((v 5), .inl (cI, 30, .inl c_a_actDays)), ((v 6), .inl (cI, 5, .inl c_a_cupDays)), ((v 7), .inl (cI, 5, .inl c_a_snapDays))] ∧ NW U)) (va_Qi (fun r u => r = 0 ∧ (0 ≤ Int32.toInt u.2.2.2.2.2.2.2.2.1 ∧ Int32.toInt u.2.2.2.2.2.2.2.2.1 ≤ 30) ∧ Int32.toInt u.2.1 = Int32.toInt n_days ∧ Int32.toInt u.2.2.2.2.2.1 = Int32.toInt n_spans ∧ (∀ i : Nat, 0 ≤ Int32.toInt (u.2.2.2.2.2.2.2.2.2.2.2.2.2.1 i) ∧ Int32.toInt (u.2.2.2.2.2.2.2.2.2.2.2.2.2.1 i) ≤ 4)) (fun (u : (Int32) × (Int32) × (Int32) × (Int32) × (Int32) × (Int32) × (Int32) × (Int32) × (Int32) × (Nat → Int32) × (Nat → Int32) × (Nat → Int32) × (Nat → Int32) × (Nat → Int32) × (Nat → Int32) × (Nat → Int32) × (Nat → Int32)) t => va_P (dC, dI) vwCl [((a 0), .inr (8, [.ref (a 1), .ref (a 2), .ref (a 3), .ref (a 4), .ref (a 5), .ref (a 6), .ref (a 7), .ref (a 8), .ref (a 9), .ref (a 10), .ref (a 11), .ref (a 12), .ref (a 13), .ref (a 14), .int fk, .int fp])), ((a 4), .inr (2, [.int n_lines, .int n_days, .int n_law, .int n_odds, .int n_volts, .int n_spans, .int n_wetLines, .int n_wet, .int n_acts, .ref (a 19), .ref (a 20), .ref (a 21), .ref (a 22), .ref (a 23), .ref (a 24), .ref (a 25), .ref (a 26)])), ((a 19), .inl (cI, 5, .inl n_a_ohms)), ((a 20), .inl (cI, 5, .inl n_a_leaks)), ((a 21), .inl (cI, 5, .inl n_a_needs)), ((a 22), .inl (cI, 30, .inl n_a_kinds)), ((a 23), .inl (cI, 30, .inl n_a_places)), ((a 24), .inl (cI, 30, .inl n_a_actDays)), ((a 6), .inl (cL, 3, .inr (.inr (.inr (.inr im))))), (h, .inr (2, [.int u.1, .int u.2.1, .int u.2.2.1, .int u.2.2.2.1, .int u.2.2.2.2.1, .int u.2.2.2.2.2.1, .int u.2.2.2.2.2.2.1, .int u.2.2.2.2.2.2.2.1, .int u.2.2.2.2.2.2.2.2.1, .ref (v 0), .ref (v 1), .ref (v 2), .ref (v 3), .ref (v 4), .ref (v 5), .ref (v 6), .ref (v 7)])), ((v 0), .inl (cI, 5, .inl u.2.2.2.2.2.2.2.2.2.1)), ((v 1), .inl (cI, 5, .inl u.2.2.2.2.2.2.2.2.2.2.1)), ((v 2), .inl (cI, 5, .inl u.2.2.2.2.2.2.2.2.2.2.2.1)), ((v 3), .inl (cI, 30, .inl u.2.2.2.2.2.2.2.2.2.2.2.2.1)), ((v 4), .inl (cI, 30, .inl u.2.2.2.2.2.2.2.2.2.2.2.2.2.1)), ((v 5), .inl (cI, 30, .inl u.2.2.2.2.2.2.2.2.2.2.2.2.2.2.1)), ((v 6), .inl (cI, 5, .inl u.2.2.2.2.2.2.2.2.2.2.2.2.2.2.2.1)), ((v 7), .inl (cI, 5, .inl u.2.2.2.2.2.2.2.2.2.2.2.2.2.2.2.2))] t.heap ∧ va_D (va_A [((a 0), .inr (8, [.ref (a 1), .ref (a 2), .ref (a 3), .ref (a 4), .ref (a 5), .ref (a 6), .ref (a 7), .ref (a 8), .ref (a 9), .ref (a 10), .ref (a 11), .ref (a 12), .ref (a 13), .ref (a 14), .int fk, .int fp])), ((a 4), .inr (2, [.int n_lines, .int n_days, .int n_law, .int n_odds, .int n_volts, .int n_spans, .int n_wetLines, .int n_wet, .int n_acts, .ref (a 19), .ref (a 20), .ref (a 21), .ref (a 22), .ref (a 23), .ref (a 24), .ref (a 25), .ref (a 26)])), ((a 19), .inl (cI, 5, .inl n_a_ohms)), ((a 20), .inl (cI, 5, .inl n_a_leaks)), ((a 21), .inl (cI, 5, .inl n_a_needs)), ((a 22), .inl (cI, 30, .inl n_a_kinds)), ((a 23), .inl (cI, 30, .inl n_a_places)), ((a 24), .inl (cI, 30, .inl n_a_actDays)), ((a 6), .inl (cL, 3, .inr (.inr (.inr (.inr im))))), (h, .inr (2, [.int c_lines, .int c_days, .int c_law, .int c_odds, .int c_volts, .int c_spans, .int c_wetLines, .int c_wet, .int c_acts, .ref (v 0), .ref (v 1), .ref (v 2), .ref (v 3), .ref (v 4), .ref (v 5), .ref (v 6), .ref (v 7)])), ((v 0), .inl (cI, 5, .inl c_a_ohms)), ((v 1), .inl (cI, 5, .inl c_a_leaks)), ((v 2), .inl (cI, 5, .inl c_a_needs)), ((v 3), .inl (cI, 30, .inl c_a_kinds)), ((v 4), .inl (cI, 30, .inl c_a_places)), ((v 5), .inl (cI, 30, .inl c_a_actDays)), ((v 6), .inl (cI, 5, .inl c_a_cupDays)), ((v 7), .inl (cI, 5, .inl c_a_snapDays))] sz) [((a 0), .inr (8, [.ref (a 1), .ref (a 2), .ref (a 3), .ref (a 4), .ref (a 5), .ref (a 6), .ref (a 7), .ref (a 8), .ref (a 9), .ref (a 10), .ref (a 11), .ref (a 12), .ref (a 13), .ref (a 14), .int fk, .int fp])), ((a 4), .inr (2, [.int n_lines, .int n_days, .int n_law, .int n_odds, .int n_volts, .int n_spans, .int n_wetLines, .int n_wet, .int n_acts, .ref (a 19), .ref (a 20), .ref (a 21), .ref (a 22), .ref (a 23), .ref (a 24), .ref (a 25), .ref (a 26)])), ((a 19), .inl (cI, 5, .inl n_a_ohms)), ((a 20), .inl (cI, 5, .inl n_a_leaks)), ((a 21), .inl (cI, 5, .inl n_a_needs)), ((a 22), .inl (cI, 30, .inl n_a_kinds)), ((a 23), .inl (cI, 30, .inl n_a_places)), ((a 24), .inl (cI, 30, .inl n_a_actDays)), ((a 6), .inl (cL, 3, .inr (.inr (.inr (.inr im))))), (h, .inr (2, [.int u.1, .int u.2.1, .int u.2.2.1, .int u.2.2.2.1, .int u.2.2.2.2.1, .int u.2.2.2.2.2.1, .int u.2.2.2.2.2.2.1, .int u.2.2.2.2.2.2.2.1, .int u.2.2.2.2.2.2.2.2.1, .ref (v 0), .ref (v 1), .ref (v 2), .ref (v 3), .ref (v 4), .ref (v 5), .ref (v 6), .ref (v 7)])), ((v 0), .inl (cI, 5, .inl u.2.2.2.2.2.2.2.2.2.1)), ((v 1), .inl (cI, 5, .inl u.2.2.2.2.2.2.2.2.2.2.1)), ((v 2), .inl (cI, 5, .inl u.2.2.2.2.2.2.2.2.2.2.2.1)), ((v 3), .inl (cI, 30, .inl u.2.2.2.2.2.2.2.2.2.2.2.2.1)), ((v 4), .inl (cI, 30, .inl u.2.2.2.2.2.2.2.2.2.2.2.2.2.1)), ((v 5), .inl (cI, 30, .inl u.2.2.2.2.2.2.2.2.2.2.2.2.2.2.1)), ((v 6), .inl (cI, 5, .inl u.2.2.2.2.2.2.2.2.2.2.2.2.2.2.2.1)), ((v 7), .inl (cI, 5, .inl u.2.2.2.2.2.2.2.2.2.2.2.2.2.2.2.2))]) (va_A [((a 0), .inr (8, [.ref (a 1), .ref (a 2), .ref (a 3), .ref (a 4), .ref (a 5), .ref (a 6), .ref (a 7), .ref (a 8), .ref (a 9), .ref (a 10), .ref (a 11), .ref (a 12), .ref (a 13), .ref (a 14), .int fk, .int fp])), ((a 4), .inr (2, [.int n_lines, .int n_days, .int n_law, .int n_odds, .int n_volts, .int n_spans, .int n_wetLines, .int n_wet, .int n_acts, .ref (a 19), .ref (a 20), .ref (a 21), .ref (a 22), .ref (a 23), .ref (a 24), .ref (a 25), .ref (a 26)])), ((a 19), .inl (cI, 5, .inl n_a_ohms)), ((a 20), .inl (cI, 5, .inl n_a_leaks)), ((a 21), .inl (cI, 5, .inl n_a_needs)), ((a 22), .inl (cI, 30, .inl n_a_kinds)), ((a 23), .inl (cI, 30, .inl n_a_places)), ((a 24), .inl (cI, 30, .inl n_a_actDays)), ((a 6), .inl (cL, 3, .inr (.inr (.inr (.inr im))))), (h, .inr (2, [.int c_lines, .int c_days, .int c_law, .int c_odds, .int c_volts, .int c_spans, .int c_wetLines, .int c_wet, .int c_acts, .ref (v 0), .ref (v 1), .ref (v 2), .ref (v 3), .ref (v 4), .ref (v 5), .ref (v 6), .ref (v 7)])), ((v 0), .inl (cI, 5, .inl c_a_ohms)), ((v 1), .inl (cI, 5, .inl c_a_leaks)), ((v 2), .inl (cI, 5, .inl c_a_needs)), ((v 3), .inl (cI, 30, .inl c_a_kinds)), ((v 4), .inl (cI, 30, .inl c_a_places)), ((v 5), .inl (cI, 30, .inl c_a_actDays)), ((v 6), .inl (cI, 5, .inl c_a_cupDays)), ((v 7), .inl (cI, 5, .inl c_a_snapDays))] sz)) 0 0 (va_A [((a 0), .inr (8, [.ref (a 1), .ref (a 2), .ref (a 3), .ref (a 4), .ref (a 5), .ref (a 6), .ref (a 7), .ref (a 8), .ref (a 9), .ref (a 10), .ref (a 11), .ref (a 12), .ref (a 13), .ref (a 14), .int fk, .int fp])), ((a 4), .inr (2, [.int n_lines, .int n_days, .int n_law, .int n_odds, .int n_volts, .int n_spans, .int n_wetLines, .int n_wet, .int n_acts, .ref (a 19), .ref (a 20), .ref (a 21), .ref (a 22), .ref (a 23), .ref (a 24), .ref (a 25), .ref (a 26)])), ((a 19), .inl (cI, 5, .inl n_a_ohms)), ((a 20), .inl (cI, 5, .inl n_a_leaks)), ((a 21), .inl (cI, 5, .inl n_a_needs)), ((a 22), .inl (cI, 30, .inl n_a_kinds)), ((a 23), .inl (cI, 30, .inl n_a_places)), ((a 24), .inl (cI, 30, .inl n_a_actDays)), ((a 6), .inl (cL, 3, .inr (.inr (.inr (.inr im))))), (h, .inr (2, [.int c_lines, .int c_days, .int c_law, .int c_odds, .int c_volts, .int c_spans, .int c_wetLines, .int c_wet, .int c_acts, .ref (v 0), .ref (v 1), .ref (v 2), .ref (v 3), .ref (v 4), .ref (v 5), .ref (v 6), .ref (v 7)])), ((v 0), .inl (cI, 5, .inl c_a_ohms)), ((v 1), .inl (cI, 5, .inl c_a_leaks)), ((v 2), .inl (cI, 5, .inl c_a_needs)), ((v 3), .inl (cI, 30, .inl c_a_kinds)), ((v 4), .inl (cI, 30, .inl c_a_places)), ((v 5), .inl (cI, 30, .inl c_a_actDays)), ((v 6), .inl (cI, 5, .inl c_a_cupDays)), ((v 7), .inl (cI, 5, .inl c_a_snapDays))] sz) := by
  refine Met.ofW (cc := cX8_image) (maxL := 3) (ret := (some .int)) (by decide) rfl ?_
  intro p e s m args below meth c s₁ B hml hv
  obtain ⟨rfl, hsz, hP, hK, hD0, hN⟩ := hv
  have hx := B.exec
  have hb := B.bytes
  have hr := B.returns
  have ht : ∀ w ∈ lw_ok, w.before _ s = true := fun w h => atoms_spec (ws := wy yX8_image cX8_image 3 (some .int)) B.pre w (List.mem_cons_of_mem _ h)
  have hown : s.vm.findClass RX8 = some m.cls := findClass_of_methodNamed B.named
  have hlocks := B.notSynchronized
  subst hsz
  have hD := hD0.self (sz := s.heap.size)
  generalize hAe : va_A [((a 0), .inr (8, [.ref (a 1), .ref (a 2), .ref (a 3), .ref (a 4), .ref (a 5), .ref (a 6), .ref (a 7), .ref (a 8), .ref (a 9), .ref (a 10), .ref (a 11), .ref (a 12), .ref (a 13), .ref (a 14), .int fk, .int fp])), ((a 4), .inr (2, [.int n_lines, .int n_days, .int n_law, .int n_odds, .int n_volts, .int n_spans, .int n_wetLines, .int n_wet, .int n_acts, .ref (a 19), .ref (a 20), .ref (a 21), .ref (a 22), .ref (a 23), .ref (a 24), .ref (a 25), .ref (a 26)])), ((a 19), .inl (cI, 5, .inl n_a_ohms)), ((a 20), .inl (cI, 5, .inl n_a_leaks)), ((a 21), .inl (cI, 5, .inl n_a_needs)), ((a 22), .inl (cI, 30, .inl n_a_kinds)), ((a 23), .inl (cI, 30, .inl n_a_places)), ((a 24), .inl (cI, 30, .inl n_a_actDays)), ((a 6), .inl (cL, 3, .inr (.inr (.inr (.inr im))))), (h, .inr (2, [.int c_lines, .int c_days, .int c_law, .int c_odds, .int c_volts, .int c_spans, .int c_wetLines, .int c_wet, .int c_acts, .ref (v 0), .ref (v 1), .ref (v 2), .ref (v 3), .ref (v 4), .ref (v 5), .ref (v 6), .ref (v 7)])), ((v 0), .inl (cI, 5, .inl c_a_ohms)), ((v 1), .inl (cI, 5, .inl c_a_leaks)), ((v 2), .inl (cI, 5, .inl c_a_needs)), ((v 3), .inl (cI, 30, .inl c_a_kinds)), ((v 4), .inl (cI, 30, .inl c_a_places)), ((v 5), .inl (cI, 30, .inl c_a_actDays)), ((v 6), .inl (cI, 5, .inl c_a_cupDays)), ((v 7), .inl (cI, 5, .inl c_a_snapDays))] s.heap.size = A at hD ⊢
  have hA : ∀ q : Nat, s.heap.size ≤ q → A q := fun q h => by rw [← hAe]; exact Or.inr h
  have hS : va_S A s.heap s.heap [] := va_S.rf
  clear hAe hD0
  have hl := lv_entry ([.ref (a 0), .int p0]) (n := 3) (Nat.le_of_ble_eq_true rfl)
  rw [lg_entry_eq]
  generalize (lg_sl ([.ref (a 0), .int p0]) ++ List.replicate (3 - (lg_sl ([.ref (a 0), .int p0])).length) Slot.unset).toArray = ls at hl ⊢
  have hl : lv_has ls 3 [(0, .ref (a 0)), (1, .int p0)] := hl
  have hP : va_P (dC, dI) vwCl [((a 0), .inr (8, [.ref (a 1), .ref (a 2), .ref (a 3), .ref (a 4), .ref (a 5), .ref (a 6), .ref (a 7), .ref (a 8), .ref (a 9), .ref (a 10), .ref (a 11), .ref (a 12), .ref (a 13), .ref (a 14), .int fk, .int fp])), ((a 4), .inr (2, [.int n_lines, .int n_days, .int n_law, .int n_odds, .int n_volts, .int n_spans, .int n_wetLines, .int n_wet, .int n_acts, .ref (a 19), .ref (a 20), .ref (a 21), .ref (a 22), .ref (a 23), .ref (a 24), .ref (a 25), .ref (a 26)])), ((a 19), .inl (cI, 5, .inl n_a_ohms)), ((a 20), .inl (cI, 5, .inl n_a_leaks)), ((a 21), .inl (cI, 5, .inl n_a_needs)), ((a 22), .inl (cI, 30, .inl n_a_kinds)), ((a 23), .inl (cI, 30, .inl n_a_places)), ((a 24), .inl (cI, 30, .inl n_a_actDays)), ((a 6), .inl (cL, 3, .inr (.inr (.inr (.inr im))))), (h, .inr (2, [.int c_lines, .int c_days, .int c_law, .int c_odds, .int c_volts, .int c_spans, .int c_wetLines, .int c_wet, .int c_acts, .ref (v 0), .ref (v 1), .ref (v 2), .ref (v 3), .ref (v 4), .ref (v 5), .ref (v 6), .ref (v 7)])), ((v 0), .inl (cI, 5, .inl c_a_ohms)), ((v 1), .inl (cI, 5, .inl c_a_leaks)), ((v 2), .inl (cI, 5, .inl c_a_needs)), ((v 3), .inl (cI, 30, .inl c_a_kinds)), ((v 4), .inl (cI, 30, .inl c_a_places)), ((v 5), .inl (cI, 30, .inl c_a_actDays)), ((v 6), .inl (cI, 5, .inl c_a_cupDays)), ((v 7), .inl (cI, 5, .inl c_a_snapDays))] s.heap := hP
  have hD : va_D A [((a 0), .inr (8, [.ref (a 1), .ref (a 2), .ref (a 3), .ref (a 4), .ref (a 5), .ref (a 6), .ref (a 7), .ref (a 8), .ref (a 9), .ref (a 10), .ref (a 11), .ref (a 12), .ref (a 13), .ref (a 14), .int fk, .int fp])), ((a 4), .inr (2, [.int n_lines, .int n_days, .int n_law, .int n_odds, .int n_volts, .int n_spans, .int n_wetLines, .int n_wet, .int n_acts, .ref (a 19), .ref (a 20), .ref (a 21), .ref (a 22), .ref (a 23), .ref (a 24), .ref (a 25), .ref (a 26)])), ((a 19), .inl (cI, 5, .inl n_a_ohms)), ((a 20), .inl (cI, 5, .inl n_a_leaks)), ((a 21), .inl (cI, 5, .inl n_a_needs)), ((a 22), .inl (cI, 30, .inl n_a_kinds)), ((a 23), .inl (cI, 30, .inl n_a_places)), ((a 24), .inl (cI, 30, .inl n_a_actDays)), ((a 6), .inl (cL, 3, .inr (.inr (.inr (.inr im))))), (h, .inr (2, [.int c_lines, .int c_days, .int c_law, .int c_odds, .int c_volts, .int c_spans, .int c_wetLines, .int c_wet, .int c_acts, .ref (v 0), .ref (v 1), .ref (v 2), .ref (v 3), .ref (v 4), .ref (v 5), .ref (v 6), .ref (v 7)])), ((v 0), .inl (cI, 5, .inl c_a_ohms)), ((v 1), .inl (cI, 5, .inl c_a_leaks)), ((v 2), .inl (cI, 5, .inl c_a_needs)), ((v 3), .inl (cI, 30, .inl c_a_kinds)), ((v 4), .inl (cI, 30, .inl c_a_places)), ((v 5), .inl (cI, 30, .inl c_a_actDays)), ((v 6), .inl (cI, 5, .inl c_a_cupDays)), ((v 7), .inl (cI, 5, .inl c_a_snapDays))] := hD
  have rg_p0 := rgI p0
  refine lv_iload_n hx hb dX8_image_0 rfl (lv_at hl 1 rfl) ?_
  refine lv_if_lt (tgt := 13) hx hb dX8_image_1 (by decide) (fun c9 => absurd c9 (by rw [i_lt, T0]; omega)) (fun _ => ?_)
  refine lv_iload_n hx hb dX8_image_4 rfl (lv_at hl 1 rfl) ?_
  refine lv_aload_n hx hb dX8_image_5 rfl (lv_at hl 0 rfl) ?_
  refine va_get (D := (dC, dI)) (ci := 8) (v := .ref (a 6)) (C := RX8) (T := TX8) (N := 16) hx hb ht iX8 hown hK hP 0 rfl rfl 5 (by decide) (ht _ w_380) (fun _ h9 => h9) rfl dX8_image_6 ?_
  refine va_alen (v := 3) hx hb hK hP 8 4 rfl rfl (by first | decide | (show Int32.ofNat 3 = 3; decide)) dX8_image_9 ?_
  refine lv_icmp_lt (tgt := 16) hx hb dX8_image_10 (by decide) (fun _ => ?_) (fun c9 => absurd (by rw [i_lt, T3]; omega) c9)
  refine lv_aload_n hx hb dX8_image_16 rfl (lv_at hl 0 rfl) ?_
  refine va_get (D := (dC, dI)) (ci := 8) (v := .ref (a 6)) (C := RX8) (T := TX8) (N := 16) hx hb ht iX8 hown hK hP 0 rfl rfl 5 (by decide) (ht _ w_380) (fun _ h9 => h9) rfl dX8_image_17 ?_
  refine lv_iload_n hx hb dX8_image_20 rfl (lv_at hl 1 rfl) ?_
  refine va_aldq hx hb hK hP 8 4 rfl rfl (vp_in_iff.mpr (by omega)) dX8_image_21 ?_
  rw [him]
  refine W.eq (g2 := F0 m 22 ls (.ref h :: [])) rfl ?_
  refine lv_astore_n (lv' := [(2, .ref h), (0, .ref (a 0)), (1, .int p0)]) hx hb dX8_image_22 rfl hl (by decide) rfl (fun ls hl => ?_)
  refine lv_aload_n hx hb dX8_image_23 rfl (lv_at hl 0 rfl) ?_
  refine lv_ifnonnull (tgt := 42) hx hb dX8_image_24 (by decide) ?_
  refine lv_aload_n hx hb dX8_image_42 rfl (lv_at hl 0 rfl) ?_
  refine lv_aload_n hx hb dX8_image_43 rfl (lv_at hl 1 rfl) ?_
  refine va_get (D := (dC, dI)) (ci := 8) (v := .ref (a 4)) (C := RX8) (T := TX8) (N := 16) hx hb ht iX8 hown hK hP 0 rfl rfl 3 (by decide) (ht _ w_378) (fun _ h9 => h9) rfl dX8_image_44 ?_
  have hPc := hP.sub (ws' := [(h, .inr (2, [.int c_lines, .int c_days, .int c_law, .int c_odds, .int c_volts, .int c_spans, .int c_wetLines, .int c_wet, .int c_acts, .ref (v 0), .ref (v 1), .ref (v 2), .ref (v 3), .ref (v 4), .ref (v 5), .ref (v 6), .ref (v 7)])), ((v 0), .inl (cI, 5, .inl c_a_ohms)), ((v 1), .inl (cI, 5, .inl c_a_leaks)), ((v 2), .inl (cI, 5, .inl c_a_needs)), ((v 3), .inl (cI, 30, .inl c_a_kinds)), ((v 4), .inl (cI, 30, .inl c_a_places)), ((v 5), .inl (cI, 30, .inl c_a_actDays)), ((v 6), .inl (cI, 5, .inl c_a_cupDays)), ((v 7), .inl (cI, 5, .inl c_a_snapDays)), ((a 4), .inr (2, [.int n_lines, .int n_days, .int n_law, .int n_odds, .int n_volts, .int n_spans, .int n_wetLines, .int n_wet, .int n_acts, .ref (a 19), .ref (a 20), .ref (a 21), .ref (a 22), .ref (a 23), .ref (a 24), .ref (a 25), .ref (a 26)])), ((a 19), .inl (cI, 5, .inl n_a_ohms)), ((a 20), .inl (cI, 5, .inl n_a_leaks)), ((a 21), .inl (cI, 5, .inl n_a_needs)), ((a 22), .inl (cI, 30, .inl n_a_kinds)), ((a 23), .inl (cI, 30, .inl n_a_places)), ((a 24), .inl (cI, 30, .inl n_a_actDays))]) [9, 10, 11, 12, 13, 14, 15, 16, 17, 1, 2, 3, 4, 5, 6, 7] rfl
  have hDc := hD.sub (ws' := [(h, .inr (2, [.int c_lines, .int c_days, .int c_law, .int c_odds, .int c_volts, .int c_spans, .int c_wetLines, .int c_wet, .int c_acts, .ref (v 0), .ref (v 1), .ref (v 2), .ref (v 3), .ref (v 4), .ref (v 5), .ref (v 6), .ref (v 7)])), ((v 0), .inl (cI, 5, .inl c_a_ohms)), ((v 1), .inl (cI, 5, .inl c_a_leaks)), ((v 2), .inl (cI, 5, .inl c_a_needs)), ((v 3), .inl (cI, 30, .inl c_a_kinds)), ((v 4), .inl (cI, 30, .inl c_a_places)), ((v 5), .inl (cI, 30, .inl c_a_actDays)), ((v 6), .inl (cI, 5, .inl c_a_cupDays)), ((v 7), .inl (cI, 5, .inl c_a_snapDays)), ((a 4), .inr (2, [.int n_lines, .int n_days, .int n_law, .int n_odds, .int n_volts, .int n_spans, .int n_wetLines, .int n_wet, .int n_acts, .ref (a 19), .ref (a 20), .ref (a 21), .ref (a 22), .ref (a 23), .ref (a 24), .ref (a 25), .ref (a 26)])), ((a 19), .inl (cI, 5, .inl n_a_ohms)), ((a 20), .inl (cI, 5, .inl n_a_leaks)), ((a 21), .inl (cI, 5, .inl n_a_needs)), ((a 22), .inl (cI, 30, .inl n_a_kinds)), ((a 23), .inl (cI, 30, .inl n_a_places)), ((a 24), .inl (cI, 30, .inl n_a_actDays))]) [9, 10, 11, 12, 13, 14, 15, 16, 17, 1, 2, 3, 4, 5, 6, 7] (by decide) rfl
  have hFc := va_free (wc := [(h, .inr (2, [.int c_lines, .int c_days, .int c_law, .int c_odds, .int c_volts, .int c_spans, .int c_wetLines, .int c_wet, .int c_acts, .ref (v 0), .ref (v 1), .ref (v 2), .ref (v 3), .ref (v 4), .ref (v 5), .ref (v 6), .ref (v 7)])), ((v 0), .inl (cI, 5, .inl c_a_ohms)), ((v 1), .inl (cI, 5, .inl c_a_leaks)), ((v 2), .inl (cI, 5, .inl c_a_needs)), ((v 3), .inl (cI, 30, .inl c_a_kinds)), ((v 4), .inl (cI, 30, .inl c_a_places)), ((v 5), .inl (cI, 30, .inl c_a_actDays)), ((v 6), .inl (cI, 5, .inl c_a_cupDays)), ((v 7), .inl (cI, 5, .inl c_a_snapDays)), ((a 4), .inr (2, [.int n_lines, .int n_days, .int n_law, .int n_odds, .int n_volts, .int n_spans, .int n_wetLines, .int n_wet, .int n_acts, .ref (a 19), .ref (a 20), .ref (a 21), .ref (a 22), .ref (a 23), .ref (a 24), .ref (a 25), .ref (a 26)])), ((a 19), .inl (cI, 5, .inl n_a_ohms)), ((a 20), .inl (cI, 5, .inl n_a_leaks)), ((a 21), .inl (cI, 5, .inl n_a_needs)), ((a 22), .inl (cI, 30, .inl n_a_kinds)), ((a 23), .inl (cI, 30, .inl n_a_places)), ((a 24), .inl (cI, 30, .inl n_a_actDays))]) hD hS hA [9, 10, 11, 12, 13, 14, 15, 16, 17, 1, 2, 3, 4, 5, 6, 7] rfl
  refine va_callv (va_runV (As := [.ref (a 4)]) (rest := []) ⟨hx, hb, hml, hown, ht⟩ (s_X2_take l dC dI cB cI cJ cZ cL s.heap.size h v (a 4) (fun j => a (19 + j)) c_lines c_days c_law c_odds c_volts c_spans c_wetLines c_wet c_acts c_a_ohms c_a_leaks c_a_needs c_a_kinds c_a_places c_a_actDays c_a_cupDays c_a_snapDays n_lines n_days n_law n_odds n_volts n_spans n_wetLines n_wet n_acts n_a_ohms n_a_leaks n_a_needs n_a_kinds n_a_places n_a_actDays (by first | assumption | omega | decide | (simp only [T0, T1, T2, T3, Tm1]; omega)) (by first | assumption | omega | decide | (simp only [T0, T1, T2, T3, Tm1]; omega)) (by first | assumption | omega | decide | (simp only [T0, T1, T2, T3, Tm1]; omega))) (cwV 1 ht (gV w_594 w_595 w_596 w_109 w_597) rfl rfl rfl (by decide +kernel) ⟨Nat.le_of_ble_eq_true rfl, Nat.le_of_ble_eq_true rfl⟩) (pVQn hN hK hPc hDc (ci := 2) (q0 := 0) rfl rfl) rfl rfl hl.1 rfl (lv_room (Nat.le_of_ble_eq_true rfl)) dX8_image_47 ⟨Nat.le_of_ble_eq_true rfl, Nat.le_of_ble_eq_true rfl⟩) hS (fun q _ h => hFc q h) hFc (fun u_2 t1 H1 locs ht1 hvm hw hB hz1 hk1 hS => ?_)
  obtain ⟨z_3, z_4, z_5, z_6, z_7, z_8, z_9, z_10, z_11, z_12, z_13, z_14, z_15, z_16, z_17, z_18, z_19⟩ := u_2
  obtain ⟨hP1, hD1⟩ := hB
  rw [ht1] at hP1
  obtain ⟨hP, hD⟩ := va_join (wr := [((a 0), .inr (8, [.ref (a 1), .ref (a 2), .ref (a 3), .ref (a 4), .ref (a 5), .ref (a 6), .ref (a 7), .ref (a 8), .ref (a 9), .ref (a 10), .ref (a 11), .ref (a 12), .ref (a 13), .ref (a 14), .int fk, .int fp])), ((a 6), .inl (cL, 3, .inr (.inr (.inr (.inr im)))))]) (w1 := [(h, .inr (2, [.int z_3, .int z_4, .int z_5, .int z_6, .int z_7, .int z_8, .int z_9, .int z_10, .int z_11, .ref (v 0), .ref (v 1), .ref (v 2), .ref (v 3), .ref (v 4), .ref (v 5), .ref (v 6), .ref (v 7)])), ((v 0), .inl (cI, 5, .inl z_12)), ((v 1), .inl (cI, 5, .inl z_13)), ((v 2), .inl (cI, 5, .inl z_14)), ((v 3), .inl (cI, 30, .inl z_15)), ((v 4), .inl (cI, 30, .inl z_16)), ((v 5), .inl (cI, 30, .inl z_17)), ((v 6), .inl (cI, 5, .inl z_18)), ((v 7), .inl (cI, 5, .inl z_19)), ((a 4), .inr (2, [.int n_lines, .int n_days, .int n_law, .int n_odds, .int n_volts, .int n_spans, .int n_wetLines, .int n_wet, .int n_acts, .ref (a 19), .ref (a 20), .ref (a 21), .ref (a 22), .ref (a 23), .ref (a 24), .ref (a 25), .ref (a 26)])), ((a 19), .inl (cI, 5, .inl n_a_ohms)), ((a 20), .inl (cI, 5, .inl n_a_leaks)), ((a 21), .inl (cI, 5, .inl n_a_needs)), ((a 22), .inl (cI, 30, .inl n_a_kinds)), ((a 23), .inl (cI, 30, .inl n_a_places)), ((a 24), .inl (cI, 30, .inl n_a_actDays))]) hP hD [9, 10, 11, 12, 13, 14, 15, 16, 17, 1, 2, 3, 4, 5, 6, 7] [0, 8] rfl rfl (by decide) (by decide) hk1 hFc hP1 hD1
  clear hFc hDc hPc hP1 hD1 hz1 hk1 hvm
  generalize H1 = H at hP hS ⊢
  have hP : va_P (dC, dI) vwCl [((a 0), .inr (8, [.ref (a 1), .ref (a 2), .ref (a 3), .ref (a 4), .ref (a 5), .ref (a 6), .ref (a 7), .ref (a 8), .ref (a 9), .ref (a 10), .ref (a 11), .ref (a 12), .ref (a 13), .ref (a 14), .int fk, .int fp])), ((a 6), .inl (cL, 3, .inr (.inr (.inr (.inr im))))), (h, .inr (2, [.int z_3, .int z_4, .int z_5, .int z_6, .int z_7, .int z_8, .int z_9, .int z_10, .int z_11, .ref (v 0), .ref (v 1), .ref (v 2), .ref (v 3), .ref (v 4), .ref (v 5), .ref (v 6), .ref (v 7)])), ((v 0), .inl (cI, 5, .inl z_12)), ((v 1), .inl (cI, 5, .inl z_13)), ((v 2), .inl (cI, 5, .inl z_14)), ((v 3), .inl (cI, 30, .inl z_15)), ((v 4), .inl (cI, 30, .inl z_16)), ((v 5), .inl (cI, 30, .inl z_17)), ((v 6), .inl (cI, 5, .inl z_18)), ((v 7), .inl (cI, 5, .inl z_19)), ((a 4), .inr (2, [.int n_lines, .int n_days, .int n_law, .int n_odds, .int n_volts, .int n_spans, .int n_wetLines, .int n_wet, .int n_acts, .ref (a 19), .ref (a 20), .ref (a 21), .ref (a 22), .ref (a 23), .ref (a 24), .ref (a 25), .ref (a 26)])), ((a 19), .inl (cI, 5, .inl n_a_ohms)), ((a 20), .inl (cI, 5, .inl n_a_leaks)), ((a 21), .inl (cI, 5, .inl n_a_needs)), ((a 22), .inl (cI, 30, .inl n_a_kinds)), ((a 23), .inl (cI, 30, .inl n_a_places)), ((a 24), .inl (cI, 30, .inl n_a_actDays))] H := hP
  have hD : va_D A [((a 0), .inr (8, [.ref (a 1), .ref (a 2), .ref (a 3), .ref (a 4), .ref (a 5), .ref (a 6), .ref (a 7), .ref (a 8), .ref (a 9), .ref (a 10), .ref (a 11), .ref (a 12), .ref (a 13), .ref (a 14), .int fk, .int fp])), ((a 6), .inl (cL, 3, .inr (.inr (.inr (.inr im))))), (h, .inr (2, [.int z_3, .int z_4, .int z_5, .int z_6, .int z_7, .int z_8, .int z_9, .int z_10, .int z_11, .ref (v 0), .ref (v 1), .ref (v 2), .ref (v 3), .ref (v 4), .ref (v 5), .ref (v 6), .ref (v 7)])), ((v 0), .inl (cI, 5, .inl z_12)), ((v 1), .inl (cI, 5, .inl z_13)), ((v 2), .inl (cI, 5, .inl z_14)), ((v 3), .inl (cI, 30, .inl z_15)), ((v 4), .inl (cI, 30, .inl z_16)), ((v 5), .inl (cI, 30, .inl z_17)), ((v 6), .inl (cI, 5, .inl z_18)), ((v 7), .inl (cI, 5, .inl z_19)), ((a 4), .inr (2, [.int n_lines, .int n_days, .int n_law, .int n_odds, .int n_volts, .int n_spans, .int n_wetLines, .int n_wet, .int n_acts, .ref (a 19), .ref (a 20), .ref (a 21), .ref (a 22), .ref (a 23), .ref (a 24), .ref (a 25), .ref (a 26)])), ((a 19), .inl (cI, 5, .inl n_a_ohms)), ((a 20), .inl (cI, 5, .inl n_a_leaks)), ((a 21), .inl (cI, 5, .inl n_a_needs)), ((a 22), .inl (cI, 30, .inl n_a_kinds)), ((a 23), .inl (cI, 30, .inl n_a_places)), ((a 24), .inl (cI, 30, .inl n_a_actDays))] := hD
  (try dsimp only at hw)
  have hw_20 := hw
  clear hw
  refine lv_iconst (v := 0) hx hb dX8_image_50 (by decide) ?_
  have hP9 := hP.sub (ws' := [((a 0), .inr (8, [.ref (a 1), .ref (a 2), .ref (a 3), .ref (a 4), .ref (a 5), .ref (a 6), .ref (a 7), .ref (a 8), .ref (a 9), .ref (a 10), .ref (a 11), .ref (a 12), .ref (a 13), .ref (a 14), .int fk, .int fp])), ((a 4), .inr (2, [.int n_lines, .int n_days, .int n_law, .int n_odds, .int n_volts, .int n_spans, .int n_wetLines, .int n_wet, .int n_acts, .ref (a 19), .ref (a 20), .ref (a 21), .ref (a 22), .ref (a 23), .ref (a 24), .ref (a 25), .ref (a 26)])), ((a 19), .inl (cI, 5, .inl n_a_ohms)), ((a 20), .inl (cI, 5, .inl n_a_leaks)), ((a 21), .inl (cI, 5, .inl n_a_needs)), ((a 22), .inl (cI, 30, .inl n_a_kinds)), ((a 23), .inl (cI, 30, .inl n_a_places)), ((a 24), .inl (cI, 30, .inl n_a_actDays)), ((a 6), .inl (cL, 3, .inr (.inr (.inr (.inr im))))), (h, .inr (2, [.int z_3, .int z_4, .int z_5, .int z_6, .int z_7, .int z_8, .int z_9, .int z_10, .int z_11, .ref (v 0), .ref (v 1), .ref (v 2), .ref (v 3), .ref (v 4), .ref (v 5), .ref (v 6), .ref (v 7)])), ((v 0), .inl (cI, 5, .inl z_12)), ((v 1), .inl (cI, 5, .inl z_13)), ((v 2), .inl (cI, 5, .inl z_14)), ((v 3), .inl (cI, 30, .inl z_15)), ((v 4), .inl (cI, 30, .inl z_16)), ((v 5), .inl (cI, 30, .inl z_17)), ((v 6), .inl (cI, 5, .inl z_18)), ((v 7), .inl (cI, 5, .inl z_19))]) [0, 11, 12, 13, 14, 15, 16, 17, 1, 2, 3, 4, 5, 6, 7, 8, 9, 10] rfl
  have hD9 := hD.sub (ws' := [((a 0), .inr (8, [.ref (a 1), .ref (a 2), .ref (a 3), .ref (a 4), .ref (a 5), .ref (a 6), .ref (a 7), .ref (a 8), .ref (a 9), .ref (a 10), .ref (a 11), .ref (a 12), .ref (a 13), .ref (a 14), .int fk, .int fp])), ((a 4), .inr (2, [.int n_lines, .int n_days, .int n_law, .int n_odds, .int n_volts, .int n_spans, .int n_wetLines, .int n_wet, .int n_acts, .ref (a 19), .ref (a 20), .ref (a 21), .ref (a 22), .ref (a 23), .ref (a 24), .ref (a 25), .ref (a 26)])), ((a 19), .inl (cI, 5, .inl n_a_ohms)), ((a 20), .inl (cI, 5, .inl n_a_leaks)), ((a 21), .inl (cI, 5, .inl n_a_needs)), ((a 22), .inl (cI, 30, .inl n_a_kinds)), ((a 23), .inl (cI, 30, .inl n_a_places)), ((a 24), .inl (cI, 30, .inl n_a_actDays)), ((a 6), .inl (cL, 3, .inr (.inr (.inr (.inr im))))), (h, .inr (2, [.int z_3, .int z_4, .int z_5, .int z_6, .int z_7, .int z_8, .int z_9, .int z_10, .int z_11, .ref (v 0), .ref (v 1), .ref (v 2), .ref (v 3), .ref (v 4), .ref (v 5), .ref (v 6), .ref (v 7)])), ((v 0), .inl (cI, 5, .inl z_12)), ((v 1), .inl (cI, 5, .inl z_13)), ((v 2), .inl (cI, 5, .inl z_14)), ((v 3), .inl (cI, 30, .inl z_15)), ((v 4), .inl (cI, 30, .inl z_16)), ((v 5), .inl (cI, 30, .inl z_17)), ((v 6), .inl (cI, 5, .inl z_18)), ((v 7), .inl (cI, 5, .inl z_19))]) [0, 11, 12, 13, 14, 15, 16, 17, 1, 2, 3, 4, 5, 6, 7, 8, 9, 10] (by decide) rfl
  exact W.iret (v := 0) hx hb hr (fun t ht hW => ⟨⟨0, (z_3, z_4, z_5, z_6, z_7, z_8, z_9, z_10, z_11, z_12, z_13, z_14, z_15, z_16, z_17, z_18, z_19), rfl, ⟨rfl, (by first | omega | assumption | (dsimp only; done) | (dsimp only; omega) | (dsimp only; assumption) | (have e0 := T0; dsimp only; omega) | (have e0 := T0; omega)), (by first | omega | assumption | (dsimp only; done) | (dsimp only; omega) | (dsimp only; assumption) | (have e0 := T0; dsimp only; omega) | (have e0 := T0; omega)), (by first | omega | assumption | (dsimp only; done) | (dsimp only; omega) | (dsimp only; assumption) | (have e0 := T0; dsimp only; omega) | (have e0 := T0; omega)), (by first | assumption | exact hw_20.2.2.2.2 | (dsimp only; exact hw_20.2.2.2.2))⟩, ⟨by rw [ht]; exact hP9, hD9⟩⟩, hS.F ht⟩) hS.2.2 dX8_image_51
set_option maxHeartbeats 8000000 in
set_option maxRecDepth 100000 in
theorem s_X8_back_old (l : Launch) (dC : Nat → ClassId) (dI : Nat → Nat → Nat) (cB cI cJ cZ cL : ClassId) (sz : Nat) (a : Nat → Nat) (h : Nat) (v : Nat → Nat) (fk : Int32) (fp : Int32) (n_lines : Int32) (n_days : Int32) (n_law : Int32) (n_odds : Int32) (n_volts : Int32) (n_spans : Int32) (n_wetLines : Int32) (n_wet : Int32) (n_acts : Int32) (n_a_ohms : Nat → Int32) (n_a_leaks : Nat → Int32) (n_a_needs : Nat → Int32) (n_a_kinds : Nat → Int32) (n_a_places : Nat → Int32) (n_a_actDays : Nat → Int32) (n_a_cupDays : Nat → Int32) (n_a_snapDays : Nat → Int32) (im : Nat → Option Nat) (c_lines : Int32) (c_days : Int32) (c_law : Int32) (c_odds : Int32) (c_volts : Int32) (c_spans : Int32) (c_wetLines : Int32) (c_wet : Int32) (c_acts : Int32) (c_a_ohms : Nat → Int32) (c_a_leaks : Nat → Int32) (c_a_needs : Nat → Int32) (c_a_kinds : Nat → Int32) (c_a_places : Nat → Int32) (c_a_actDays : Nat → Int32) (p0 : Int32) (hk : 0 ≤ Int32.toInt p0 ∧ Int32.toInt p0 ≤ 2) (him : im (Int32.toNatClampNeg p0) = some h) (hpc : ∀ i : Nat, 0 ≤ Int32.toInt (c_a_places i) ∧ Int32.toInt (c_a_places i) ≤ 4) (hpl : ∀ i : Nat, 0 ≤ Int32.toInt (n_a_places i) ∧ Int32.toInt (n_a_places i) ≤ 4) (hca : 0 ≤ Int32.toInt c_acts ∧ Int32.toInt c_acts ≤ 30) : Met l yX8_back (wy yX8_back cX8_back 3 (some .int)) ({ frames := 3, cells := 0, slots := 0, locals := 120 }) (va_Pc [.ref (a 0), .int p0] (fun U => U.heap.size = sz ∧ va_P (dC, dI) vwCl [((a 0), .inr (8, [.ref (a 1), .ref (a 2), .ref (a 3), .ref (a 4), .ref (a 5), .ref (a 6), .ref (a 7), .ref (a 8), .ref (a 9), .ref (a 10), .ref (a 11), .ref (a 12), .ref (a 13), .ref (a 14), .int fk, .int fp])), ((a 4), .inr (2, [.int n_lines, .int n_days, .int n_law, .int n_odds, .int n_volts, .int n_spans, .int n_wetLines, .int n_wet, .int n_acts, .ref (a 19), .ref (a 20), .ref (a 21), .ref (a 22), .ref (a 23), .ref (a 24), .ref (a 25), .ref (a 26)])), ((a 19), .inl (cI, 5, .inl n_a_ohms)), ((a 20), .inl (cI, 5, .inl n_a_leaks)), ((a 21), .inl (cI, 5, .inl n_a_needs)), ((a 22), .inl (cI, 30, .inl n_a_kinds)), ((a 23), .inl (cI, 30, .inl n_a_places)), ((a 24), .inl (cI, 30, .inl n_a_actDays)), ((a 25), .inl (cI, 5, .inl n_a_cupDays)), ((a 26), .inl (cI, 5, .inl n_a_snapDays)), ((a 6), .inl (cL, 3, .inr (.inr (.inr (.inr im))))), (h, .inr (2, [.int c_lines, .int c_days, .int c_law, .int c_odds, .int c_volts, .int c_spans, .int c_wetLines, .int c_wet, .int c_acts, .ref (v 0), .ref (v 1), .ref (v 2), .ref (v 3), .ref (v 4), .ref (v 5), .ref (v 6), .ref (v 7)])), ((v 0), .inl (cI, 5, .inl c_a_ohms)), ((v 1), .inl (cI, 5, .inl c_a_leaks)), ((v 2), .inl (cI, 5, .inl c_a_needs)), ((v 3), .inl (cI, 30, .inl c_a_kinds)), ((v 4), .inl (cI, 30, .inl c_a_places)), ((v 5), .inl (cI, 30, .inl c_a_actDays))] U.heap ∧ va_K (dC, dI) vwCl (tyL cB cI cJ cZ cL) U ∧ va_D (fun _ => True) [((a 0), .inr (8, [.ref (a 1), .ref (a 2), .ref (a 3), .ref (a 4), .ref (a 5), .ref (a 6), .ref (a 7), .ref (a 8), .ref (a 9), .ref (a 10), .ref (a 11), .ref (a 12), .ref (a 13), .ref (a 14), .int fk, .int fp])), ((a 4), .inr (2, [.int n_lines, .int n_days, .int n_law, .int n_odds, .int n_volts, .int n_spans, .int n_wetLines, .int n_wet, .int n_acts, .ref (a 19), .ref (a 20), .ref (a 21), .ref (a 22), .ref (a 23), .ref (a 24), .ref (a 25), .ref (a 26)])), ((a 19), .inl (cI, 5, .inl n_a_ohms)), ((a 20), .inl (cI, 5, .inl n_a_leaks)), ((a 21), .inl (cI, 5, .inl n_a_needs)), ((a 22), .inl (cI, 30, .inl n_a_kinds)), ((a 23), .inl (cI, 30, .inl n_a_places)), ((a 24), .inl (cI, 30, .inl n_a_actDays)), ((a 25), .inl (cI, 5, .inl n_a_cupDays)), ((a 26), .inl (cI, 5, .inl n_a_snapDays)), ((a 6), .inl (cL, 3, .inr (.inr (.inr (.inr im))))), (h, .inr (2, [.int c_lines, .int c_days, .int c_law, .int c_odds, .int c_volts, .int c_spans, .int c_wetLines, .int c_wet, .int c_acts, .ref (v 0), .ref (v 1), .ref (v 2), .ref (v 3), .ref (v 4), .ref (v 5), .ref (v 6), .ref (v 7)])), ((v 0), .inl (cI, 5, .inl c_a_ohms)), ((v 1), .inl (cI, 5, .inl c_a_leaks)), ((v 2), .inl (cI, 5, .inl c_a_needs)), ((v 3), .inl (cI, 30, .inl c_a_kinds)), ((v 4), .inl (cI, 30, .inl c_a_places)), ((v 5), .inl (cI, 30, .inl c_a_actDays))] ∧ NW U)) (va_Qi (fun r u => r = 0 ∧ (0 ≤ Int32.toInt u.2.2.2.2.2.2.2.2.1 ∧ Int32.toInt u.2.2.2.2.2.2.2.2.1 ≤ 30) ∧ Int32.toInt u.2.1 = Int32.toInt c_days ∧ Int32.toInt u.2.2.2.2.2.1 = Int32.toInt c_spans ∧ (∀ i : Nat, 0 ≤ Int32.toInt (u.2.2.2.2.2.2.2.2.2.2.2.2.2.1 i) ∧ Int32.toInt (u.2.2.2.2.2.2.2.2.2.2.2.2.2.1 i) ≤ 4)) (fun (u : (Int32) × (Int32) × (Int32) × (Int32) × (Int32) × (Int32) × (Int32) × (Int32) × (Int32) × (Nat → Int32) × (Nat → Int32) × (Nat → Int32) × (Nat → Int32) × (Nat → Int32) × (Nat → Int32) × (Nat → Int32) × (Nat → Int32)) t => va_P (dC, dI) vwCl [((a 0), .inr (8, [.ref (a 1), .ref (a 2), .ref (a 3), .ref (a 4), .ref (a 5), .ref (a 6), .ref (a 7), .ref (a 8), .ref (a 9), .ref (a 10), .ref (a 11), .ref (a 12), .ref (a 13), .ref (a 14), .int fk, .int fp])), ((a 4), .inr (2, [.int u.1, .int u.2.1, .int u.2.2.1, .int u.2.2.2.1, .int u.2.2.2.2.1, .int u.2.2.2.2.2.1, .int u.2.2.2.2.2.2.1, .int u.2.2.2.2.2.2.2.1, .int u.2.2.2.2.2.2.2.2.1, .ref (a 19), .ref (a 20), .ref (a 21), .ref (a 22), .ref (a 23), .ref (a 24), .ref (a 25), .ref (a 26)])), ((a 19), .inl (cI, 5, .inl u.2.2.2.2.2.2.2.2.2.1)), ((a 20), .inl (cI, 5, .inl u.2.2.2.2.2.2.2.2.2.2.1)), ((a 21), .inl (cI, 5, .inl u.2.2.2.2.2.2.2.2.2.2.2.1)), ((a 22), .inl (cI, 30, .inl u.2.2.2.2.2.2.2.2.2.2.2.2.1)), ((a 23), .inl (cI, 30, .inl u.2.2.2.2.2.2.2.2.2.2.2.2.2.1)), ((a 24), .inl (cI, 30, .inl u.2.2.2.2.2.2.2.2.2.2.2.2.2.2.1)), ((a 25), .inl (cI, 5, .inl u.2.2.2.2.2.2.2.2.2.2.2.2.2.2.2.1)), ((a 26), .inl (cI, 5, .inl u.2.2.2.2.2.2.2.2.2.2.2.2.2.2.2.2)), ((a 6), .inl (cL, 3, .inr (.inr (.inr (.inr im))))), (h, .inr (2, [.int c_lines, .int c_days, .int c_law, .int c_odds, .int c_volts, .int c_spans, .int c_wetLines, .int c_wet, .int c_acts, .ref (v 0), .ref (v 1), .ref (v 2), .ref (v 3), .ref (v 4), .ref (v 5), .ref (v 6), .ref (v 7)])), ((v 0), .inl (cI, 5, .inl c_a_ohms)), ((v 1), .inl (cI, 5, .inl c_a_leaks)), ((v 2), .inl (cI, 5, .inl c_a_needs)), ((v 3), .inl (cI, 30, .inl c_a_kinds)), ((v 4), .inl (cI, 30, .inl c_a_places)), ((v 5), .inl (cI, 30, .inl c_a_actDays))] t.heap ∧ va_D (va_A [((a 0), .inr (8, [.ref (a 1), .ref (a 2), .ref (a 3), .ref (a 4), .ref (a 5), .ref (a 6), .ref (a 7), .ref (a 8), .ref (a 9), .ref (a 10), .ref (a 11), .ref (a 12), .ref (a 13), .ref (a 14), .int fk, .int fp])), ((a 4), .inr (2, [.int n_lines, .int n_days, .int n_law, .int n_odds, .int n_volts, .int n_spans, .int n_wetLines, .int n_wet, .int n_acts, .ref (a 19), .ref (a 20), .ref (a 21), .ref (a 22), .ref (a 23), .ref (a 24), .ref (a 25), .ref (a 26)])), ((a 19), .inl (cI, 5, .inl n_a_ohms)), ((a 20), .inl (cI, 5, .inl n_a_leaks)), ((a 21), .inl (cI, 5, .inl n_a_needs)), ((a 22), .inl (cI, 30, .inl n_a_kinds)), ((a 23), .inl (cI, 30, .inl n_a_places)), ((a 24), .inl (cI, 30, .inl n_a_actDays)), ((a 25), .inl (cI, 5, .inl n_a_cupDays)), ((a 26), .inl (cI, 5, .inl n_a_snapDays)), ((a 6), .inl (cL, 3, .inr (.inr (.inr (.inr im))))), (h, .inr (2, [.int c_lines, .int c_days, .int c_law, .int c_odds, .int c_volts, .int c_spans, .int c_wetLines, .int c_wet, .int c_acts, .ref (v 0), .ref (v 1), .ref (v 2), .ref (v 3), .ref (v 4), .ref (v 5), .ref (v 6), .ref (v 7)])), ((v 0), .inl (cI, 5, .inl c_a_ohms)), ((v 1), .inl (cI, 5, .inl c_a_leaks)), ((v 2), .inl (cI, 5, .inl c_a_needs)), ((v 3), .inl (cI, 30, .inl c_a_kinds)), ((v 4), .inl (cI, 30, .inl c_a_places)), ((v 5), .inl (cI, 30, .inl c_a_actDays))] sz) [((a 0), .inr (8, [.ref (a 1), .ref (a 2), .ref (a 3), .ref (a 4), .ref (a 5), .ref (a 6), .ref (a 7), .ref (a 8), .ref (a 9), .ref (a 10), .ref (a 11), .ref (a 12), .ref (a 13), .ref (a 14), .int fk, .int fp])), ((a 4), .inr (2, [.int u.1, .int u.2.1, .int u.2.2.1, .int u.2.2.2.1, .int u.2.2.2.2.1, .int u.2.2.2.2.2.1, .int u.2.2.2.2.2.2.1, .int u.2.2.2.2.2.2.2.1, .int u.2.2.2.2.2.2.2.2.1, .ref (a 19), .ref (a 20), .ref (a 21), .ref (a 22), .ref (a 23), .ref (a 24), .ref (a 25), .ref (a 26)])), ((a 19), .inl (cI, 5, .inl u.2.2.2.2.2.2.2.2.2.1)), ((a 20), .inl (cI, 5, .inl u.2.2.2.2.2.2.2.2.2.2.1)), ((a 21), .inl (cI, 5, .inl u.2.2.2.2.2.2.2.2.2.2.2.1)), ((a 22), .inl (cI, 30, .inl u.2.2.2.2.2.2.2.2.2.2.2.2.1)), ((a 23), .inl (cI, 30, .inl u.2.2.2.2.2.2.2.2.2.2.2.2.2.1)), ((a 24), .inl (cI, 30, .inl u.2.2.2.2.2.2.2.2.2.2.2.2.2.2.1)), ((a 25), .inl (cI, 5, .inl u.2.2.2.2.2.2.2.2.2.2.2.2.2.2.2.1)), ((a 26), .inl (cI, 5, .inl u.2.2.2.2.2.2.2.2.2.2.2.2.2.2.2.2)), ((a 6), .inl (cL, 3, .inr (.inr (.inr (.inr im))))), (h, .inr (2, [.int c_lines, .int c_days, .int c_law, .int c_odds, .int c_volts, .int c_spans, .int c_wetLines, .int c_wet, .int c_acts, .ref (v 0), .ref (v 1), .ref (v 2), .ref (v 3), .ref (v 4), .ref (v 5), .ref (v 6), .ref (v 7)])), ((v 0), .inl (cI, 5, .inl c_a_ohms)), ((v 1), .inl (cI, 5, .inl c_a_leaks)), ((v 2), .inl (cI, 5, .inl c_a_needs)), ((v 3), .inl (cI, 30, .inl c_a_kinds)), ((v 4), .inl (cI, 30, .inl c_a_places)), ((v 5), .inl (cI, 30, .inl c_a_actDays))]) (va_A [((a 0), .inr (8, [.ref (a 1), .ref (a 2), .ref (a 3), .ref (a 4), .ref (a 5), .ref (a 6), .ref (a 7), .ref (a 8), .ref (a 9), .ref (a 10), .ref (a 11), .ref (a 12), .ref (a 13), .ref (a 14), .int fk, .int fp])), ((a 4), .inr (2, [.int n_lines, .int n_days, .int n_law, .int n_odds, .int n_volts, .int n_spans, .int n_wetLines, .int n_wet, .int n_acts, .ref (a 19), .ref (a 20), .ref (a 21), .ref (a 22), .ref (a 23), .ref (a 24), .ref (a 25), .ref (a 26)])), ((a 19), .inl (cI, 5, .inl n_a_ohms)), ((a 20), .inl (cI, 5, .inl n_a_leaks)), ((a 21), .inl (cI, 5, .inl n_a_needs)), ((a 22), .inl (cI, 30, .inl n_a_kinds)), ((a 23), .inl (cI, 30, .inl n_a_places)), ((a 24), .inl (cI, 30, .inl n_a_actDays)), ((a 25), .inl (cI, 5, .inl n_a_cupDays)), ((a 26), .inl (cI, 5, .inl n_a_snapDays)), ((a 6), .inl (cL, 3, .inr (.inr (.inr (.inr im))))), (h, .inr (2, [.int c_lines, .int c_days, .int c_law, .int c_odds, .int c_volts, .int c_spans, .int c_wetLines, .int c_wet, .int c_acts, .ref (v 0), .ref (v 1), .ref (v 2), .ref (v 3), .ref (v 4), .ref (v 5), .ref (v 6), .ref (v 7)])), ((v 0), .inl (cI, 5, .inl c_a_ohms)), ((v 1), .inl (cI, 5, .inl c_a_leaks)), ((v 2), .inl (cI, 5, .inl c_a_needs)), ((v 3), .inl (cI, 30, .inl c_a_kinds)), ((v 4), .inl (cI, 30, .inl c_a_places)), ((v 5), .inl (cI, 30, .inl c_a_actDays))] sz)) 0 0 (va_A [((a 0), .inr (8, [.ref (a 1), .ref (a 2), .ref (a 3), .ref (a 4), .ref (a 5), .ref (a 6), .ref (a 7), .ref (a 8), .ref (a 9), .ref (a 10), .ref (a 11), .ref (a 12), .ref (a 13), .ref (a 14), .int fk, .int fp])), ((a 4), .inr (2, [.int n_lines, .int n_days, .int n_law, .int n_odds, .int n_volts, .int n_spans, .int n_wetLines, .int n_wet, .int n_acts, .ref (a 19), .ref (a 20), .ref (a 21), .ref (a 22), .ref (a 23), .ref (a 24), .ref (a 25), .ref (a 26)])), ((a 19), .inl (cI, 5, .inl n_a_ohms)), ((a 20), .inl (cI, 5, .inl n_a_leaks)), ((a 21), .inl (cI, 5, .inl n_a_needs)), ((a 22), .inl (cI, 30, .inl n_a_kinds)), ((a 23), .inl (cI, 30, .inl n_a_places)), ((a 24), .inl (cI, 30, .inl n_a_actDays)), ((a 25), .inl (cI, 5, .inl n_a_cupDays)), ((a 26), .inl (cI, 5, .inl n_a_snapDays)), ((a 6), .inl (cL, 3, .inr (.inr (.inr (.inr im))))), (h, .inr (2, [.int c_lines, .int c_days, .int c_law, .int c_odds, .int c_volts, .int c_spans, .int c_wetLines, .int c_wet, .int c_acts, .ref (v 0), .ref (v 1), .ref (v 2), .ref (v 3), .ref (v 4), .ref (v 5), .ref (v 6), .ref (v 7)])), ((v 0), .inl (cI, 5, .inl c_a_ohms)), ((v 1), .inl (cI, 5, .inl c_a_leaks)), ((v 2), .inl (cI, 5, .inl c_a_needs)), ((v 3), .inl (cI, 30, .inl c_a_kinds)), ((v 4), .inl (cI, 30, .inl c_a_places)), ((v 5), .inl (cI, 30, .inl c_a_actDays))] sz) := by
  refine Met.ofW (cc := cX8_back) (maxL := 3) (ret := (some .int)) (by decide) rfl ?_
  intro p e s m args below meth c s₁ B hml hv
  obtain ⟨rfl, hsz, hP, hK, hD0, hN⟩ := hv
  have hx := B.exec
  have hb := B.bytes
  have hr := B.returns
  have ht : ∀ w ∈ lw_ok, w.before _ s = true := fun w h => atoms_spec (ws := wy yX8_back cX8_back 3 (some .int)) B.pre w (List.mem_cons_of_mem _ h)
  have hown : s.vm.findClass RX8 = some m.cls := findClass_of_methodNamed B.named
  have hlocks := B.notSynchronized
  subst hsz
  have hD := hD0.self (sz := s.heap.size)
  generalize hAe : va_A [((a 0), .inr (8, [.ref (a 1), .ref (a 2), .ref (a 3), .ref (a 4), .ref (a 5), .ref (a 6), .ref (a 7), .ref (a 8), .ref (a 9), .ref (a 10), .ref (a 11), .ref (a 12), .ref (a 13), .ref (a 14), .int fk, .int fp])), ((a 4), .inr (2, [.int n_lines, .int n_days, .int n_law, .int n_odds, .int n_volts, .int n_spans, .int n_wetLines, .int n_wet, .int n_acts, .ref (a 19), .ref (a 20), .ref (a 21), .ref (a 22), .ref (a 23), .ref (a 24), .ref (a 25), .ref (a 26)])), ((a 19), .inl (cI, 5, .inl n_a_ohms)), ((a 20), .inl (cI, 5, .inl n_a_leaks)), ((a 21), .inl (cI, 5, .inl n_a_needs)), ((a 22), .inl (cI, 30, .inl n_a_kinds)), ((a 23), .inl (cI, 30, .inl n_a_places)), ((a 24), .inl (cI, 30, .inl n_a_actDays)), ((a 25), .inl (cI, 5, .inl n_a_cupDays)), ((a 26), .inl (cI, 5, .inl n_a_snapDays)), ((a 6), .inl (cL, 3, .inr (.inr (.inr (.inr im))))), (h, .inr (2, [.int c_lines, .int c_days, .int c_law, .int c_odds, .int c_volts, .int c_spans, .int c_wetLines, .int c_wet, .int c_acts, .ref (v 0), .ref (v 1), .ref (v 2), .ref (v 3), .ref (v 4), .ref (v 5), .ref (v 6), .ref (v 7)])), ((v 0), .inl (cI, 5, .inl c_a_ohms)), ((v 1), .inl (cI, 5, .inl c_a_leaks)), ((v 2), .inl (cI, 5, .inl c_a_needs)), ((v 3), .inl (cI, 30, .inl c_a_kinds)), ((v 4), .inl (cI, 30, .inl c_a_places)), ((v 5), .inl (cI, 30, .inl c_a_actDays))] s.heap.size = A at hD ⊢
  have hA : ∀ q : Nat, s.heap.size ≤ q → A q := fun q h => by rw [← hAe]; exact Or.inr h
  have hS : va_S A s.heap s.heap [] := va_S.rf
  clear hAe hD0
  have hl := lv_entry ([.ref (a 0), .int p0]) (n := 3) (Nat.le_of_ble_eq_true rfl)
  rw [lg_entry_eq]
  generalize (lg_sl ([.ref (a 0), .int p0]) ++ List.replicate (3 - (lg_sl ([.ref (a 0), .int p0])).length) Slot.unset).toArray = ls at hl ⊢
  have hl : lv_has ls 3 [(0, .ref (a 0)), (1, .int p0)] := hl
  have hP : va_P (dC, dI) vwCl [((a 0), .inr (8, [.ref (a 1), .ref (a 2), .ref (a 3), .ref (a 4), .ref (a 5), .ref (a 6), .ref (a 7), .ref (a 8), .ref (a 9), .ref (a 10), .ref (a 11), .ref (a 12), .ref (a 13), .ref (a 14), .int fk, .int fp])), ((a 4), .inr (2, [.int n_lines, .int n_days, .int n_law, .int n_odds, .int n_volts, .int n_spans, .int n_wetLines, .int n_wet, .int n_acts, .ref (a 19), .ref (a 20), .ref (a 21), .ref (a 22), .ref (a 23), .ref (a 24), .ref (a 25), .ref (a 26)])), ((a 19), .inl (cI, 5, .inl n_a_ohms)), ((a 20), .inl (cI, 5, .inl n_a_leaks)), ((a 21), .inl (cI, 5, .inl n_a_needs)), ((a 22), .inl (cI, 30, .inl n_a_kinds)), ((a 23), .inl (cI, 30, .inl n_a_places)), ((a 24), .inl (cI, 30, .inl n_a_actDays)), ((a 25), .inl (cI, 5, .inl n_a_cupDays)), ((a 26), .inl (cI, 5, .inl n_a_snapDays)), ((a 6), .inl (cL, 3, .inr (.inr (.inr (.inr im))))), (h, .inr (2, [.int c_lines, .int c_days, .int c_law, .int c_odds, .int c_volts, .int c_spans, .int c_wetLines, .int c_wet, .int c_acts, .ref (v 0), .ref (v 1), .ref (v 2), .ref (v 3), .ref (v 4), .ref (v 5), .ref (v 6), .ref (v 7)])), ((v 0), .inl (cI, 5, .inl c_a_ohms)), ((v 1), .inl (cI, 5, .inl c_a_leaks)), ((v 2), .inl (cI, 5, .inl c_a_needs)), ((v 3), .inl (cI, 30, .inl c_a_kinds)), ((v 4), .inl (cI, 30, .inl c_a_places)), ((v 5), .inl (cI, 30, .inl c_a_actDays))] s.heap := hP
  have hD : va_D A [((a 0), .inr (8, [.ref (a 1), .ref (a 2), .ref (a 3), .ref (a 4), .ref (a 5), .ref (a 6), .ref (a 7), .ref (a 8), .ref (a 9), .ref (a 10), .ref (a 11), .ref (a 12), .ref (a 13), .ref (a 14), .int fk, .int fp])), ((a 4), .inr (2, [.int n_lines, .int n_days, .int n_law, .int n_odds, .int n_volts, .int n_spans, .int n_wetLines, .int n_wet, .int n_acts, .ref (a 19), .ref (a 20), .ref (a 21), .ref (a 22), .ref (a 23), .ref (a 24), .ref (a 25), .ref (a 26)])), ((a 19), .inl (cI, 5, .inl n_a_ohms)), ((a 20), .inl (cI, 5, .inl n_a_leaks)), ((a 21), .inl (cI, 5, .inl n_a_needs)), ((a 22), .inl (cI, 30, .inl n_a_kinds)), ((a 23), .inl (cI, 30, .inl n_a_places)), ((a 24), .inl (cI, 30, .inl n_a_actDays)), ((a 25), .inl (cI, 5, .inl n_a_cupDays)), ((a 26), .inl (cI, 5, .inl n_a_snapDays)), ((a 6), .inl (cL, 3, .inr (.inr (.inr (.inr im))))), (h, .inr (2, [.int c_lines, .int c_days, .int c_law, .int c_odds, .int c_volts, .int c_spans, .int c_wetLines, .int c_wet, .int c_acts, .ref (v 0), .ref (v 1), .ref (v 2), .ref (v 3), .ref (v 4), .ref (v 5), .ref (v 6), .ref (v 7)])), ((v 0), .inl (cI, 5, .inl c_a_ohms)), ((v 1), .inl (cI, 5, .inl c_a_leaks)), ((v 2), .inl (cI, 5, .inl c_a_needs)), ((v 3), .inl (cI, 30, .inl c_a_kinds)), ((v 4), .inl (cI, 30, .inl c_a_places)), ((v 5), .inl (cI, 30, .inl c_a_actDays))] := hD
  have rg_p0 := rgI p0
  refine lv_iload_n hx hb dX8_back_0 rfl (lv_at hl 1 rfl) ?_
  refine lv_if_lt (tgt := 13) hx hb dX8_back_1 (by decide) (fun c9 => absurd c9 (by rw [i_lt, T0]; omega)) (fun _ => ?_)
  refine lv_iload_n hx hb dX8_back_4 rfl (lv_at hl 1 rfl) ?_
  refine lv_aload_n hx hb dX8_back_5 rfl (lv_at hl 0 rfl) ?_
  refine va_get (D := (dC, dI)) (ci := 8) (v := .ref (a 6)) (C := RX8) (T := TX8) (N := 16) hx hb ht iX8 hown hK hP 0 rfl rfl 5 (by decide) (ht _ w_380) (fun _ h9 => h9) rfl dX8_back_6 ?_
  refine va_alen (v := 3) hx hb hK hP 10 4 rfl rfl (by first | decide | (show Int32.ofNat 3 = 3; decide)) dX8_back_9 ?_
  refine lv_icmp_lt (tgt := 16) hx hb dX8_back_10 (by decide) (fun _ => ?_) (fun c9 => absurd (by rw [i_lt, T3]; omega) c9)
  refine lv_aload_n hx hb dX8_back_16 rfl (lv_at hl 0 rfl) ?_
  refine va_get (D := (dC, dI)) (ci := 8) (v := .ref (a 6)) (C := RX8) (T := TX8) (N := 16) hx hb ht iX8 hown hK hP 0 rfl rfl 5 (by decide) (ht _ w_380) (fun _ h9 => h9) rfl dX8_back_17 ?_
  refine lv_iload_n hx hb dX8_back_20 rfl (lv_at hl 1 rfl) ?_
  refine va_aldq hx hb hK hP 10 4 rfl rfl (vp_in_iff.mpr (by omega)) dX8_back_21 ?_
  rw [him]
  refine W.eq (g2 := F0 m 22 ls (.ref h :: [])) rfl ?_
  refine lv_astore_n (lv' := [(2, .ref h), (0, .ref (a 0)), (1, .int p0)]) hx hb dX8_back_22 rfl hl (by decide) rfl (fun ls hl => ?_)
  refine lv_aload_n hx hb dX8_back_23 rfl (lv_at hl 0 rfl) ?_
  refine lv_ifnonnull (tgt := 30) hx hb dX8_back_24 (by decide) ?_
  refine lv_aload_n hx hb dX8_back_30 rfl (lv_at hl 1 rfl) ?_
  refine va_get (D := (dC, dI)) (ci := 8) (v := .ref (a 4)) (C := RX8) (T := TX8) (N := 16) hx hb ht iX8 hown hK hP 0 rfl rfl 3 (by decide) (ht _ w_378) (fun _ h9 => h9) rfl dX8_back_31 ?_
  refine lv_aload_n hx hb dX8_back_34 rfl (lv_at hl 0 rfl) ?_
  have hPc := hP.sub (ws' := [((a 4), .inr (2, [.int n_lines, .int n_days, .int n_law, .int n_odds, .int n_volts, .int n_spans, .int n_wetLines, .int n_wet, .int n_acts, .ref (a 19), .ref (a 20), .ref (a 21), .ref (a 22), .ref (a 23), .ref (a 24), .ref (a 25), .ref (a 26)])), ((a 19), .inl (cI, 5, .inl n_a_ohms)), ((a 20), .inl (cI, 5, .inl n_a_leaks)), ((a 21), .inl (cI, 5, .inl n_a_needs)), ((a 22), .inl (cI, 30, .inl n_a_kinds)), ((a 23), .inl (cI, 30, .inl n_a_places)), ((a 24), .inl (cI, 30, .inl n_a_actDays)), ((a 25), .inl (cI, 5, .inl n_a_cupDays)), ((a 26), .inl (cI, 5, .inl n_a_snapDays)), (h, .inr (2, [.int c_lines, .int c_days, .int c_law, .int c_odds, .int c_volts, .int c_spans, .int c_wetLines, .int c_wet, .int c_acts, .ref (v 0), .ref (v 1), .ref (v 2), .ref (v 3), .ref (v 4), .ref (v 5), .ref (v 6), .ref (v 7)])), ((v 0), .inl (cI, 5, .inl c_a_ohms)), ((v 1), .inl (cI, 5, .inl c_a_leaks)), ((v 2), .inl (cI, 5, .inl c_a_needs)), ((v 3), .inl (cI, 30, .inl c_a_kinds)), ((v 4), .inl (cI, 30, .inl c_a_places)), ((v 5), .inl (cI, 30, .inl c_a_actDays))]) [1, 2, 3, 4, 5, 6, 7, 8, 9, 11, 12, 13, 14, 15, 16, 17] rfl
  have hDc := hD.sub (ws' := [((a 4), .inr (2, [.int n_lines, .int n_days, .int n_law, .int n_odds, .int n_volts, .int n_spans, .int n_wetLines, .int n_wet, .int n_acts, .ref (a 19), .ref (a 20), .ref (a 21), .ref (a 22), .ref (a 23), .ref (a 24), .ref (a 25), .ref (a 26)])), ((a 19), .inl (cI, 5, .inl n_a_ohms)), ((a 20), .inl (cI, 5, .inl n_a_leaks)), ((a 21), .inl (cI, 5, .inl n_a_needs)), ((a 22), .inl (cI, 30, .inl n_a_kinds)), ((a 23), .inl (cI, 30, .inl n_a_places)), ((a 24), .inl (cI, 30, .inl n_a_actDays)), ((a 25), .inl (cI, 5, .inl n_a_cupDays)), ((a 26), .inl (cI, 5, .inl n_a_snapDays)), (h, .inr (2, [.int c_lines, .int c_days, .int c_law, .int c_odds, .int c_volts, .int c_spans, .int c_wetLines, .int c_wet, .int c_acts, .ref (v 0), .ref (v 1), .ref (v 2), .ref (v 3), .ref (v 4), .ref (v 5), .ref (v 6), .ref (v 7)])), ((v 0), .inl (cI, 5, .inl c_a_ohms)), ((v 1), .inl (cI, 5, .inl c_a_leaks)), ((v 2), .inl (cI, 5, .inl c_a_needs)), ((v 3), .inl (cI, 30, .inl c_a_kinds)), ((v 4), .inl (cI, 30, .inl c_a_places)), ((v 5), .inl (cI, 30, .inl c_a_actDays))]) [1, 2, 3, 4, 5, 6, 7, 8, 9, 11, 12, 13, 14, 15, 16, 17] (by decide) rfl
  have hFc := va_free (wc := [((a 4), .inr (2, [.int n_lines, .int n_days, .int n_law, .int n_odds, .int n_volts, .int n_spans, .int n_wetLines, .int n_wet, .int n_acts, .ref (a 19), .ref (a 20), .ref (a 21), .ref (a 22), .ref (a 23), .ref (a 24), .ref (a 25), .ref (a 26)])), ((a 19), .inl (cI, 5, .inl n_a_ohms)), ((a 20), .inl (cI, 5, .inl n_a_leaks)), ((a 21), .inl (cI, 5, .inl n_a_needs)), ((a 22), .inl (cI, 30, .inl n_a_kinds)), ((a 23), .inl (cI, 30, .inl n_a_places)), ((a 24), .inl (cI, 30, .inl n_a_actDays)), ((a 25), .inl (cI, 5, .inl n_a_cupDays)), ((a 26), .inl (cI, 5, .inl n_a_snapDays)), (h, .inr (2, [.int c_lines, .int c_days, .int c_law, .int c_odds, .int c_volts, .int c_spans, .int c_wetLines, .int c_wet, .int c_acts, .ref (v 0), .ref (v 1), .ref (v 2), .ref (v 3), .ref (v 4), .ref (v 5), .ref (v 6), .ref (v 7)])), ((v 0), .inl (cI, 5, .inl c_a_ohms)), ((v 1), .inl (cI, 5, .inl c_a_leaks)), ((v 2), .inl (cI, 5, .inl c_a_needs)), ((v 3), .inl (cI, 30, .inl c_a_kinds)), ((v 4), .inl (cI, 30, .inl c_a_places)), ((v 5), .inl (cI, 30, .inl c_a_actDays))]) hD hS hA [1, 2, 3, 4, 5, 6, 7, 8, 9, 11, 12, 13, 14, 15, 16, 17] rfl
  refine va_callv (va_runV (As := [.ref h]) (rest := []) ⟨hx, hb, hml, hown, ht⟩ (s_X2_take l dC dI cB cI cJ cZ cL s.heap.size (a 4) (fun j => a (19 + j)) h v n_lines n_days n_law n_odds n_volts n_spans n_wetLines n_wet n_acts n_a_ohms n_a_leaks n_a_needs n_a_kinds n_a_places n_a_actDays n_a_cupDays n_a_snapDays c_lines c_days c_law c_odds c_volts c_spans c_wetLines c_wet c_acts c_a_ohms c_a_leaks c_a_needs c_a_kinds c_a_places c_a_actDays (by first | assumption | omega | decide | (simp only [T0, T1, T2, T3, Tm1]; omega)) (by first | assumption | omega | decide | (simp only [T0, T1, T2, T3, Tm1]; omega)) (by first | assumption | omega | decide | (simp only [T0, T1, T2, T3, Tm1]; omega))) (cwV 1 ht (gV w_594 w_595 w_596 w_109 w_597) rfl rfl rfl (by decide +kernel) ⟨Nat.le_of_ble_eq_true rfl, Nat.le_of_ble_eq_true rfl⟩) (pVQn hN hK hPc hDc (ci := 2) (q0 := 0) rfl rfl) rfl rfl hl.1 rfl (lv_room (Nat.le_of_ble_eq_true rfl)) dX8_back_35 ⟨Nat.le_of_ble_eq_true rfl, Nat.le_of_ble_eq_true rfl⟩) hS (fun q _ h => hFc q h) hFc (fun u_2 t1 H1 locs ht1 hvm hw hB hz1 hk1 hS => ?_)
  obtain ⟨z_3, z_4, z_5, z_6, z_7, z_8, z_9, z_10, z_11, z_12, z_13, z_14, z_15, z_16, z_17, z_18, z_19⟩ := u_2
  obtain ⟨hP1, hD1⟩ := hB
  rw [ht1] at hP1
  obtain ⟨hP, hD⟩ := va_join (wr := [((a 0), .inr (8, [.ref (a 1), .ref (a 2), .ref (a 3), .ref (a 4), .ref (a 5), .ref (a 6), .ref (a 7), .ref (a 8), .ref (a 9), .ref (a 10), .ref (a 11), .ref (a 12), .ref (a 13), .ref (a 14), .int fk, .int fp])), ((a 6), .inl (cL, 3, .inr (.inr (.inr (.inr im)))))]) (w1 := [((a 4), .inr (2, [.int z_3, .int z_4, .int z_5, .int z_6, .int z_7, .int z_8, .int z_9, .int z_10, .int z_11, .ref (a 19), .ref (a 20), .ref (a 21), .ref (a 22), .ref (a 23), .ref (a 24), .ref (a 25), .ref (a 26)])), ((a 19), .inl (cI, 5, .inl z_12)), ((a 20), .inl (cI, 5, .inl z_13)), ((a 21), .inl (cI, 5, .inl z_14)), ((a 22), .inl (cI, 30, .inl z_15)), ((a 23), .inl (cI, 30, .inl z_16)), ((a 24), .inl (cI, 30, .inl z_17)), ((a 25), .inl (cI, 5, .inl z_18)), ((a 26), .inl (cI, 5, .inl z_19)), (h, .inr (2, [.int c_lines, .int c_days, .int c_law, .int c_odds, .int c_volts, .int c_spans, .int c_wetLines, .int c_wet, .int c_acts, .ref (v 0), .ref (v 1), .ref (v 2), .ref (v 3), .ref (v 4), .ref (v 5), .ref (v 6), .ref (v 7)])), ((v 0), .inl (cI, 5, .inl c_a_ohms)), ((v 1), .inl (cI, 5, .inl c_a_leaks)), ((v 2), .inl (cI, 5, .inl c_a_needs)), ((v 3), .inl (cI, 30, .inl c_a_kinds)), ((v 4), .inl (cI, 30, .inl c_a_places)), ((v 5), .inl (cI, 30, .inl c_a_actDays))]) hP hD [1, 2, 3, 4, 5, 6, 7, 8, 9, 11, 12, 13, 14, 15, 16, 17] [0, 10] rfl rfl (by decide) (by decide) hk1 hFc hP1 hD1
  clear hFc hDc hPc hP1 hD1 hz1 hk1 hvm
  generalize H1 = H at hP hS ⊢
  have hP : va_P (dC, dI) vwCl [((a 0), .inr (8, [.ref (a 1), .ref (a 2), .ref (a 3), .ref (a 4), .ref (a 5), .ref (a 6), .ref (a 7), .ref (a 8), .ref (a 9), .ref (a 10), .ref (a 11), .ref (a 12), .ref (a 13), .ref (a 14), .int fk, .int fp])), ((a 6), .inl (cL, 3, .inr (.inr (.inr (.inr im))))), ((a 4), .inr (2, [.int z_3, .int z_4, .int z_5, .int z_6, .int z_7, .int z_8, .int z_9, .int z_10, .int z_11, .ref (a 19), .ref (a 20), .ref (a 21), .ref (a 22), .ref (a 23), .ref (a 24), .ref (a 25), .ref (a 26)])), ((a 19), .inl (cI, 5, .inl z_12)), ((a 20), .inl (cI, 5, .inl z_13)), ((a 21), .inl (cI, 5, .inl z_14)), ((a 22), .inl (cI, 30, .inl z_15)), ((a 23), .inl (cI, 30, .inl z_16)), ((a 24), .inl (cI, 30, .inl z_17)), ((a 25), .inl (cI, 5, .inl z_18)), ((a 26), .inl (cI, 5, .inl z_19)), (h, .inr (2, [.int c_lines, .int c_days, .int c_law, .int c_odds, .int c_volts, .int c_spans, .int c_wetLines, .int c_wet, .int c_acts, .ref (v 0), .ref (v 1), .ref (v 2), .ref (v 3), .ref (v 4), .ref (v 5), .ref (v 6), .ref (v 7)])), ((v 0), .inl (cI, 5, .inl c_a_ohms)), ((v 1), .inl (cI, 5, .inl c_a_leaks)), ((v 2), .inl (cI, 5, .inl c_a_needs)), ((v 3), .inl (cI, 30, .inl c_a_kinds)), ((v 4), .inl (cI, 30, .inl c_a_places)), ((v 5), .inl (cI, 30, .inl c_a_actDays))] H := hP
  have hD : va_D A [((a 0), .inr (8, [.ref (a 1), .ref (a 2), .ref (a 3), .ref (a 4), .ref (a 5), .ref (a 6), .ref (a 7), .ref (a 8), .ref (a 9), .ref (a 10), .ref (a 11), .ref (a 12), .ref (a 13), .ref (a 14), .int fk, .int fp])), ((a 6), .inl (cL, 3, .inr (.inr (.inr (.inr im))))), ((a 4), .inr (2, [.int z_3, .int z_4, .int z_5, .int z_6, .int z_7, .int z_8, .int z_9, .int z_10, .int z_11, .ref (a 19), .ref (a 20), .ref (a 21), .ref (a 22), .ref (a 23), .ref (a 24), .ref (a 25), .ref (a 26)])), ((a 19), .inl (cI, 5, .inl z_12)), ((a 20), .inl (cI, 5, .inl z_13)), ((a 21), .inl (cI, 5, .inl z_14)), ((a 22), .inl (cI, 30, .inl z_15)), ((a 23), .inl (cI, 30, .inl z_16)), ((a 24), .inl (cI, 30, .inl z_17)), ((a 25), .inl (cI, 5, .inl z_18)), ((a 26), .inl (cI, 5, .inl z_19)), (h, .inr (2, [.int c_lines, .int c_days, .int c_law, .int c_odds, .int c_volts, .int c_spans, .int c_wetLines, .int c_wet, .int c_acts, .ref (v 0), .ref (v 1), .ref (v 2), .ref (v 3), .ref (v 4), .ref (v 5), .ref (v 6), .ref (v 7)])), ((v 0), .inl (cI, 5, .inl c_a_ohms)), ((v 1), .inl (cI, 5, .inl c_a_leaks)), ((v 2), .inl (cI, 5, .inl c_a_needs)), ((v 3), .inl (cI, 30, .inl c_a_kinds)), ((v 4), .inl (cI, 30, .inl c_a_places)), ((v 5), .inl (cI, 30, .inl c_a_actDays))] := hD
  (try dsimp only at hw)
  have hw_20 := hw
  clear hw
  refine lv_iconst (v := 0) hx hb dX8_back_38 (by decide) ?_
  have hP9 := hP.sub (ws' := [((a 0), .inr (8, [.ref (a 1), .ref (a 2), .ref (a 3), .ref (a 4), .ref (a 5), .ref (a 6), .ref (a 7), .ref (a 8), .ref (a 9), .ref (a 10), .ref (a 11), .ref (a 12), .ref (a 13), .ref (a 14), .int fk, .int fp])), ((a 4), .inr (2, [.int z_3, .int z_4, .int z_5, .int z_6, .int z_7, .int z_8, .int z_9, .int z_10, .int z_11, .ref (a 19), .ref (a 20), .ref (a 21), .ref (a 22), .ref (a 23), .ref (a 24), .ref (a 25), .ref (a 26)])), ((a 19), .inl (cI, 5, .inl z_12)), ((a 20), .inl (cI, 5, .inl z_13)), ((a 21), .inl (cI, 5, .inl z_14)), ((a 22), .inl (cI, 30, .inl z_15)), ((a 23), .inl (cI, 30, .inl z_16)), ((a 24), .inl (cI, 30, .inl z_17)), ((a 25), .inl (cI, 5, .inl z_18)), ((a 26), .inl (cI, 5, .inl z_19)), ((a 6), .inl (cL, 3, .inr (.inr (.inr (.inr im))))), (h, .inr (2, [.int c_lines, .int c_days, .int c_law, .int c_odds, .int c_volts, .int c_spans, .int c_wetLines, .int c_wet, .int c_acts, .ref (v 0), .ref (v 1), .ref (v 2), .ref (v 3), .ref (v 4), .ref (v 5), .ref (v 6), .ref (v 7)])), ((v 0), .inl (cI, 5, .inl c_a_ohms)), ((v 1), .inl (cI, 5, .inl c_a_leaks)), ((v 2), .inl (cI, 5, .inl c_a_needs)), ((v 3), .inl (cI, 30, .inl c_a_kinds)), ((v 4), .inl (cI, 30, .inl c_a_places)), ((v 5), .inl (cI, 30, .inl c_a_actDays))]) [0, 2, 3, 4, 5, 6, 7, 8, 9, 10, 1, 11, 12, 13, 14, 15, 16, 17] rfl
  have hD9 := hD.sub (ws' := [((a 0), .inr (8, [.ref (a 1), .ref (a 2), .ref (a 3), .ref (a 4), .ref (a 5), .ref (a 6), .ref (a 7), .ref (a 8), .ref (a 9), .ref (a 10), .ref (a 11), .ref (a 12), .ref (a 13), .ref (a 14), .int fk, .int fp])), ((a 4), .inr (2, [.int z_3, .int z_4, .int z_5, .int z_6, .int z_7, .int z_8, .int z_9, .int z_10, .int z_11, .ref (a 19), .ref (a 20), .ref (a 21), .ref (a 22), .ref (a 23), .ref (a 24), .ref (a 25), .ref (a 26)])), ((a 19), .inl (cI, 5, .inl z_12)), ((a 20), .inl (cI, 5, .inl z_13)), ((a 21), .inl (cI, 5, .inl z_14)), ((a 22), .inl (cI, 30, .inl z_15)), ((a 23), .inl (cI, 30, .inl z_16)), ((a 24), .inl (cI, 30, .inl z_17)), ((a 25), .inl (cI, 5, .inl z_18)), ((a 26), .inl (cI, 5, .inl z_19)), ((a 6), .inl (cL, 3, .inr (.inr (.inr (.inr im))))), (h, .inr (2, [.int c_lines, .int c_days, .int c_law, .int c_odds, .int c_volts, .int c_spans, .int c_wetLines, .int c_wet, .int c_acts, .ref (v 0), .ref (v 1), .ref (v 2), .ref (v 3), .ref (v 4), .ref (v 5), .ref (v 6), .ref (v 7)])), ((v 0), .inl (cI, 5, .inl c_a_ohms)), ((v 1), .inl (cI, 5, .inl c_a_leaks)), ((v 2), .inl (cI, 5, .inl c_a_needs)), ((v 3), .inl (cI, 30, .inl c_a_kinds)), ((v 4), .inl (cI, 30, .inl c_a_places)), ((v 5), .inl (cI, 30, .inl c_a_actDays))]) [0, 2, 3, 4, 5, 6, 7, 8, 9, 10, 1, 11, 12, 13, 14, 15, 16, 17] (by decide) rfl
  exact W.iret (v := 0) hx hb hr (fun t ht hW => ⟨⟨0, (z_3, z_4, z_5, z_6, z_7, z_8, z_9, z_10, z_11, z_12, z_13, z_14, z_15, z_16, z_17, z_18, z_19), rfl, ⟨rfl, (by first | omega | assumption | (dsimp only; done) | (dsimp only; omega) | (dsimp only; assumption) | (have e0 := T0; dsimp only; omega) | (have e0 := T0; omega)), (by first | omega | assumption | (dsimp only; done) | (dsimp only; omega) | (dsimp only; assumption) | (have e0 := T0; dsimp only; omega) | (have e0 := T0; omega)), (by first | omega | assumption | (dsimp only; done) | (dsimp only; omega) | (dsimp only; assumption) | (have e0 := T0; dsimp only; omega) | (have e0 := T0; omega)), (by first | assumption | exact hw_20.2.2.2.2 | (dsimp only; exact hw_20.2.2.2.2))⟩, ⟨by rw [ht]; exact hP9, hD9⟩⟩, hS.F ht⟩) hS.2.2 dX8_back_39
