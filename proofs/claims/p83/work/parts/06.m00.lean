set_option maxHeartbeats 8000000 in
set_option maxRecDepth 100000 in
theorem s_X9_in (l : Launch) (dC : Nat → ClassId) (dI : Nat → Nat → Nat) (cB cI cJ cZ cL : ClassId)   (p0 : Int64) (p1 : Int64) (p2 : Int64)  : Met l yX9_in (wy yX9_in cX9_in 6 (some .boolean)) ({ frames := 0, cells := 0, slots := 0, locals := 0 }) (va_Pc [.long p0, .long p1, .long p2] (fun U => va_P (dC, dI) vwCl [] U.heap ∧ va_K (dC, dI) vwCl (tyL cB cI cJ cZ cL) U ∧ NW U)) (vp_Si (fun r => (r = 1 ∧ (Int64.toInt p1 ≤ Int64.toInt p0 ∧ Int64.toInt p0 ≤ Int64.toInt p2)) ∨ (r = 0 ∧ ¬ (Int64.toInt p1 ≤ Int64.toInt p0 ∧ Int64.toInt p0 ≤ Int64.toInt p2)))) 0 0 (fun _ => False) := by
  refine Met.ofW (cc := cX9_in) (maxL := 6) (ret := (some .boolean)) (by decide) rfl ?_
  intro p e s m args below meth c s₁ B hml hv
  obtain ⟨rfl, hP, hK, hN⟩ := hv
  have hx := B.exec
  have hb := B.bytes
  have hr := B.returns
  have ht : ∀ w ∈ lw_ok, w.before _ s = true := fun w h => atoms_spec (ws := wy yX9_in cX9_in 6 (some .boolean)) B.pre w (List.mem_cons_of_mem _ h)
  have hown : s.vm.findClass RX9 = some m.cls := findClass_of_methodNamed B.named
  have hlocks := B.notSynchronized
  have hl := lv_entry ([.long p0, .long p1, .long p2]) (n := 6) (Nat.le_of_ble_eq_true rfl)
  rw [lg_entry_eq]
  generalize (lg_sl ([.long p0, .long p1, .long p2]) ++ List.replicate (6 - (lg_sl ([.long p0, .long p1, .long p2])).length) Slot.unset).toArray = ls at hl ⊢
  have hl : lv_has ls 6 [(0, .long p0), (2, .long p1), (4, .long p2)] := hl
  have hP : va_P (dC, dI) vwCl [] s.heap := hP
  refine lv_lload_n hx hb dX9_in_0 rfl (lv_at hl 0 rfl) ?_
  refine lv_lload_n hx hb dX9_in_1 rfl (lv_at hl 1 rfl) ?_
  refine W.lcmp hx hb dX9_in_2 ?_
  refine lv_if_lt (tgt := 17) hx hb dX9_in_3 (by decide) (fun c_1 => ?_) (fun c_1 => ?_)
  · simp only [lg_cmp_lt, lg_cmp_le, lg_cmp_gt, lg_cmp_ge, lg_cmp_eq] at c_1
    (try simp only [l_lt, l_le, l_eq] at c_1)
    refine lv_iconst (v := 0) hx hb dX9_in_17 (by decide) ?_
    exact W.zret (v := 0) hx hb hr (rfl) (fun t ht hW => ⟨0, rfl, (by first | exact Or.inl ⟨rfl, by omega⟩ | exact Or.inr ⟨rfl, by omega⟩), ht⟩) (fun q h => absurd h List.not_mem_nil) dX9_in_18
  · simp only [lg_cmp_lt, lg_cmp_le, lg_cmp_gt, lg_cmp_ge, lg_cmp_eq] at c_1
    (try simp only [l_lt, l_le, l_eq] at c_1)
    refine lv_lload_n hx hb dX9_in_6 rfl (lv_at hl 0 rfl) ?_
    refine lv_lload hx hb dX9_in_7 (lv_at hl 2 rfl) ?_
    refine W.lcmp hx hb dX9_in_9 ?_
    refine lv_if_gt (tgt := 17) hx hb dX9_in_10 (by decide) (fun c_2 => ?_) (fun c_2 => ?_)
    · simp only [lg_cmp_lt, lg_cmp_le, lg_cmp_gt, lg_cmp_ge, lg_cmp_eq] at c_2
      (try simp only [l_lt, l_le, l_eq] at c_2)
      refine lv_iconst (v := 0) hx hb dX9_in_17 (by decide) ?_
      exact W.zret (v := 0) hx hb hr (rfl) (fun t ht hW => ⟨0, rfl, (by first | exact Or.inl ⟨rfl, by omega⟩ | exact Or.inr ⟨rfl, by omega⟩), ht⟩) (fun q h => absurd h List.not_mem_nil) dX9_in_18
    · simp only [lg_cmp_lt, lg_cmp_le, lg_cmp_gt, lg_cmp_ge, lg_cmp_eq] at c_2
      (try simp only [l_lt, l_le, l_eq] at c_2)
      refine lv_iconst (v := 1) hx hb dX9_in_13 (by decide) ?_
      refine lv_goto (tgt := 18) hx hb dX9_in_14 (by decide) ?_
      exact W.zret (v := 1) hx hb hr (rfl) (fun t ht hW => ⟨1, rfl, (by first | exact Or.inl ⟨rfl, by omega⟩ | exact Or.inr ⟨rfl, by omega⟩), ht⟩) (fun q h => absurd h List.not_mem_nil) dX9_in_18
set_option maxHeartbeats 8000000 in
set_option maxRecDepth 100000 in
theorem s_X9_isSlot (l : Launch) (dC : Nat → ClassId) (dI : Nat → Nat → Nat) (cB cI cJ cZ cL : ClassId)   (p0 : Int32)  : Met l yX9_isSlot (wy yX9_isSlot cX9_isSlot 1 (some .boolean)) ({ frames := 1, cells := 0, slots := 0, locals := 40 }) (va_Pc [.int p0] (fun U => va_P (dC, dI) vwCl [] U.heap ∧ va_K (dC, dI) vwCl (tyL cB cI cJ cZ cL) U ∧ NW U)) (vp_Si (fun r => (r = 1 ∧ (0 ≤ Int32.toInt p0 ∧ Int32.toInt p0 ≤ 3)) ∨ (r = 0 ∧ ¬ (0 ≤ Int32.toInt p0 ∧ Int32.toInt p0 ≤ 3)))) 0 0 (fun _ => False) := by
  refine Met.ofW (cc := cX9_isSlot) (maxL := 1) (ret := (some .boolean)) (by decide) rfl ?_
  intro p e s m args below meth c s₁ B hml hv
  obtain ⟨rfl, hP, hK, hN⟩ := hv
  have hx := B.exec
  have hb := B.bytes
  have hr := B.returns
  have ht : ∀ w ∈ lw_ok, w.before _ s = true := fun w h => atoms_spec (ws := wy yX9_isSlot cX9_isSlot 1 (some .boolean)) B.pre w (List.mem_cons_of_mem _ h)
  have hown : s.vm.findClass RX9 = some m.cls := findClass_of_methodNamed B.named
  have hlocks := B.notSynchronized
  have hl := lv_entry ([.int p0]) (n := 1) (Nat.le_of_ble_eq_true rfl)
  rw [lg_entry_eq]
  generalize (lg_sl ([.int p0]) ++ List.replicate (1 - (lg_sl ([.int p0])).length) Slot.unset).toArray = ls at hl ⊢
  have hl : lv_has ls 1 [(0, .int p0)] := hl
  have hP : va_P (dC, dI) vwCl [] s.heap := hP
  have rg_p0 := rgI p0
  refine lv_iload_n hx hb dX9_isSlot_0 rfl (lv_at hl 0 rfl) ?_
  refine lv_i2l hx hb dX9_isSlot_1 rfl ?_
  refine lv_topl (fun y_1 ey_1 => ?_)
  have ty_1 := i2lF ey_1
  clear ey_1
  refine lv_lconst (v := 0) hx hb dX9_isSlot_2 (by decide) ?_
  refine lv_ldc2 hx hb hown (ht _ w_1385) dX9_isSlot_3 ?_
  have hPc := hP.sub (ws' := []) [] rfl
  refine vp_callSi (W.runS (As := [.long y_1, .long 0, .long 3]) (rest := []) ⟨hx, hb, hml, hown, ht⟩ (s_X9_in l dC dI cB cI cJ cZ cL y_1 0 3) (va_cwS 3 ht (gQ w_1386 w_1387 w_114 w_1388) rfl rfl rfl (by decide +kernel) ⟨Nat.le_of_ble_eq_true rfl, Nat.le_of_ble_eq_true rfl⟩) (pSSn hN hK hPc) rfl rfl hl.1 rfl (lv_room (Nat.le_of_ble_eq_true rfl)) dX9_isSlot_6 ⟨Nat.le_of_ble_eq_true rfl, Nat.le_of_ble_eq_true rfl⟩) (fun r_2 hw => ?_)
  clear hPc
  (try dsimp only at hw)
  have hw_3 := hw
  clear hw
  (try simp only [L0, L3] at hw_3)
  rcases hw_3 with ⟨hw, c_4⟩ | ⟨hw, c_4⟩
  · subst hw
    exact W.zret (v := 1) hx hb hr (rfl) (fun t ht hW => ⟨1, rfl, (by first | exact Or.inl ⟨rfl, by omega⟩ | exact Or.inr ⟨rfl, by omega⟩), ht⟩) (fun q h => absurd h List.not_mem_nil) dX9_isSlot_9
  · subst hw
    exact W.zret (v := 0) hx hb hr (rfl) (fun t ht hW => ⟨0, rfl, (by first | exact Or.inl ⟨rfl, by omega⟩ | exact Or.inr ⟨rfl, by omega⟩), ht⟩) (fun q h => absurd h List.not_mem_nil) dX9_isSlot_9
set_option maxHeartbeats 8000000 in
set_option maxRecDepth 100000 in
theorem s_X9_isHalf (l : Launch) (dC : Nat → ClassId) (dI : Nat → Nat → Nat) (cB cI cJ cZ cL : ClassId)   (p0 : Int32)  : Met l yX9_isHalf (wy yX9_isHalf cX9_isHalf 1 (some .boolean)) ({ frames := 1, cells := 0, slots := 0, locals := 40 }) (va_Pc [.int p0] (fun U => va_P (dC, dI) vwCl [] U.heap ∧ va_K (dC, dI) vwCl (tyL cB cI cJ cZ cL) U ∧ NW U)) (vp_Si (fun r => (r = 1 ∧ (0 ≤ Int32.toInt p0 ∧ Int32.toInt p0 ≤ 1)) ∨ (r = 0 ∧ ¬ (0 ≤ Int32.toInt p0 ∧ Int32.toInt p0 ≤ 1)))) 0 0 (fun _ => False) := by
  refine Met.ofW (cc := cX9_isHalf) (maxL := 1) (ret := (some .boolean)) (by decide) rfl ?_
  intro p e s m args below meth c s₁ B hml hv
  obtain ⟨rfl, hP, hK, hN⟩ := hv
  have hx := B.exec
  have hb := B.bytes
  have hr := B.returns
  have ht : ∀ w ∈ lw_ok, w.before _ s = true := fun w h => atoms_spec (ws := wy yX9_isHalf cX9_isHalf 1 (some .boolean)) B.pre w (List.mem_cons_of_mem _ h)
  have hown : s.vm.findClass RX9 = some m.cls := findClass_of_methodNamed B.named
  have hlocks := B.notSynchronized
  have hl := lv_entry ([.int p0]) (n := 1) (Nat.le_of_ble_eq_true rfl)
  rw [lg_entry_eq]
  generalize (lg_sl ([.int p0]) ++ List.replicate (1 - (lg_sl ([.int p0])).length) Slot.unset).toArray = ls at hl ⊢
  have hl : lv_has ls 1 [(0, .int p0)] := hl
  have hP : va_P (dC, dI) vwCl [] s.heap := hP
  have rg_p0 := rgI p0
  refine lv_iload_n hx hb dX9_isHalf_0 rfl (lv_at hl 0 rfl) ?_
  refine lv_i2l hx hb dX9_isHalf_1 rfl ?_
  refine lv_topl (fun y_1 ey_1 => ?_)
  have ty_1 := i2lF ey_1
  clear ey_1
  refine lv_lconst (v := 0) hx hb dX9_isHalf_2 (by decide) ?_
  refine lv_lconst (v := 1) hx hb dX9_isHalf_3 (by decide) ?_
  have hPc := hP.sub (ws' := []) [] rfl
  refine vp_callSi (W.runS (As := [.long y_1, .long 0, .long 1]) (rest := []) ⟨hx, hb, hml, hown, ht⟩ (s_X9_in l dC dI cB cI cJ cZ cL y_1 0 1) (va_cwS 3 ht (gQ w_1386 w_1387 w_114 w_1388) rfl rfl rfl (by decide +kernel) ⟨Nat.le_of_ble_eq_true rfl, Nat.le_of_ble_eq_true rfl⟩) (pSSn hN hK hPc) rfl rfl hl.1 rfl (lv_room (Nat.le_of_ble_eq_true rfl)) dX9_isHalf_4 ⟨Nat.le_of_ble_eq_true rfl, Nat.le_of_ble_eq_true rfl⟩) (fun r_2 hw => ?_)
  clear hPc
  (try dsimp only at hw)
  have hw_3 := hw
  clear hw
  (try simp only [L0, L1] at hw_3)
  rcases hw_3 with ⟨hw, c_4⟩ | ⟨hw, c_4⟩
  · subst hw
    exact W.zret (v := 1) hx hb hr (rfl) (fun t ht hW => ⟨1, rfl, (by first | exact Or.inl ⟨rfl, by omega⟩ | exact Or.inr ⟨rfl, by omega⟩), ht⟩) (fun q h => absurd h List.not_mem_nil) dX9_isHalf_7
  · subst hw
    exact W.zret (v := 0) hx hb hr (rfl) (fun t ht hW => ⟨0, rfl, (by first | exact Or.inl ⟨rfl, by omega⟩ | exact Or.inr ⟨rfl, by omega⟩), ht⟩) (fun q h => absurd h List.not_mem_nil) dX9_isHalf_7
set_option maxHeartbeats 8000000 in
set_option maxRecDepth 100000 in
theorem s_X9_isSeed (l : Launch) (dC : Nat → ClassId) (dI : Nat → Nat → Nat) (cB cI cJ cZ cL : ClassId)   (p0 : Int32)  : Met l yX9_isSeed (wy yX9_isSeed cX9_isSeed 1 (some .boolean)) ({ frames := 1, cells := 0, slots := 0, locals := 40 }) (va_Pc [.int p0] (fun U => va_P (dC, dI) vwCl [] U.heap ∧ va_K (dC, dI) vwCl (tyL cB cI cJ cZ cL) U ∧ NW U)) (vp_Si (fun r => (r = 1 ∧ (0 ≤ Int32.toInt p0 ∧ Int32.toInt p0 ≤ 2000000000)) ∨ (r = 0 ∧ ¬ (0 ≤ Int32.toInt p0 ∧ Int32.toInt p0 ≤ 2000000000)))) 0 0 (fun _ => False) := by
  refine Met.ofW (cc := cX9_isSeed) (maxL := 1) (ret := (some .boolean)) (by decide) rfl ?_
  intro p e s m args below meth c s₁ B hml hv
  obtain ⟨rfl, hP, hK, hN⟩ := hv
  have hx := B.exec
  have hb := B.bytes
  have hr := B.returns
  have ht : ∀ w ∈ lw_ok, w.before _ s = true := fun w h => atoms_spec (ws := wy yX9_isSeed cX9_isSeed 1 (some .boolean)) B.pre w (List.mem_cons_of_mem _ h)
  have hown : s.vm.findClass RX9 = some m.cls := findClass_of_methodNamed B.named
  have hlocks := B.notSynchronized
  have hl := lv_entry ([.int p0]) (n := 1) (Nat.le_of_ble_eq_true rfl)
  rw [lg_entry_eq]
  generalize (lg_sl ([.int p0]) ++ List.replicate (1 - (lg_sl ([.int p0])).length) Slot.unset).toArray = ls at hl ⊢
  have hl : lv_has ls 1 [(0, .int p0)] := hl
  have hP : va_P (dC, dI) vwCl [] s.heap := hP
  have rg_p0 := rgI p0
  refine lv_iload_n hx hb dX9_isSeed_0 rfl (lv_at hl 0 rfl) ?_
  refine lv_i2l hx hb dX9_isSeed_1 rfl ?_
  refine lv_topl (fun y_1 ey_1 => ?_)
  have ty_1 := i2lF ey_1
  clear ey_1
  refine lv_lconst (v := 0) hx hb dX9_isSeed_2 (by decide) ?_
  refine lv_ldc2 hx hb hown (ht _ w_1968) dX9_isSeed_3 ?_
  have hPc := hP.sub (ws' := []) [] rfl
  refine vp_callSi (W.runS (As := [.long y_1, .long 0, .long 2000000000]) (rest := []) ⟨hx, hb, hml, hown, ht⟩ (s_X9_in l dC dI cB cI cJ cZ cL y_1 0 2000000000) (va_cwS 3 ht (gQ w_1386 w_1387 w_114 w_1388) rfl rfl rfl (by decide +kernel) ⟨Nat.le_of_ble_eq_true rfl, Nat.le_of_ble_eq_true rfl⟩) (pSSn hN hK hPc) rfl rfl hl.1 rfl (lv_room (Nat.le_of_ble_eq_true rfl)) dX9_isSeed_6 ⟨Nat.le_of_ble_eq_true rfl, Nat.le_of_ble_eq_true rfl⟩) (fun r_2 hw => ?_)
  clear hPc
  (try dsimp only at hw)
  have hw_3 := hw
  clear hw
  (try simp only [L0, L2000000000] at hw_3)
  rcases hw_3 with ⟨hw, c_4⟩ | ⟨hw, c_4⟩
  · subst hw
    exact W.zret (v := 1) hx hb hr (rfl) (fun t ht hW => ⟨1, rfl, (by first | exact Or.inl ⟨rfl, by omega⟩ | exact Or.inr ⟨rfl, by omega⟩), ht⟩) (fun q h => absurd h List.not_mem_nil) dX9_isSeed_9
  · subst hw
    exact W.zret (v := 0) hx hb hr (rfl) (fun t ht hW => ⟨0, rfl, (by first | exact Or.inl ⟨rfl, by omega⟩ | exact Or.inr ⟨rfl, by omega⟩), ht⟩) (fun q h => absurd h List.not_mem_nil) dX9_isSeed_9
set_option maxHeartbeats 8000000 in
set_option maxRecDepth 100000 in
theorem s_X9_cut (l : Launch) (dC : Nat → ClassId) (dI : Nat → Nat → Nat) (cB cI cJ cZ cL : ClassId)   (p0 : Int64) (p1 : Int32)  : Met l yX9_cut (wy yX9_cut cX9_cut 3 (some .long)) ({ frames := 0, cells := 0, slots := 0, locals := 0 }) (va_Pc [.long p0, .int p1] (fun U => va_P (dC, dI) vwCl [] U.heap ∧ va_K (dC, dI) vwCl (tyL cB cI cJ cZ cL) U ∧ NW U)) (vp_Sl (fun r => True)) 0 0 (fun _ => False) := by
  refine Met.ofW (cc := cX9_cut) (maxL := 3) (ret := (some .long)) (by decide) rfl ?_
  intro p e s m args below meth c s₁ B hml hv
  obtain ⟨rfl, hP, hK, hN⟩ := hv
  have hx := B.exec
  have hb := B.bytes
  have hr := B.returns
  have ht : ∀ w ∈ lw_ok, w.before _ s = true := fun w h => atoms_spec (ws := wy yX9_cut cX9_cut 3 (some .long)) B.pre w (List.mem_cons_of_mem _ h)
  have hown : s.vm.findClass RX9 = some m.cls := findClass_of_methodNamed B.named
  have hlocks := B.notSynchronized
  have hl := lv_entry ([.long p0, .int p1]) (n := 3) (Nat.le_of_ble_eq_true rfl)
  rw [lg_entry_eq]
  generalize (lg_sl ([.long p0, .int p1]) ++ List.replicate (3 - (lg_sl ([.long p0, .int p1])).length) Slot.unset).toArray = ls at hl ⊢
  have hl : lv_has ls 3 [(0, .long p0), (2, .int p1)] := hl
  have hP : va_P (dC, dI) vwCl [] s.heap := hP
  have rg_p1 := rgI p1
  refine lv_iload_n hx hb dX9_cut_0 rfl (lv_at hl 1 rfl) ?_
  refine lv_if_ne (tgt := 11) hx hb dX9_cut_1 (by decide) (fun c_1 => ?_) (fun c_1 => ?_)
  · (try simp only [i_lt, i_le, i_eq, T0] at c_1)
    refine lv_iload_n hx hb dX9_cut_11 rfl (lv_at hl 1 rfl) ?_
    refine lv_iconst (v := 1) hx hb dX9_cut_12 (by decide) ?_
    refine lv_icmp_ne (tgt := 23) hx hb dX9_cut_13 (by decide) (fun c_2 => ?_) (fun c_2 => ?_)
    · (try simp only [i_lt, i_le, i_eq, T1] at c_2)
      refine lv_iload_n hx hb dX9_cut_23 rfl (lv_at hl 1 rfl) ?_
      refine lv_iconst (v := 2) hx hb dX9_cut_24 (by decide) ?_
      refine lv_icmp_ne (tgt := 34) hx hb dX9_cut_25 (by decide) (fun c_3 => ?_) (fun c_3 => ?_)
      · (try simp only [i_lt, i_le, i_eq, T2] at c_3)
        refine lv_lload_n hx hb dX9_cut_34 rfl (lv_at hl 0 rfl) ?_
        exact W.lret (v := p0) hx hb hr (fun t ht hW => ⟨p0, rfl, trivial, ht⟩) (fun q h => absurd h List.not_mem_nil) dX9_cut_35
      · (try simp only [i_lt, i_le, i_eq, T2] at c_3)
        refine lv_lload_n hx hb dX9_cut_28 rfl (lv_at hl 0 rfl) ?_
        refine lv_l2i hx hb dX9_cut_29 rfl ?_
        refine lv_topi (fun y_4 ey_4 => ?_)
        have ty_4 := l2iF ey_4
        clear ey_4
        refine lv_i2l hx hb dX9_cut_30 rfl ?_
        refine lv_topl (fun y_5 ey_5 => ?_)
        have ty_5 := i2lF ey_5
        clear ey_5
        refine lv_goto (tgt := 35) hx hb dX9_cut_31 (by decide) ?_
        exact W.lret (v := y_5) hx hb hr (fun t ht hW => ⟨y_5, rfl, trivial, ht⟩) (fun q h => absurd h List.not_mem_nil) dX9_cut_35
    · (try simp only [i_lt, i_le, i_eq, T1] at c_2)
      refine lv_lload_n hx hb dX9_cut_16 rfl (lv_at hl 0 rfl) ?_
      refine lv_l2i hx hb dX9_cut_17 rfl ?_
      refine lv_topi (fun y_6 ey_6 => ?_)
      have ty_6 := l2iF ey_6
      clear ey_6
      refine lv_i2s hx hb dX9_cut_18 rfl ?_
      refine lv_topi (fun y_7 ey_7 => ?_)
      clear ey_7
      refine lv_i2l hx hb dX9_cut_19 rfl ?_
      refine lv_topl (fun y_8 ey_8 => ?_)
      have ty_8 := i2lF ey_8
      clear ey_8
      refine lv_goto (tgt := 35) hx hb dX9_cut_20 (by decide) ?_
      exact W.lret (v := y_8) hx hb hr (fun t ht hW => ⟨y_8, rfl, trivial, ht⟩) (fun q h => absurd h List.not_mem_nil) dX9_cut_35
  · (try simp only [i_lt, i_le, i_eq, T0] at c_1)
    refine lv_lload_n hx hb dX9_cut_4 rfl (lv_at hl 0 rfl) ?_
    refine lv_l2i hx hb dX9_cut_5 rfl ?_
    refine lv_topi (fun y_9 ey_9 => ?_)
    have ty_9 := l2iF ey_9
    clear ey_9
    refine lv_i2b hx hb dX9_cut_6 rfl ?_
    refine lv_topi (fun y_10 ey_10 => ?_)
    clear ey_10
    refine lv_i2l hx hb dX9_cut_7 rfl ?_
    refine lv_topl (fun y_11 ey_11 => ?_)
    have ty_11 := i2lF ey_11
    clear ey_11
    refine lv_goto (tgt := 35) hx hb dX9_cut_8 (by decide) ?_
    exact W.lret (v := y_11) hx hb hr (fun t ht hW => ⟨y_11, rfl, trivial, ht⟩) (fun q h => absurd h List.not_mem_nil) dX9_cut_35
set_option maxHeartbeats 8000000 in
set_option maxRecDepth 100000 in
theorem s_X9_isBit (l : Launch) (dC : Nat → ClassId) (dI : Nat → Nat → Nat) (cB cI cJ cZ cL : ClassId)   (p0 : Int32) (p1 : Int32)  : Met l yX9_isBit (wy yX9_isBit cX9_isBit 2 (some .boolean)) ({ frames := 0, cells := 0, slots := 0, locals := 0 }) (va_Pc [.int p0, .int p1] (fun U => va_P (dC, dI) vwCl [] U.heap ∧ va_K (dC, dI) vwCl (tyL cB cI cJ cZ cL) U ∧ NW U)) (vp_Si (fun r => r = 0 ∨ r = 1)) 0 0 (fun _ => False) := by
  refine Met.ofW (cc := cX9_isBit) (maxL := 2) (ret := (some .boolean)) (by decide) rfl ?_
  intro p e s m args below meth c s₁ B hml hv
  obtain ⟨rfl, hP, hK, hN⟩ := hv
  have hx := B.exec
  have hb := B.bytes
  have hr := B.returns
  have ht : ∀ w ∈ lw_ok, w.before _ s = true := fun w h => atoms_spec (ws := wy yX9_isBit cX9_isBit 2 (some .boolean)) B.pre w (List.mem_cons_of_mem _ h)
  have hown : s.vm.findClass RX9 = some m.cls := findClass_of_methodNamed B.named
  have hlocks := B.notSynchronized
  have hl := lv_entry ([.int p0, .int p1]) (n := 2) (Nat.le_of_ble_eq_true rfl)
  rw [lg_entry_eq]
  generalize (lg_sl ([.int p0, .int p1]) ++ List.replicate (2 - (lg_sl ([.int p0, .int p1])).length) Slot.unset).toArray = ls at hl ⊢
  have hl : lv_has ls 2 [(0, .int p0), (1, .int p1)] := hl
  have hP : va_P (dC, dI) vwCl [] s.heap := hP
  have rg_p0 := rgI p0
  have rg_p1 := rgI p1
  refine lv_iload_n hx hb dX9_isBit_0 rfl (lv_at hl 0 rfl) ?_
  refine lv_iload_n hx hb dX9_isBit_1 rfl (lv_at hl 1 rfl) ?_
  refine lv_ishr hx hb dX9_isBit_2 ?_
  refine lv_topi (fun y_1 ey_1 => ?_)
  clear ey_1
  refine lv_iconst (v := 1) hx hb dX9_isBit_3 (by decide) ?_
  refine lv_iand hx hb dX9_isBit_4 ?_
  refine lv_topi (fun y_2 ey_2 => ?_)
  have ty_2 := iandF (m := 1) ey_2 (by decide)
  simp only [T1] at ty_2
  clear ey_2
  refine lv_iconst (v := 1) hx hb dX9_isBit_5 (by decide) ?_
  refine lv_icmp_ne (tgt := 13) hx hb dX9_isBit_6 (by decide) (fun c_3 => ?_) (fun c_3 => ?_)
  · (try simp only [i_lt, i_le, i_eq, T1] at c_3)
    refine lv_iconst (v := 0) hx hb dX9_isBit_13 (by decide) ?_
    exact W.zret (v := 0) hx hb hr (rfl) (fun t ht hW => ⟨0, rfl, (by first | exact Or.inl rfl | exact Or.inr rfl | assumption), ht⟩) (fun q h => absurd h List.not_mem_nil) dX9_isBit_14
  · (try simp only [i_lt, i_le, i_eq, T1] at c_3)
    refine lv_iconst (v := 1) hx hb dX9_isBit_9 (by decide) ?_
    refine lv_goto (tgt := 14) hx hb dX9_isBit_10 (by decide) ?_
    exact W.zret (v := 1) hx hb hr (rfl) (fun t ht hW => ⟨1, rfl, (by first | exact Or.inl rfl | exact Or.inr rfl | assumption), ht⟩) (fun q h => absurd h List.not_mem_nil) dX9_isBit_14
set_option maxHeartbeats 8000000 in
set_option maxRecDepth 100000 in
theorem s_X9_moreOf (l : Launch) (dC : Nat → ClassId) (dI : Nat → Nat → Nat) (cB cI cJ cZ cL : ClassId)   (p0 : Int32) (p1 : Int32)  : Met l yX9_moreOf (wy yX9_moreOf cX9_moreOf 2 (some .int)) ({ frames := 0, cells := 0, slots := 0, locals := 0 }) (va_Pc [.int p0, .int p1] (fun U => va_P (dC, dI) vwCl [] U.heap ∧ va_K (dC, dI) vwCl (tyL cB cI cJ cZ cL) U ∧ NW U)) (vp_Si (fun r => (Int32.toInt p0 ≤ Int32.toInt r) ∧ (Int32.toInt p1 ≤ Int32.toInt r) ∧ (Int32.toInt r = Int32.toInt p0 ∨ Int32.toInt r = Int32.toInt p1))) 0 0 (fun _ => False) := by
  refine Met.ofW (cc := cX9_moreOf) (maxL := 2) (ret := (some .int)) (by decide) rfl ?_
  intro p e s m args below meth c s₁ B hml hv
  obtain ⟨rfl, hP, hK, hN⟩ := hv
  have hx := B.exec
  have hb := B.bytes
  have hr := B.returns
  have ht : ∀ w ∈ lw_ok, w.before _ s = true := fun w h => atoms_spec (ws := wy yX9_moreOf cX9_moreOf 2 (some .int)) B.pre w (List.mem_cons_of_mem _ h)
  have hown : s.vm.findClass RX9 = some m.cls := findClass_of_methodNamed B.named
  have hlocks := B.notSynchronized
  have hl := lv_entry ([.int p0, .int p1]) (n := 2) (Nat.le_of_ble_eq_true rfl)
  rw [lg_entry_eq]
  generalize (lg_sl ([.int p0, .int p1]) ++ List.replicate (2 - (lg_sl ([.int p0, .int p1])).length) Slot.unset).toArray = ls at hl ⊢
  have hl : lv_has ls 2 [(0, .int p0), (1, .int p1)] := hl
  have hP : va_P (dC, dI) vwCl [] s.heap := hP
  have rg_p0 := rgI p0
  have rg_p1 := rgI p1
  refine lv_iload_n hx hb dX9_moreOf_0 rfl (lv_at hl 0 rfl) ?_
  refine lv_iload_n hx hb dX9_moreOf_1 rfl (lv_at hl 1 rfl) ?_
  refine lv_icmp_le (tgt := 9) hx hb dX9_moreOf_2 (by decide) (fun c_1 => ?_) (fun c_1 => ?_)
  · (try simp only [i_lt, i_le, i_eq] at c_1)
    refine lv_iload_n hx hb dX9_moreOf_9 rfl (lv_at hl 1 rfl) ?_
    exact W.iret (v := p1) hx hb hr (fun t ht hW => ⟨p1, rfl, ⟨(by first | omega | assumption | decide | exact LK_mono (by assumption) (by omega) | exact OM_mono (by assumption) (by omega) | exact CLR_mono (by assumption) (by omega) | (have e0 := T0; have e1 := T1; have e2 := T2; have e3 := T3; have em1 := Tm1; omega) | (dsimp only; done) | (dsimp only; first | omega | assumption | decide | exact LK_mono (by assumption) (by omega) | exact OM_mono (by assumption) (by omega) | exact CLR_mono (by assumption) (by omega) | (have e0 := T0; have e1 := T1; have e2 := T2; have e3 := T3; have em1 := Tm1; omega))), (by first | omega | assumption | decide | exact LK_mono (by assumption) (by omega) | exact OM_mono (by assumption) (by omega) | exact CLR_mono (by assumption) (by omega) | (have e0 := T0; have e1 := T1; have e2 := T2; have e3 := T3; have em1 := Tm1; omega) | (dsimp only; done) | (dsimp only; first | omega | assumption | decide | exact LK_mono (by assumption) (by omega) | exact OM_mono (by assumption) (by omega) | exact CLR_mono (by assumption) (by omega) | (have e0 := T0; have e1 := T1; have e2 := T2; have e3 := T3; have em1 := Tm1; omega))), (by first | omega | assumption | decide | exact LK_mono (by assumption) (by omega) | exact OM_mono (by assumption) (by omega) | exact CLR_mono (by assumption) (by omega) | (have e0 := T0; have e1 := T1; have e2 := T2; have e3 := T3; have em1 := Tm1; omega) | (dsimp only; done) | (dsimp only; first | omega | assumption | decide | exact LK_mono (by assumption) (by omega) | exact OM_mono (by assumption) (by omega) | exact CLR_mono (by assumption) (by omega) | (have e0 := T0; have e1 := T1; have e2 := T2; have e3 := T3; have em1 := Tm1; omega)))⟩, ht⟩) (fun q h => absurd h List.not_mem_nil) dX9_moreOf_10
  · (try simp only [i_lt, i_le, i_eq] at c_1)
    refine lv_iload_n hx hb dX9_moreOf_5 rfl (lv_at hl 0 rfl) ?_
    refine lv_goto (tgt := 10) hx hb dX9_moreOf_6 (by decide) ?_
    exact W.iret (v := p0) hx hb hr (fun t ht hW => ⟨p0, rfl, ⟨(by first | omega | assumption | decide | exact LK_mono (by assumption) (by omega) | exact OM_mono (by assumption) (by omega) | exact CLR_mono (by assumption) (by omega) | (have e0 := T0; have e1 := T1; have e2 := T2; have e3 := T3; have em1 := Tm1; omega) | (dsimp only; done) | (dsimp only; first | omega | assumption | decide | exact LK_mono (by assumption) (by omega) | exact OM_mono (by assumption) (by omega) | exact CLR_mono (by assumption) (by omega) | (have e0 := T0; have e1 := T1; have e2 := T2; have e3 := T3; have em1 := Tm1; omega))), (by first | omega | assumption | decide | exact LK_mono (by assumption) (by omega) | exact OM_mono (by assumption) (by omega) | exact CLR_mono (by assumption) (by omega) | (have e0 := T0; have e1 := T1; have e2 := T2; have e3 := T3; have em1 := Tm1; omega) | (dsimp only; done) | (dsimp only; first | omega | assumption | decide | exact LK_mono (by assumption) (by omega) | exact OM_mono (by assumption) (by omega) | exact CLR_mono (by assumption) (by omega) | (have e0 := T0; have e1 := T1; have e2 := T2; have e3 := T3; have em1 := Tm1; omega))), (by first | omega | assumption | decide | exact LK_mono (by assumption) (by omega) | exact OM_mono (by assumption) (by omega) | exact CLR_mono (by assumption) (by omega) | (have e0 := T0; have e1 := T1; have e2 := T2; have e3 := T3; have em1 := Tm1; omega) | (dsimp only; done) | (dsimp only; first | omega | assumption | decide | exact LK_mono (by assumption) (by omega) | exact OM_mono (by assumption) (by omega) | exact CLR_mono (by assumption) (by omega) | (have e0 := T0; have e1 := T1; have e2 := T2; have e3 := T3; have em1 := Tm1; omega)))⟩, ht⟩) (fun q h => absurd h List.not_mem_nil) dX9_moreOf_10
set_option maxHeartbeats 8000000 in
set_option maxRecDepth 100000 in
theorem s_X9_spans (l : Launch) (dC : Nat → ClassId) (dI : Nat → Nat → Nat) (cB cI cJ cZ cL : ClassId) (g : Nat → Nat) (g_th : Int32) (g_tp : Int32) (g_so : Int32) (g_tk : Int32) (g_pl : Int32) (g_va : Int32) (g_wo : Int64) (g_bd : Int32) (g_bp : Int32) (g_fa : Int32) (g_fp : Int32) (g_lw : Int32) (g_we : Int32) (g_cu : Int32) (g_go : Int32) (g_ba : Int32) (g_jo : Int32) (g_bt : Int64) (g_sb : Int32) (g_ab : Int32) (g_al : Int32) (hs : Nat → Int32)   : Met l yX9_spans (wy yX9_spans cX9_spans 1 (some .int)) ({ frames := 0, cells := 0, slots := 0, locals := 0 }) (va_Pc [.ref (g 0)] (fun U => va_P (dC, dI) vwCl [((g 0), .inr (9, [.int g_th, .ref (g 1), .ref (g 2), .ref (g 3), .ref (g 4), .ref (g 5), .int g_tp, .int g_so, .int g_tk, .int g_pl, .int g_va, .long g_wo, .int g_bd, .int g_bp, .int g_fa, .int g_fp, .ref (g 6), .ref (g 7), .ref (g 8), .ref (g 9), .ref (g 10), .ref (g 11), .int g_lw, .int g_we, .int g_cu, .int g_go, .int g_ba, .ref (g 12), .ref (g 13), .int g_jo, .ref (g 14), .ref (g 15), .long g_bt, .int g_sb, .int g_ab, .int g_al, .ref (g 16), .ref (g 17)])), ((g 7), .inl (cI, 35, .inl hs))] U.heap ∧ va_K (dC, dI) vwCl (tyL cB cI cJ cZ cL) U ∧ NW U)) (vp_Si (fun r => Int32.toInt r = Int32.toInt (hs 4))) 0 0 (fun _ => False) := by
  refine Met.ofW (cc := cX9_spans) (maxL := 1) (ret := (some .int)) (by decide) rfl ?_
  intro p e s m args below meth c s₁ B hml hv
  obtain ⟨rfl, hP, hK, hN⟩ := hv
  have hx := B.exec
  have hb := B.bytes
  have hr := B.returns
  have ht : ∀ w ∈ lw_ok, w.before _ s = true := fun w h => atoms_spec (ws := wy yX9_spans cX9_spans 1 (some .int)) B.pre w (List.mem_cons_of_mem _ h)
  have hown : s.vm.findClass RX9 = some m.cls := findClass_of_methodNamed B.named
  have hlocks := B.notSynchronized
  have hl := lv_entry ([.ref (g 0)]) (n := 1) (Nat.le_of_ble_eq_true rfl)
  rw [lg_entry_eq]
  generalize (lg_sl ([.ref (g 0)]) ++ List.replicate (1 - (lg_sl ([.ref (g 0)])).length) Slot.unset).toArray = ls at hl ⊢
  have hl : lv_has ls 1 [(0, .ref (g 0))] := hl
  have hP : va_P (dC, dI) vwCl [((g 0), .inr (9, [.int g_th, .ref (g 1), .ref (g 2), .ref (g 3), .ref (g 4), .ref (g 5), .int g_tp, .int g_so, .int g_tk, .int g_pl, .int g_va, .long g_wo, .int g_bd, .int g_bp, .int g_fa, .int g_fp, .ref (g 6), .ref (g 7), .ref (g 8), .ref (g 9), .ref (g 10), .ref (g 11), .int g_lw, .int g_we, .int g_cu, .int g_go, .int g_ba, .ref (g 12), .ref (g 13), .int g_jo, .ref (g 14), .ref (g 15), .long g_bt, .int g_sb, .int g_ab, .int g_al, .ref (g 16), .ref (g 17)])), ((g 7), .inl (cI, 35, .inl hs))] s.heap := hP
  refine lv_aload_n hx hb dX9_spans_0 rfl (lv_at hl 0 rfl) ?_
  refine va_get (D := (dC, dI)) (ci := 9) (v := .ref (g 7)) (C := RX9) (T := TX9) (N := 38) hx hb ht iX9 hown hK hP 0 rfl rfl 17 (by decide) (ht _ w_1279) (fun _ h9 => h9) rfl dX9_spans_1 ?_
  refine lv_iconst (v := 4) hx hb dX9_spans_4 (by decide) ?_
  refine va_iald hx hb hK hP 1 1 rfl rfl (by unfold vp_in; decide) dX9_spans_5 ?_
  refine lv_topi (fun y_1 ey_1 => ?_)
  have qy_1 : Int32.toInt y_1 = Int32.toInt (hs 4) := congrArg Int32.toInt ey_1
  exact W.iret (v := y_1) hx hb hr (fun t ht hW => ⟨y_1, rfl, (by first | omega | assumption | exact ⟨by first | omega | assumption, by first | omega | assumption⟩), ht⟩) (fun q h => absurd h List.not_mem_nil) dX9_spans_6
set_option maxHeartbeats 8000000 in
set_option maxRecDepth 100000 in
theorem s_X9_days (l : Launch) (dC : Nat → ClassId) (dI : Nat → Nat → Nat) (cB cI cJ cZ cL : ClassId) (g : Nat → Nat) (g_th : Int32) (g_tp : Int32) (g_so : Int32) (g_tk : Int32) (g_pl : Int32) (g_va : Int32) (g_wo : Int64) (g_bd : Int32) (g_bp : Int32) (g_fa : Int32) (g_fp : Int32) (g_lw : Int32) (g_we : Int32) (g_cu : Int32) (g_go : Int32) (g_ba : Int32) (g_jo : Int32) (g_bt : Int64) (g_sb : Int32) (g_ab : Int32) (g_al : Int32) (hs : Nat → Int32)   : Met l yX9_days (wy yX9_days cX9_days 1 (some .int)) ({ frames := 0, cells := 0, slots := 0, locals := 0 }) (va_Pc [.ref (g 0)] (fun U => va_P (dC, dI) vwCl [((g 0), .inr (9, [.int g_th, .ref (g 1), .ref (g 2), .ref (g 3), .ref (g 4), .ref (g 5), .int g_tp, .int g_so, .int g_tk, .int g_pl, .int g_va, .long g_wo, .int g_bd, .int g_bp, .int g_fa, .int g_fp, .ref (g 6), .ref (g 7), .ref (g 8), .ref (g 9), .ref (g 10), .ref (g 11), .int g_lw, .int g_we, .int g_cu, .int g_go, .int g_ba, .ref (g 12), .ref (g 13), .int g_jo, .ref (g 14), .ref (g 15), .long g_bt, .int g_sb, .int g_ab, .int g_al, .ref (g 16), .ref (g 17)])), ((g 7), .inl (cI, 35, .inl hs))] U.heap ∧ va_K (dC, dI) vwCl (tyL cB cI cJ cZ cL) U ∧ NW U)) (vp_Si (fun r => Int32.toInt r = Int32.toInt (hs 0))) 0 0 (fun _ => False) := by
  refine Met.ofW (cc := cX9_days) (maxL := 1) (ret := (some .int)) (by decide) rfl ?_
  intro p e s m args below meth c s₁ B hml hv
  obtain ⟨rfl, hP, hK, hN⟩ := hv
  have hx := B.exec
  have hb := B.bytes
  have hr := B.returns
  have ht : ∀ w ∈ lw_ok, w.before _ s = true := fun w h => atoms_spec (ws := wy yX9_days cX9_days 1 (some .int)) B.pre w (List.mem_cons_of_mem _ h)
  have hown : s.vm.findClass RX9 = some m.cls := findClass_of_methodNamed B.named
  have hlocks := B.notSynchronized
  have hl := lv_entry ([.ref (g 0)]) (n := 1) (Nat.le_of_ble_eq_true rfl)
  rw [lg_entry_eq]
  generalize (lg_sl ([.ref (g 0)]) ++ List.replicate (1 - (lg_sl ([.ref (g 0)])).length) Slot.unset).toArray = ls at hl ⊢
  have hl : lv_has ls 1 [(0, .ref (g 0))] := hl
  have hP : va_P (dC, dI) vwCl [((g 0), .inr (9, [.int g_th, .ref (g 1), .ref (g 2), .ref (g 3), .ref (g 4), .ref (g 5), .int g_tp, .int g_so, .int g_tk, .int g_pl, .int g_va, .long g_wo, .int g_bd, .int g_bp, .int g_fa, .int g_fp, .ref (g 6), .ref (g 7), .ref (g 8), .ref (g 9), .ref (g 10), .ref (g 11), .int g_lw, .int g_we, .int g_cu, .int g_go, .int g_ba, .ref (g 12), .ref (g 13), .int g_jo, .ref (g 14), .ref (g 15), .long g_bt, .int g_sb, .int g_ab, .int g_al, .ref (g 16), .ref (g 17)])), ((g 7), .inl (cI, 35, .inl hs))] s.heap := hP
  refine lv_aload_n hx hb dX9_days_0 rfl (lv_at hl 0 rfl) ?_
  refine va_get (D := (dC, dI)) (ci := 9) (v := .ref (g 7)) (C := RX9) (T := TX9) (N := 38) hx hb ht iX9 hown hK hP 0 rfl rfl 17 (by decide) (ht _ w_1279) (fun _ h9 => h9) rfl dX9_days_1 ?_
  refine lv_iconst (v := 0) hx hb dX9_days_4 (by decide) ?_
  refine va_iald hx hb hK hP 1 1 rfl rfl (by unfold vp_in; decide) dX9_days_5 ?_
  refine lv_topi (fun y_1 ey_1 => ?_)
  have qy_1 : Int32.toInt y_1 = Int32.toInt (hs 0) := congrArg Int32.toInt ey_1
  exact W.iret (v := y_1) hx hb hr (fun t ht hW => ⟨y_1, rfl, (by first | omega | assumption | exact ⟨by first | omega | assumption, by first | omega | assumption⟩), ht⟩) (fun q h => absurd h List.not_mem_nil) dX9_days_6
set_option maxHeartbeats 8000000 in
set_option maxRecDepth 100000 in
theorem s_X9_isWire (l : Launch) (dC : Nat → ClassId) (dI : Nat → Nat → Nat) (cB cI cJ cZ cL : ClassId) (g : Nat → Nat) (g_th : Int32) (g_tp : Int32) (g_so : Int32) (g_tk : Int32) (g_pl : Int32) (g_va : Int32) (g_wo : Int64) (g_bd : Int32) (g_bp : Int32) (g_fa : Int32) (g_fp : Int32) (g_lw : Int32) (g_we : Int32) (g_cu : Int32) (g_go : Int32) (g_ba : Int32) (g_jo : Int32) (g_bt : Int64) (g_sb : Int32) (g_ab : Int32) (g_al : Int32) (li : Nat → Int32)   : Met l yX9_isWire (wy yX9_isWire cX9_isWire 1 (some .boolean)) ({ frames := 0, cells := 0, slots := 0, locals := 0 }) (va_Pc [.ref (g 0)] (fun U => va_P (dC, dI) vwCl [((g 0), .inr (9, [.int g_th, .ref (g 1), .ref (g 2), .ref (g 3), .ref (g 4), .ref (g 5), .int g_tp, .int g_so, .int g_tk, .int g_pl, .int g_va, .long g_wo, .int g_bd, .int g_bp, .int g_fa, .int g_fp, .ref (g 6), .ref (g 7), .ref (g 8), .ref (g 9), .ref (g 10), .ref (g 11), .int g_lw, .int g_we, .int g_cu, .int g_go, .int g_ba, .ref (g 12), .ref (g 13), .int g_jo, .ref (g 14), .ref (g 15), .long g_bt, .int g_sb, .int g_ab, .int g_al, .ref (g 16), .ref (g 17)])), ((g 6), .inl (cI, 5, .inl li))] U.heap ∧ va_K (dC, dI) vwCl (tyL cB cI cJ cZ cL) U ∧ NW U)) (vp_Si (fun r => (r = 1 ∧ (0 < Int32.toInt (li 0))) ∨ (r = 0 ∧ ¬ (0 < Int32.toInt (li 0))))) 0 0 (fun _ => False) := by
  refine Met.ofW (cc := cX9_isWire) (maxL := 1) (ret := (some .boolean)) (by decide) rfl ?_
  intro p e s m args below meth c s₁ B hml hv
  obtain ⟨rfl, hP, hK, hN⟩ := hv
  have hx := B.exec
  have hb := B.bytes
  have hr := B.returns
  have ht : ∀ w ∈ lw_ok, w.before _ s = true := fun w h => atoms_spec (ws := wy yX9_isWire cX9_isWire 1 (some .boolean)) B.pre w (List.mem_cons_of_mem _ h)
  have hown : s.vm.findClass RX9 = some m.cls := findClass_of_methodNamed B.named
  have hlocks := B.notSynchronized
  have hl := lv_entry ([.ref (g 0)]) (n := 1) (Nat.le_of_ble_eq_true rfl)
  rw [lg_entry_eq]
  generalize (lg_sl ([.ref (g 0)]) ++ List.replicate (1 - (lg_sl ([.ref (g 0)])).length) Slot.unset).toArray = ls at hl ⊢
  have hl : lv_has ls 1 [(0, .ref (g 0))] := hl
  have hP : va_P (dC, dI) vwCl [((g 0), .inr (9, [.int g_th, .ref (g 1), .ref (g 2), .ref (g 3), .ref (g 4), .ref (g 5), .int g_tp, .int g_so, .int g_tk, .int g_pl, .int g_va, .long g_wo, .int g_bd, .int g_bp, .int g_fa, .int g_fp, .ref (g 6), .ref (g 7), .ref (g 8), .ref (g 9), .ref (g 10), .ref (g 11), .int g_lw, .int g_we, .int g_cu, .int g_go, .int g_ba, .ref (g 12), .ref (g 13), .int g_jo, .ref (g 14), .ref (g 15), .long g_bt, .int g_sb, .int g_ab, .int g_al, .ref (g 16), .ref (g 17)])), ((g 6), .inl (cI, 5, .inl li))] s.heap := hP
  refine lv_aload_n hx hb dX9_isWire_0 rfl (lv_at hl 0 rfl) ?_
  refine va_get (D := (dC, dI)) (ci := 9) (v := .ref (g 6)) (C := RX9) (T := TX9) (N := 38) hx hb ht iX9 hown hK hP 0 rfl rfl 16 (by decide) (ht _ w_1278) (fun _ h9 => h9) rfl dX9_isWire_1 ?_
  refine lv_iconst (v := 0) hx hb dX9_isWire_4 (by decide) ?_
  refine va_iald hx hb hK hP 1 1 rfl rfl (by unfold vp_in; decide) dX9_isWire_5 ?_
  refine lv_topi (fun y_1 ey_1 => ?_)
  have qy_1 : Int32.toInt y_1 = Int32.toInt (li 0) := congrArg Int32.toInt ey_1
  refine lv_if_le (tgt := 13) hx hb dX9_isWire_6 (by decide) (fun c_2 => ?_) (fun c_2 => ?_)
  · (try simp only [i_lt, i_le, i_eq, T0] at c_2)
    refine lv_iconst (v := 0) hx hb dX9_isWire_13 (by decide) ?_
    exact W.zret (v := 0) hx hb hr (rfl) (fun t ht hW => ⟨0, rfl, (by first | exact Or.inl ⟨rfl, by omega⟩ | exact Or.inr ⟨rfl, by omega⟩), ht⟩) (fun q h => absurd h List.not_mem_nil) dX9_isWire_14
  · (try simp only [i_lt, i_le, i_eq, T0] at c_2)
    refine lv_iconst (v := 1) hx hb dX9_isWire_9 (by decide) ?_
    refine lv_goto (tgt := 14) hx hb dX9_isWire_10 (by decide) ?_
    exact W.zret (v := 1) hx hb hr (rfl) (fun t ht hW => ⟨1, rfl, (by first | exact Or.inl ⟨rfl, by omega⟩ | exact Or.inr ⟨rfl, by omega⟩), ht⟩) (fun q h => absurd h List.not_mem_nil) dX9_isWire_14
set_option maxHeartbeats 8000000 in
set_option maxRecDepth 100000 in
theorem s_X9_isSpan (l : Launch) (dC : Nat → ClassId) (dI : Nat → Nat → Nat) (cB cI cJ cZ cL : ClassId) (g : Nat → Nat) (g_th : Int32) (g_tp : Int32) (g_so : Int32) (g_tk : Int32) (g_pl : Int32) (g_va : Int32) (g_wo : Int64) (g_bd : Int32) (g_bp : Int32) (g_fa : Int32) (g_fp : Int32) (g_lw : Int32) (g_we : Int32) (g_cu : Int32) (g_go : Int32) (g_ba : Int32) (g_jo : Int32) (g_bt : Int64) (g_sb : Int32) (g_ab : Int32) (g_al : Int32) (hs : Nat → Int32) (p0 : Int32) (h4 : 0 ≤ Int32.toInt (hs 4) ∧ Int32.toInt (hs 4) ≤ 5) : Met l yX9_isSpan (wy yX9_isSpan cX9_isSpan 2 (some .boolean)) ({ frames := 1, cells := 0, slots := 0, locals := 40 }) (va_Pc [.ref (g 0), .int p0] (fun U => va_P (dC, dI) vwCl [((g 0), .inr (9, [.int g_th, .ref (g 1), .ref (g 2), .ref (g 3), .ref (g 4), .ref (g 5), .int g_tp, .int g_so, .int g_tk, .int g_pl, .int g_va, .long g_wo, .int g_bd, .int g_bp, .int g_fa, .int g_fp, .ref (g 6), .ref (g 7), .ref (g 8), .ref (g 9), .ref (g 10), .ref (g 11), .int g_lw, .int g_we, .int g_cu, .int g_go, .int g_ba, .ref (g 12), .ref (g 13), .int g_jo, .ref (g 14), .ref (g 15), .long g_bt, .int g_sb, .int g_ab, .int g_al, .ref (g 16), .ref (g 17)])), ((g 7), .inl (cI, 35, .inl hs))] U.heap ∧ va_K (dC, dI) vwCl (tyL cB cI cJ cZ cL) U ∧ NW U)) (vp_Si (fun r => (r = 1 ∧ (0 ≤ Int32.toInt p0 ∧ Int32.toInt p0 < Int32.toInt (hs 4))) ∨ (r = 0 ∧ ¬ (0 ≤ Int32.toInt p0 ∧ Int32.toInt p0 < Int32.toInt (hs 4))))) 0 0 (fun _ => False) := by
  refine Met.ofW (cc := cX9_isSpan) (maxL := 2) (ret := (some .boolean)) (by decide) rfl ?_
  intro p e s m args below meth c s₁ B hml hv
  obtain ⟨rfl, hP, hK, hN⟩ := hv
  have hx := B.exec
  have hb := B.bytes
  have hr := B.returns
  have ht : ∀ w ∈ lw_ok, w.before _ s = true := fun w h => atoms_spec (ws := wy yX9_isSpan cX9_isSpan 2 (some .boolean)) B.pre w (List.mem_cons_of_mem _ h)
  have hown : s.vm.findClass RX9 = some m.cls := findClass_of_methodNamed B.named
  have hlocks := B.notSynchronized
  have hl := lv_entry ([.ref (g 0), .int p0]) (n := 2) (Nat.le_of_ble_eq_true rfl)
  rw [lg_entry_eq]
  generalize (lg_sl ([.ref (g 0), .int p0]) ++ List.replicate (2 - (lg_sl ([.ref (g 0), .int p0])).length) Slot.unset).toArray = ls at hl ⊢
  have hl : lv_has ls 2 [(0, .ref (g 0)), (1, .int p0)] := hl
  have hP : va_P (dC, dI) vwCl [((g 0), .inr (9, [.int g_th, .ref (g 1), .ref (g 2), .ref (g 3), .ref (g 4), .ref (g 5), .int g_tp, .int g_so, .int g_tk, .int g_pl, .int g_va, .long g_wo, .int g_bd, .int g_bp, .int g_fa, .int g_fp, .ref (g 6), .ref (g 7), .ref (g 8), .ref (g 9), .ref (g 10), .ref (g 11), .int g_lw, .int g_we, .int g_cu, .int g_go, .int g_ba, .ref (g 12), .ref (g 13), .int g_jo, .ref (g 14), .ref (g 15), .long g_bt, .int g_sb, .int g_ab, .int g_al, .ref (g 16), .ref (g 17)])), ((g 7), .inl (cI, 35, .inl hs))] s.heap := hP
  have rg_p0 := rgI p0
  refine lv_iload_n hx hb dX9_isSpan_0 rfl (lv_at hl 1 rfl) ?_
  refine lv_i2l hx hb dX9_isSpan_1 rfl ?_
  refine lv_topl (fun y_1 ey_1 => ?_)
  have ty_1 := i2lF ey_1
  clear ey_1
  refine lv_lconst (v := 0) hx hb dX9_isSpan_2 (by decide) ?_
  refine lv_aload_n hx hb dX9_isSpan_3 rfl (lv_at hl 0 rfl) ?_
  have hPc := hP.sub (ws' := [((g 0), .inr (9, [.int g_th, .ref (g 1), .ref (g 2), .ref (g 3), .ref (g 4), .ref (g 5), .int g_tp, .int g_so, .int g_tk, .int g_pl, .int g_va, .long g_wo, .int g_bd, .int g_bp, .int g_fa, .int g_fp, .ref (g 6), .ref (g 7), .ref (g 8), .ref (g 9), .ref (g 10), .ref (g 11), .int g_lw, .int g_we, .int g_cu, .int g_go, .int g_ba, .ref (g 12), .ref (g 13), .int g_jo, .ref (g 14), .ref (g 15), .long g_bt, .int g_sb, .int g_ab, .int g_al, .ref (g 16), .ref (g 17)])), ((g 7), .inl (cI, 35, .inl hs))]) [0, 1] rfl
  refine vp_callSi (W.runV (As := []) (rest := [.long 0, .long y_1]) ⟨hx, hb, hml, hown, ht⟩ (s_X9_spans l dC dI cB cI cJ cZ cL g g_th g_tp g_so g_tk g_pl g_va g_wo g_bd g_bp g_fa g_fp g_lw g_we g_cu g_go g_ba g_jo g_bt g_sb g_ab g_al hs) (cwV 0 ht (gV w_1521 w_1523 w_67 w_114 w_1524) rfl rfl rfl (by decide +kernel) ⟨Nat.le_of_ble_eq_true rfl, Nat.le_of_ble_eq_true rfl⟩) (pVSn hN hK hPc (ci := 9) (q0 := 0) rfl rfl) rfl rfl hl.1 rfl (lv_room (Nat.le_of_ble_eq_true rfl)) dX9_isSpan_4 ⟨Nat.le_of_ble_eq_true rfl, Nat.le_of_ble_eq_true rfl⟩) (fun r_2 hw => ?_)
  clear hPc
  (try dsimp only at hw)
  have hw_3 := hw
  clear hw
  refine lv_i2l hx hb dX9_isSpan_7 rfl ?_
  refine lv_topl (fun y_4 ey_4 => ?_)
  have ty_4 := i2lF ey_4
  clear ey_4
  refine lv_lconst (v := 1) hx hb dX9_isSpan_8 (by decide) ?_
  refine lv_lsub hx hb dX9_isSpan_9 ?_
  refine lv_topl (fun y_5 ey_5 => ?_)
  have ty_5 := lsubF ey_5
  simp only [L1] at ty_5
  clear ey_5
  have hPc := hP.sub (ws' := []) [] rfl
  refine vp_callSi (W.runS (As := [.long y_1, .long 0, .long y_5]) (rest := []) ⟨hx, hb, hml, hown, ht⟩ (s_X9_in l dC dI cB cI cJ cZ cL y_1 0 y_5) (va_cwS 3 ht (gQ w_1386 w_1387 w_114 w_1388) rfl rfl rfl (by decide +kernel) ⟨Nat.le_of_ble_eq_true rfl, Nat.le_of_ble_eq_true rfl⟩) (pSSn hN hK hPc) rfl rfl hl.1 rfl (lv_room (Nat.le_of_ble_eq_true rfl)) dX9_isSpan_10 ⟨Nat.le_of_ble_eq_true rfl, Nat.le_of_ble_eq_true rfl⟩) (fun r_6 hw => ?_)
  clear hPc
  (try dsimp only at hw)
  have hw_7 := hw
  clear hw
  (try simp only [L0] at hw_7)
  rcases hw_7 with ⟨hw, c_8⟩ | ⟨hw, c_8⟩
  · subst hw
    exact W.zret (v := 1) hx hb hr (rfl) (fun t ht hW => ⟨1, rfl, (by first | exact Or.inl ⟨rfl, by omega⟩ | exact Or.inr ⟨rfl, by omega⟩), ht⟩) (fun q h => absurd h List.not_mem_nil) dX9_isSpan_13
  · subst hw
    exact W.zret (v := 0) hx hb hr (rfl) (fun t ht hW => ⟨0, rfl, (by first | exact Or.inl ⟨rfl, by omega⟩ | exact Or.inr ⟨rfl, by omega⟩), ht⟩) (fun q h => absurd h List.not_mem_nil) dX9_isSpan_13
set_option maxHeartbeats 8000000 in
set_option maxRecDepth 100000 in
theorem s_X9_isStation (l : Launch) (dC : Nat → ClassId) (dI : Nat → Nat → Nat) (cB cI cJ cZ cL : ClassId) (g : Nat → Nat) (g_th : Int32) (g_tp : Int32) (g_so : Int32) (g_tk : Int32) (g_pl : Int32) (g_va : Int32) (g_wo : Int64) (g_bd : Int32) (g_bp : Int32) (g_fa : Int32) (g_fp : Int32) (g_lw : Int32) (g_we : Int32) (g_cu : Int32) (g_go : Int32) (g_ba : Int32) (g_jo : Int32) (g_bt : Int64) (g_sb : Int32) (g_ab : Int32) (g_al : Int32) (hs : Nat → Int32) (sp : Nat → Int32) (p0 : Int32) (h4 : 0 ≤ Int32.toInt (hs 4) ∧ Int32.toInt (hs 4) ≤ 5) : Met l yX9_isStation (wy yX9_isStation cX9_isStation 2 (some .boolean)) ({ frames := 2, cells := 0, slots := 0, locals := 80 }) (va_Pc [.ref (g 0), .int p0] (fun U => va_P (dC, dI) vwCl [((g 0), .inr (9, [.int g_th, .ref (g 1), .ref (g 2), .ref (g 3), .ref (g 4), .ref (g 5), .int g_tp, .int g_so, .int g_tk, .int g_pl, .int g_va, .long g_wo, .int g_bd, .int g_bp, .int g_fa, .int g_fp, .ref (g 6), .ref (g 7), .ref (g 8), .ref (g 9), .ref (g 10), .ref (g 11), .int g_lw, .int g_we, .int g_cu, .int g_go, .int g_ba, .ref (g 12), .ref (g 13), .int g_jo, .ref (g 14), .ref (g 15), .long g_bt, .int g_sb, .int g_ab, .int g_al, .ref (g 16), .ref (g 17)])), ((g 7), .inl (cI, 35, .inl hs)), ((g 8), .inl (cI, 75, .inl sp))] U.heap ∧ va_K (dC, dI) vwCl (tyL cB cI cJ cZ cL) U ∧ NW U)) (vp_Si (fun r => (r = 1 ∧ (0 ≤ Int32.toInt p0 ∧ Int32.toInt p0 < Int32.toInt (hs 4))) ∨ r = 0)) 0 0 (fun _ => False) := by
  refine Met.ofW (cc := cX9_isStation) (maxL := 2) (ret := (some .boolean)) (by decide) rfl ?_
  intro p e s m args below meth c s₁ B hml hv
  obtain ⟨rfl, hP, hK, hN⟩ := hv
  have hx := B.exec
  have hb := B.bytes
  have hr := B.returns
  have ht : ∀ w ∈ lw_ok, w.before _ s = true := fun w h => atoms_spec (ws := wy yX9_isStation cX9_isStation 2 (some .boolean)) B.pre w (List.mem_cons_of_mem _ h)
  have hown : s.vm.findClass RX9 = some m.cls := findClass_of_methodNamed B.named
  have hlocks := B.notSynchronized
  have hl := lv_entry ([.ref (g 0), .int p0]) (n := 2) (Nat.le_of_ble_eq_true rfl)
  rw [lg_entry_eq]
  generalize (lg_sl ([.ref (g 0), .int p0]) ++ List.replicate (2 - (lg_sl ([.ref (g 0), .int p0])).length) Slot.unset).toArray = ls at hl ⊢
  have hl : lv_has ls 2 [(0, .ref (g 0)), (1, .int p0)] := hl
  have hP : va_P (dC, dI) vwCl [((g 0), .inr (9, [.int g_th, .ref (g 1), .ref (g 2), .ref (g 3), .ref (g 4), .ref (g 5), .int g_tp, .int g_so, .int g_tk, .int g_pl, .int g_va, .long g_wo, .int g_bd, .int g_bp, .int g_fa, .int g_fp, .ref (g 6), .ref (g 7), .ref (g 8), .ref (g 9), .ref (g 10), .ref (g 11), .int g_lw, .int g_we, .int g_cu, .int g_go, .int g_ba, .ref (g 12), .ref (g 13), .int g_jo, .ref (g 14), .ref (g 15), .long g_bt, .int g_sb, .int g_ab, .int g_al, .ref (g 16), .ref (g 17)])), ((g 7), .inl (cI, 35, .inl hs)), ((g 8), .inl (cI, 75, .inl sp))] s.heap := hP
  have rg_p0 := rgI p0
  refine lv_aload_n hx hb dX9_isStation_0 rfl (lv_at hl 0 rfl) ?_
  refine lv_iload_n hx hb dX9_isStation_1 rfl (lv_at hl 1 rfl) ?_
  have hPc := hP.sub (ws' := [((g 0), .inr (9, [.int g_th, .ref (g 1), .ref (g 2), .ref (g 3), .ref (g 4), .ref (g 5), .int g_tp, .int g_so, .int g_tk, .int g_pl, .int g_va, .long g_wo, .int g_bd, .int g_bp, .int g_fa, .int g_fp, .ref (g 6), .ref (g 7), .ref (g 8), .ref (g 9), .ref (g 10), .ref (g 11), .int g_lw, .int g_we, .int g_cu, .int g_go, .int g_ba, .ref (g 12), .ref (g 13), .int g_jo, .ref (g 14), .ref (g 15), .long g_bt, .int g_sb, .int g_ab, .int g_al, .ref (g 16), .ref (g 17)])), ((g 7), .inl (cI, 35, .inl hs))]) [0, 1] rfl
  refine vp_callSi (W.runV (As := [.int p0]) (rest := []) ⟨hx, hb, hml, hown, ht⟩ (s_X9_isSpan l dC dI cB cI cJ cZ cL g g_th g_tp g_so g_tk g_pl g_va g_wo g_bd g_bp g_fa g_fp g_lw g_we g_cu g_go g_ba g_jo g_bt g_sb g_ab g_al hs p0 (by first | assumption | omega | decide | (simp only [T0, T1, T2, T3, Tm1]; omega))) (cwV 1 ht (gV w_1517 w_1519 w_66 w_114 w_1520) rfl rfl rfl (by decide +kernel) ⟨Nat.le_of_ble_eq_true rfl, Nat.le_of_ble_eq_true rfl⟩) (pVSn hN hK hPc (ci := 9) (q0 := 0) rfl rfl) rfl rfl hl.1 rfl (lv_room (Nat.le_of_ble_eq_true rfl)) dX9_isStation_2 ⟨Nat.le_of_ble_eq_true rfl, Nat.le_of_ble_eq_true rfl⟩) (fun r_1 hw => ?_)
  clear hPc
  (try dsimp only at hw)
  have hw_2 := hw
  clear hw
  rcases hw_2 with ⟨hw, c_3⟩ | ⟨hw, c_3⟩
  · subst hw
    refine lv_if_eq (tgt := 26) hx hb dX9_isStation_5 (by decide) (fun c9 => by first | exact absurd c9 (by decide) | exact absurd (by decide) c9) (fun _ => ?_)
    refine lv_aload_n hx hb dX9_isStation_8 rfl (lv_at hl 0 rfl) ?_
    refine va_get (D := (dC, dI)) (ci := 9) (v := .ref (g 8)) (C := RX9) (T := TX9) (N := 38) hx hb ht iX9 hown hK hP 0 rfl rfl 18 (by decide) (ht _ w_1280) (fun _ h9 => h9) rfl dX9_isStation_9 ?_
    refine lv_iconst (v := 3) hx hb dX9_isStation_12 (by decide) ?_
    refine lv_iload_n hx hb dX9_isStation_13 rfl (lv_at hl 1 rfl) ?_
    refine lv_imul hx hb dX9_isStation_14 ?_
    refine lv_topi (fun y_4 ey_4 => ?_)
    have ty_4 := imulF ey_4
    simp only [T3] at ty_4
    clear ey_4
    refine lv_iconst (v := 2) hx hb dX9_isStation_15 (by decide) ?_
    refine lv_iadd hx hb dX9_isStation_16 ?_
    refine lv_topi (fun y_5 ey_5 => ?_)
    have ty_5 := iaddF ey_5
    simp only [T2] at ty_5
    clear ey_5
    refine va_iald hx hb hK hP 2 1 rfl rfl (vp_in_iff.mpr (by omega)) dX9_isStation_17 ?_
    refine lv_topi (fun y_6 ey_6 => ?_)
    refine lv_iconst (v := (-1)) hx hb dX9_isStation_18 (by decide) ?_
    refine lv_icmp_eq (tgt := 26) hx hb dX9_isStation_19 (by decide) (fun c_7 => ?_) (fun c_7 => ?_)
    · (try simp only [i_lt, i_le, i_eq, Tm1] at c_7)
      refine lv_iconst (v := 0) hx hb dX9_isStation_26 (by decide) ?_
      exact W.zret (v := 0) hx hb hr (rfl) (fun t ht hW => ⟨0, rfl, (by first | exact Or.inl ⟨rfl, by omega⟩ | exact Or.inr rfl), ht⟩) (fun q h => absurd h List.not_mem_nil) dX9_isStation_27
    · (try simp only [i_lt, i_le, i_eq, Tm1] at c_7)
      refine lv_iconst (v := 1) hx hb dX9_isStation_22 (by decide) ?_
      refine lv_goto (tgt := 27) hx hb dX9_isStation_23 (by decide) ?_
      exact W.zret (v := 1) hx hb hr (rfl) (fun t ht hW => ⟨1, rfl, (by first | exact Or.inl ⟨rfl, by omega⟩ | exact Or.inr rfl), ht⟩) (fun q h => absurd h List.not_mem_nil) dX9_isStation_27
  · subst hw
    refine lv_if_eq (tgt := 26) hx hb dX9_isStation_5 (by decide) (fun _ => ?_) (fun c9 => by first | exact absurd (by decide) c9 | exact absurd c9 (by decide))
    refine lv_iconst (v := 0) hx hb dX9_isStation_26 (by decide) ?_
    exact W.zret (v := 0) hx hb hr (rfl) (fun t ht hW => ⟨0, rfl, (by first | exact Or.inl ⟨rfl, by omega⟩ | exact Or.inr rfl), ht⟩) (fun q h => absurd h List.not_mem_nil) dX9_isStation_27
set_option maxHeartbeats 8000000 in
set_option maxRecDepth 100000 in
theorem s_X9_isDay (l : Launch) (dC : Nat → ClassId) (dI : Nat → Nat → Nat) (cB cI cJ cZ cL : ClassId) (g : Nat → Nat) (g_th : Int32) (g_tp : Int32) (g_so : Int32) (g_tk : Int32) (g_pl : Int32) (g_va : Int32) (g_wo : Int64) (g_bd : Int32) (g_bp : Int32) (g_fa : Int32) (g_fp : Int32) (g_lw : Int32) (g_we : Int32) (g_cu : Int32) (g_go : Int32) (g_ba : Int32) (g_jo : Int32) (g_bt : Int64) (g_sb : Int32) (g_ab : Int32) (g_al : Int32) (li : Nat → Int32) (hs : Nat → Int32) (p0 : Int64) (h0 : 0 ≤ Int32.toInt (hs 0) ∧ Int32.toInt (hs 0) ≤ 13) : Met l yX9_isDay (wy yX9_isDay cX9_isDay 3 (some .boolean)) ({ frames := 1, cells := 0, slots := 0, locals := 40 }) (va_Pc [.ref (g 0), .long p0] (fun U => va_P (dC, dI) vwCl [((g 0), .inr (9, [.int g_th, .ref (g 1), .ref (g 2), .ref (g 3), .ref (g 4), .ref (g 5), .int g_tp, .int g_so, .int g_tk, .int g_pl, .int g_va, .long g_wo, .int g_bd, .int g_bp, .int g_fa, .int g_fp, .ref (g 6), .ref (g 7), .ref (g 8), .ref (g 9), .ref (g 10), .ref (g 11), .int g_lw, .int g_we, .int g_cu, .int g_go, .int g_ba, .ref (g 12), .ref (g 13), .int g_jo, .ref (g 14), .ref (g 15), .long g_bt, .int g_sb, .int g_ab, .int g_al, .ref (g 16), .ref (g 17)])), ((g 6), .inl (cI, 5, .inl li)), ((g 7), .inl (cI, 35, .inl hs))] U.heap ∧ va_K (dC, dI) vwCl (tyL cB cI cJ cZ cL) U ∧ NW U)) (vp_Si (fun r => (r = 1 ∧ (0 < Int32.toInt (li 0) ∧ 0 ≤ Int64.toInt p0 ∧ Int64.toInt p0 ≤ Int32.toInt (hs 0))) ∨ (r = 0 ∧ ¬ (0 < Int32.toInt (li 0) ∧ 0 ≤ Int64.toInt p0 ∧ Int64.toInt p0 ≤ Int32.toInt (hs 0))))) 0 0 (fun _ => False) := by
  refine Met.ofW (cc := cX9_isDay) (maxL := 3) (ret := (some .boolean)) (by decide) rfl ?_
  intro p e s m args below meth c s₁ B hml hv
  obtain ⟨rfl, hP, hK, hN⟩ := hv
  have hx := B.exec
  have hb := B.bytes
  have hr := B.returns
  have ht : ∀ w ∈ lw_ok, w.before _ s = true := fun w h => atoms_spec (ws := wy yX9_isDay cX9_isDay 3 (some .boolean)) B.pre w (List.mem_cons_of_mem _ h)
  have hown : s.vm.findClass RX9 = some m.cls := findClass_of_methodNamed B.named
  have hlocks := B.notSynchronized
  have hl := lv_entry ([.ref (g 0), .long p0]) (n := 3) (Nat.le_of_ble_eq_true rfl)
  rw [lg_entry_eq]
  generalize (lg_sl ([.ref (g 0), .long p0]) ++ List.replicate (3 - (lg_sl ([.ref (g 0), .long p0])).length) Slot.unset).toArray = ls at hl ⊢
  have hl : lv_has ls 3 [(0, .ref (g 0)), (1, .long p0)] := hl
  have hP : va_P (dC, dI) vwCl [((g 0), .inr (9, [.int g_th, .ref (g 1), .ref (g 2), .ref (g 3), .ref (g 4), .ref (g 5), .int g_tp, .int g_so, .int g_tk, .int g_pl, .int g_va, .long g_wo, .int g_bd, .int g_bp, .int g_fa, .int g_fp, .ref (g 6), .ref (g 7), .ref (g 8), .ref (g 9), .ref (g 10), .ref (g 11), .int g_lw, .int g_we, .int g_cu, .int g_go, .int g_ba, .ref (g 12), .ref (g 13), .int g_jo, .ref (g 14), .ref (g 15), .long g_bt, .int g_sb, .int g_ab, .int g_al, .ref (g 16), .ref (g 17)])), ((g 6), .inl (cI, 5, .inl li)), ((g 7), .inl (cI, 35, .inl hs))] s.heap := hP
  refine lv_aload_n hx hb dX9_isDay_0 rfl (lv_at hl 0 rfl) ?_
  have hPc := hP.sub (ws' := [((g 0), .inr (9, [.int g_th, .ref (g 1), .ref (g 2), .ref (g 3), .ref (g 4), .ref (g 5), .int g_tp, .int g_so, .int g_tk, .int g_pl, .int g_va, .long g_wo, .int g_bd, .int g_bp, .int g_fa, .int g_fp, .ref (g 6), .ref (g 7), .ref (g 8), .ref (g 9), .ref (g 10), .ref (g 11), .int g_lw, .int g_we, .int g_cu, .int g_go, .int g_ba, .ref (g 12), .ref (g 13), .int g_jo, .ref (g 14), .ref (g 15), .long g_bt, .int g_sb, .int g_ab, .int g_al, .ref (g 16), .ref (g 17)])), ((g 6), .inl (cI, 5, .inl li))]) [0, 1] rfl
  refine vp_callSi (W.runV (As := []) (rest := []) ⟨hx, hb, hml, hown, ht⟩ (s_X9_isWire l dC dI cB cI cJ cZ cL g g_th g_tp g_so g_tk g_pl g_va g_wo g_bd g_bp g_fa g_fp g_lw g_we g_cu g_go g_ba g_jo g_bt g_sb g_ab g_al li) (cwV 0 ht (gV w_1530 w_1532 w_68 w_114 w_1533) rfl rfl rfl (by decide +kernel) ⟨Nat.le_of_ble_eq_true rfl, Nat.le_of_ble_eq_true rfl⟩) (pVSn hN hK hPc (ci := 9) (q0 := 0) rfl rfl) rfl rfl hl.1 rfl (lv_room (Nat.le_of_ble_eq_true rfl)) dX9_isDay_1 ⟨Nat.le_of_ble_eq_true rfl, Nat.le_of_ble_eq_true rfl⟩) (fun r_1 hw => ?_)
  clear hPc
  (try dsimp only at hw)
  have hw_2 := hw
  clear hw
  rcases hw_2 with ⟨hw, c_3⟩ | ⟨hw, c_3⟩
  · subst hw
    refine lv_if_eq (tgt := 24) hx hb dX9_isDay_4 (by decide) (fun c9 => by first | exact absurd c9 (by decide) | exact absurd (by decide) c9) (fun _ => ?_)
    refine lv_lload_n hx hb dX9_isDay_7 rfl (lv_at hl 1 rfl) ?_
    refine lv_lconst (v := 0) hx hb dX9_isDay_8 (by decide) ?_
    refine lv_aload_n hx hb dX9_isDay_9 rfl (lv_at hl 0 rfl) ?_
    have hPc := hP.sub (ws' := [((g 0), .inr (9, [.int g_th, .ref (g 1), .ref (g 2), .ref (g 3), .ref (g 4), .ref (g 5), .int g_tp, .int g_so, .int g_tk, .int g_pl, .int g_va, .long g_wo, .int g_bd, .int g_bp, .int g_fa, .int g_fp, .ref (g 6), .ref (g 7), .ref (g 8), .ref (g 9), .ref (g 10), .ref (g 11), .int g_lw, .int g_we, .int g_cu, .int g_go, .int g_ba, .ref (g 12), .ref (g 13), .int g_jo, .ref (g 14), .ref (g 15), .long g_bt, .int g_sb, .int g_ab, .int g_al, .ref (g 16), .ref (g 17)])), ((g 7), .inl (cI, 35, .inl hs))]) [0, 2] rfl
    refine vp_callSi (W.runV (As := []) (rest := [.long 0, .long p0]) ⟨hx, hb, hml, hown, ht⟩ (s_X9_days l dC dI cB cI cJ cZ cL g g_th g_tp g_so g_tk g_pl g_va g_wo g_bd g_bp g_fa g_fp g_lw g_we g_cu g_go g_ba g_jo g_bt g_sb g_ab g_al hs) (cwV 0 ht (gV w_1550 w_1552 w_72 w_114 w_1553) rfl rfl rfl (by decide +kernel) ⟨Nat.le_of_ble_eq_true rfl, Nat.le_of_ble_eq_true rfl⟩) (pVSn hN hK hPc (ci := 9) (q0 := 0) rfl rfl) rfl rfl hl.1 rfl (lv_room (Nat.le_of_ble_eq_true rfl)) dX9_isDay_10 ⟨Nat.le_of_ble_eq_true rfl, Nat.le_of_ble_eq_true rfl⟩) (fun r_4 hw => ?_)
    clear hPc
    (try dsimp only at hw)
    have hw_5 := hw
    clear hw
    refine lv_i2l hx hb dX9_isDay_13 rfl ?_
    refine lv_topl (fun y_6 ey_6 => ?_)
    have ty_6 := i2lF ey_6
    clear ey_6
    have hPc := hP.sub (ws' := []) [] rfl
    refine vp_callSi (W.runS (As := [.long p0, .long 0, .long y_6]) (rest := []) ⟨hx, hb, hml, hown, ht⟩ (s_X9_in l dC dI cB cI cJ cZ cL p0 0 y_6) (va_cwS 3 ht (gQ w_1386 w_1387 w_114 w_1388) rfl rfl rfl (by decide +kernel) ⟨Nat.le_of_ble_eq_true rfl, Nat.le_of_ble_eq_true rfl⟩) (pSSn hN hK hPc) rfl rfl hl.1 rfl (lv_room (Nat.le_of_ble_eq_true rfl)) dX9_isDay_14 ⟨Nat.le_of_ble_eq_true rfl, Nat.le_of_ble_eq_true rfl⟩) (fun r_7 hw => ?_)
    clear hPc
    (try dsimp only at hw)
    have hw_8 := hw
    clear hw
    (try simp only [L0] at hw_8)
    rcases hw_8 with ⟨hw, c_9⟩ | ⟨hw, c_9⟩
    · subst hw
      refine lv_if_eq (tgt := 24) hx hb dX9_isDay_17 (by decide) (fun c9 => by first | exact absurd c9 (by decide) | exact absurd (by decide) c9) (fun _ => ?_)
      refine lv_iconst (v := 1) hx hb dX9_isDay_20 (by decide) ?_
      refine lv_goto (tgt := 25) hx hb dX9_isDay_21 (by decide) ?_
      exact W.zret (v := 1) hx hb hr (rfl) (fun t ht hW => ⟨1, rfl, (by first | exact Or.inl ⟨rfl, by omega⟩ | exact Or.inr ⟨rfl, by omega⟩), ht⟩) (fun q h => absurd h List.not_mem_nil) dX9_isDay_25
    · subst hw
      refine lv_if_eq (tgt := 24) hx hb dX9_isDay_17 (by decide) (fun _ => ?_) (fun c9 => by first | exact absurd (by decide) c9 | exact absurd c9 (by decide))
      refine lv_iconst (v := 0) hx hb dX9_isDay_24 (by decide) ?_
      exact W.zret (v := 0) hx hb hr (rfl) (fun t ht hW => ⟨0, rfl, (by first | exact Or.inl ⟨rfl, by omega⟩ | exact Or.inr ⟨rfl, by omega⟩), ht⟩) (fun q h => absurd h List.not_mem_nil) dX9_isDay_25
  · subst hw
    refine lv_if_eq (tgt := 24) hx hb dX9_isDay_4 (by decide) (fun _ => ?_) (fun c9 => by first | exact absurd (by decide) c9 | exact absurd c9 (by decide))
    refine lv_iconst (v := 0) hx hb dX9_isDay_24 (by decide) ?_
    exact W.zret (v := 0) hx hb hr (rfl) (fun t ht hW => ⟨0, rfl, (by first | exact Or.inl ⟨rfl, by omega⟩ | exact Or.inr ⟨rfl, by omega⟩), ht⟩) (fun q h => absurd h List.not_mem_nil) dX9_isDay_25
set_option maxHeartbeats 8000000 in
set_option maxRecDepth 100000 in
theorem s_X9_isOf (l : Launch) (dC : Nat → ClassId) (dI : Nat → Nat → Nat) (cB cI cJ cZ cL : ClassId) (g : Nat → Nat) (g_th : Int32) (g_tp : Int32) (g_so : Int32) (g_tk : Int32) (g_pl : Int32) (g_va : Int32) (g_wo : Int64) (g_bd : Int32) (g_bp : Int32) (g_fa : Int32) (g_fp : Int32) (g_lw : Int32) (g_we : Int32) (g_cu : Int32) (g_go : Int32) (g_ba : Int32) (g_jo : Int32) (g_bt : Int64) (g_sb : Int32) (g_ab : Int32) (g_al : Int32) (li : Nat → Int32) (hs : Nat → Int32) (p0 : Int32) (p1 : Int32) (p2 : Int32) (h0 : 0 ≤ Int32.toInt (hs 0) ∧ Int32.toInt (hs 0) ≤ 13) (h4 : 0 ≤ Int32.toInt (hs 4) ∧ Int32.toInt (hs 4) ≤ 5) : Met l yX9_isOf (wy yX9_isOf cX9_isOf 4 (some .boolean)) ({ frames := 2, cells := 0, slots := 0, locals := 80 }) (va_Pc [.ref (g 0), .int p0, .int p1, .int p2] (fun U => va_P (dC, dI) vwCl [((g 0), .inr (9, [.int g_th, .ref (g 1), .ref (g 2), .ref (g 3), .ref (g 4), .ref (g 5), .int g_tp, .int g_so, .int g_tk, .int g_pl, .int g_va, .long g_wo, .int g_bd, .int g_bp, .int g_fa, .int g_fp, .ref (g 6), .ref (g 7), .ref (g 8), .ref (g 9), .ref (g 10), .ref (g 11), .int g_lw, .int g_we, .int g_cu, .int g_go, .int g_ba, .ref (g 12), .ref (g 13), .int g_jo, .ref (g 14), .ref (g 15), .long g_bt, .int g_sb, .int g_ab, .int g_al, .ref (g 16), .ref (g 17)])), ((g 6), .inl (cI, 5, .inl li)), ((g 7), .inl (cI, 35, .inl hs))] U.heap ∧ va_K (dC, dI) vwCl (tyL cB cI cJ cZ cL) U ∧ NW U)) (vp_Si (fun r => (r = 1 ∧ (0 ≤ Int32.toInt p0 ∧ Int32.toInt p0 < Int32.toInt (hs 4) ∧ 0 < Int32.toInt (li 0) ∧ 0 ≤ Int32.toInt p1 ∧ Int32.toInt p1 ≤ Int32.toInt (hs 0) ∧ 0 ≤ Int32.toInt p2 ∧ Int32.toInt p2 ≤ 1)) ∨ (r = 0 ∧ ¬ (0 ≤ Int32.toInt p0 ∧ Int32.toInt p0 < Int32.toInt (hs 4) ∧ 0 < Int32.toInt (li 0) ∧ 0 ≤ Int32.toInt p1 ∧ Int32.toInt p1 ≤ Int32.toInt (hs 0) ∧ 0 ≤ Int32.toInt p2 ∧ Int32.toInt p2 ≤ 1)))) 0 0 (fun _ => False) := by
  refine Met.ofW (cc := cX9_isOf) (maxL := 4) (ret := (some .boolean)) (by decide) rfl ?_
  intro p e s m args below meth c s₁ B hml hv
  obtain ⟨rfl, hP, hK, hN⟩ := hv
  have hx := B.exec
  have hb := B.bytes
  have hr := B.returns
  have ht : ∀ w ∈ lw_ok, w.before _ s = true := fun w h => atoms_spec (ws := wy yX9_isOf cX9_isOf 4 (some .boolean)) B.pre w (List.mem_cons_of_mem _ h)
  have hown : s.vm.findClass RX9 = some m.cls := findClass_of_methodNamed B.named
  have hlocks := B.notSynchronized
  have hl := lv_entry ([.ref (g 0), .int p0, .int p1, .int p2]) (n := 4) (Nat.le_of_ble_eq_true rfl)
  rw [lg_entry_eq]
  generalize (lg_sl ([.ref (g 0), .int p0, .int p1, .int p2]) ++ List.replicate (4 - (lg_sl ([.ref (g 0), .int p0, .int p1, .int p2])).length) Slot.unset).toArray = ls at hl ⊢
  have hl : lv_has ls 4 [(0, .ref (g 0)), (1, .int p0), (2, .int p1), (3, .int p2)] := hl
  have hP : va_P (dC, dI) vwCl [((g 0), .inr (9, [.int g_th, .ref (g 1), .ref (g 2), .ref (g 3), .ref (g 4), .ref (g 5), .int g_tp, .int g_so, .int g_tk, .int g_pl, .int g_va, .long g_wo, .int g_bd, .int g_bp, .int g_fa, .int g_fp, .ref (g 6), .ref (g 7), .ref (g 8), .ref (g 9), .ref (g 10), .ref (g 11), .int g_lw, .int g_we, .int g_cu, .int g_go, .int g_ba, .ref (g 12), .ref (g 13), .int g_jo, .ref (g 14), .ref (g 15), .long g_bt, .int g_sb, .int g_ab, .int g_al, .ref (g 16), .ref (g 17)])), ((g 6), .inl (cI, 5, .inl li)), ((g 7), .inl (cI, 35, .inl hs))] s.heap := hP
  have rg_p0 := rgI p0
  have rg_p1 := rgI p1
  have rg_p2 := rgI p2
  refine lv_aload_n hx hb dX9_isOf_0 rfl (lv_at hl 0 rfl) ?_
  refine lv_iload_n hx hb dX9_isOf_1 rfl (lv_at hl 1 rfl) ?_
  have hPc := hP.sub (ws' := [((g 0), .inr (9, [.int g_th, .ref (g 1), .ref (g 2), .ref (g 3), .ref (g 4), .ref (g 5), .int g_tp, .int g_so, .int g_tk, .int g_pl, .int g_va, .long g_wo, .int g_bd, .int g_bp, .int g_fa, .int g_fp, .ref (g 6), .ref (g 7), .ref (g 8), .ref (g 9), .ref (g 10), .ref (g 11), .int g_lw, .int g_we, .int g_cu, .int g_go, .int g_ba, .ref (g 12), .ref (g 13), .int g_jo, .ref (g 14), .ref (g 15), .long g_bt, .int g_sb, .int g_ab, .int g_al, .ref (g 16), .ref (g 17)])), ((g 7), .inl (cI, 35, .inl hs))]) [0, 2] rfl
  refine vp_callSi (W.runV (As := [.int p0]) (rest := []) ⟨hx, hb, hml, hown, ht⟩ (s_X9_isSpan l dC dI cB cI cJ cZ cL g g_th g_tp g_so g_tk g_pl g_va g_wo g_bd g_bp g_fa g_fp g_lw g_we g_cu g_go g_ba g_jo g_bt g_sb g_ab g_al hs p0 (by first | assumption | omega | decide | (simp only [T0, T1, T2, T3, Tm1]; omega))) (cwV 1 ht (gV w_1517 w_1519 w_66 w_114 w_1520) rfl rfl rfl (by decide +kernel) ⟨Nat.le_of_ble_eq_true rfl, Nat.le_of_ble_eq_true rfl⟩) (pVSn hN hK hPc (ci := 9) (q0 := 0) rfl rfl) rfl rfl hl.1 rfl (lv_room (Nat.le_of_ble_eq_true rfl)) dX9_isOf_2 ⟨Nat.le_of_ble_eq_true rfl, Nat.le_of_ble_eq_true rfl⟩) (fun r_1 hw => ?_)
  clear hPc
  (try dsimp only at hw)
  have hw_2 := hw
  clear hw
  rcases hw_2 with ⟨hw, c_3⟩ | ⟨hw, c_3⟩
  · subst hw
    refine lv_if_eq (tgt := 28) hx hb dX9_isOf_5 (by decide) (fun c9 => by first | exact absurd c9 (by decide) | exact absurd (by decide) c9) (fun _ => ?_)
    refine lv_aload_n hx hb dX9_isOf_8 rfl (lv_at hl 0 rfl) ?_
    refine lv_iload_n hx hb dX9_isOf_9 rfl (lv_at hl 2 rfl) ?_
    refine lv_i2l hx hb dX9_isOf_10 rfl ?_
    refine lv_topl (fun y_4 ey_4 => ?_)
    have ty_4 := i2lF ey_4
    clear ey_4
    have hPc := hP.sub (ws' := [((g 0), .inr (9, [.int g_th, .ref (g 1), .ref (g 2), .ref (g 3), .ref (g 4), .ref (g 5), .int g_tp, .int g_so, .int g_tk, .int g_pl, .int g_va, .long g_wo, .int g_bd, .int g_bp, .int g_fa, .int g_fp, .ref (g 6), .ref (g 7), .ref (g 8), .ref (g 9), .ref (g 10), .ref (g 11), .int g_lw, .int g_we, .int g_cu, .int g_go, .int g_ba, .ref (g 12), .ref (g 13), .int g_jo, .ref (g 14), .ref (g 15), .long g_bt, .int g_sb, .int g_ab, .int g_al, .ref (g 16), .ref (g 17)])), ((g 6), .inl (cI, 5, .inl li)), ((g 7), .inl (cI, 35, .inl hs))]) [0, 1, 2] rfl
    refine vp_callSi (W.runV (As := [.long y_4]) (rest := []) ⟨hx, hb, hml, hown, ht⟩ (s_X9_isDay l dC dI cB cI cJ cZ cL g g_th g_tp g_so g_tk g_pl g_va g_wo g_bd g_bp g_fa g_fp g_lw g_we g_cu g_go g_ba g_jo g_bt g_sb g_ab g_al li hs y_4 (by first | assumption | omega | decide | (simp only [T0, T1, T2, T3, Tm1]; omega))) (cwV 1 ht (gV w_1558 w_1560 w_73 w_114 w_1561) rfl rfl rfl (by decide +kernel) ⟨Nat.le_of_ble_eq_true rfl, Nat.le_of_ble_eq_true rfl⟩) (pVSn hN hK hPc (ci := 9) (q0 := 0) rfl rfl) rfl rfl hl.1 rfl (lv_room (Nat.le_of_ble_eq_true rfl)) dX9_isOf_11 ⟨Nat.le_of_ble_eq_true rfl, Nat.le_of_ble_eq_true rfl⟩) (fun r_5 hw => ?_)
    clear hPc
    (try dsimp only at hw)
    have hw_6 := hw
    clear hw
    rcases hw_6 with ⟨hw, c_7⟩ | ⟨hw, c_7⟩
    · subst hw
      refine lv_if_eq (tgt := 28) hx hb dX9_isOf_14 (by decide) (fun c9 => by first | exact absurd c9 (by decide) | exact absurd (by decide) c9) (fun _ => ?_)
      refine lv_iload_n hx hb dX9_isOf_17 rfl (lv_at hl 3 rfl) ?_
      have hPc := hP.sub (ws' := []) [] rfl
      refine vp_callSi (W.runS (As := [.int p2]) (rest := []) ⟨hx, hb, hml, hown, ht⟩ (s_X9_isHalf l dC dI cB cI cJ cZ cL p2) (va_cwS 1 ht (gQ w_1592 w_1593 w_114 w_1594) rfl rfl rfl (by decide +kernel) ⟨Nat.le_of_ble_eq_true rfl, Nat.le_of_ble_eq_true rfl⟩) (pSSn hN hK hPc) rfl rfl hl.1 rfl (lv_room (Nat.le_of_ble_eq_true rfl)) dX9_isOf_18 ⟨Nat.le_of_ble_eq_true rfl, Nat.le_of_ble_eq_true rfl⟩) (fun r_8 hw => ?_)
      clear hPc
      (try dsimp only at hw)
      have hw_9 := hw
      clear hw
      rcases hw_9 with ⟨hw, c_10⟩ | ⟨hw, c_10⟩
      · subst hw
        refine lv_if_eq (tgt := 28) hx hb dX9_isOf_21 (by decide) (fun c9 => by first | exact absurd c9 (by decide) | exact absurd (by decide) c9) (fun _ => ?_)
        refine lv_iconst (v := 1) hx hb dX9_isOf_24 (by decide) ?_
        refine lv_goto (tgt := 29) hx hb dX9_isOf_25 (by decide) ?_
        exact W.zret (v := 1) hx hb hr (rfl) (fun t ht hW => ⟨1, rfl, (by first | exact Or.inl ⟨rfl, by omega⟩ | exact Or.inr ⟨rfl, by omega⟩), ht⟩) (fun q h => absurd h List.not_mem_nil) dX9_isOf_29
      · subst hw
        refine lv_if_eq (tgt := 28) hx hb dX9_isOf_21 (by decide) (fun _ => ?_) (fun c9 => by first | exact absurd (by decide) c9 | exact absurd c9 (by decide))
        refine lv_iconst (v := 0) hx hb dX9_isOf_28 (by decide) ?_
        exact W.zret (v := 0) hx hb hr (rfl) (fun t ht hW => ⟨0, rfl, (by first | exact Or.inl ⟨rfl, by omega⟩ | exact Or.inr ⟨rfl, by omega⟩), ht⟩) (fun q h => absurd h List.not_mem_nil) dX9_isOf_29
    · subst hw
      refine lv_if_eq (tgt := 28) hx hb dX9_isOf_14 (by decide) (fun _ => ?_) (fun c9 => by first | exact absurd (by decide) c9 | exact absurd c9 (by decide))
      refine lv_iconst (v := 0) hx hb dX9_isOf_28 (by decide) ?_
      exact W.zret (v := 0) hx hb hr (rfl) (fun t ht hW => ⟨0, rfl, (by first | exact Or.inl ⟨rfl, by omega⟩ | exact Or.inr ⟨rfl, by omega⟩), ht⟩) (fun q h => absurd h List.not_mem_nil) dX9_isOf_29
  · subst hw
    refine lv_if_eq (tgt := 28) hx hb dX9_isOf_5 (by decide) (fun _ => ?_) (fun c9 => by first | exact absurd (by decide) c9 | exact absurd c9 (by decide))
    refine lv_iconst (v := 0) hx hb dX9_isOf_28 (by decide) ?_
    exact W.zret (v := 0) hx hb hr (rfl) (fun t ht hW => ⟨0, rfl, (by first | exact Or.inl ⟨rfl, by omega⟩ | exact Or.inr ⟨rfl, by omega⟩), ht⟩) (fun q h => absurd h List.not_mem_nil) dX9_isOf_29
set_option maxHeartbeats 8000000 in
set_option maxRecDepth 100000 in
theorem s_X9_areTwo (l : Launch) (dC : Nat → ClassId) (dI : Nat → Nat → Nat) (cB cI cJ cZ cL : ClassId) (g : Nat → Nat) (g_th : Int32) (g_tp : Int32) (g_so : Int32) (g_tk : Int32) (g_pl : Int32) (g_va : Int32) (g_wo : Int64) (g_bd : Int32) (g_bp : Int32) (g_fa : Int32) (g_fp : Int32) (g_lw : Int32) (g_we : Int32) (g_cu : Int32) (g_go : Int32) (g_ba : Int32) (g_jo : Int32) (g_bt : Int64) (g_sb : Int32) (g_ab : Int32) (g_al : Int32) (hs : Nat → Int32) (p0 : Int32) (p1 : Int32) (h4 : 0 ≤ Int32.toInt (hs 4) ∧ Int32.toInt (hs 4) ≤ 5) : Met l yX9_areTwo (wy yX9_areTwo cX9_areTwo 3 (some .boolean)) ({ frames := 2, cells := 0, slots := 0, locals := 80 }) (va_Pc [.ref (g 0), .int p0, .int p1] (fun U => va_P (dC, dI) vwCl [((g 0), .inr (9, [.int g_th, .ref (g 1), .ref (g 2), .ref (g 3), .ref (g 4), .ref (g 5), .int g_tp, .int g_so, .int g_tk, .int g_pl, .int g_va, .long g_wo, .int g_bd, .int g_bp, .int g_fa, .int g_fp, .ref (g 6), .ref (g 7), .ref (g 8), .ref (g 9), .ref (g 10), .ref (g 11), .int g_lw, .int g_we, .int g_cu, .int g_go, .int g_ba, .ref (g 12), .ref (g 13), .int g_jo, .ref (g 14), .ref (g 15), .long g_bt, .int g_sb, .int g_ab, .int g_al, .ref (g 16), .ref (g 17)])), ((g 7), .inl (cI, 35, .inl hs))] U.heap ∧ va_K (dC, dI) vwCl (tyL cB cI cJ cZ cL) U ∧ NW U)) (vp_Si (fun r => (r = 1 ∧ (0 ≤ Int32.toInt p0 ∧ Int32.toInt p0 < Int32.toInt (hs 4) ∧ 0 ≤ Int32.toInt p1 ∧ Int32.toInt p1 < Int32.toInt (hs 4))) ∨ r = 0)) 0 0 (fun _ => False) := by
  refine Met.ofW (cc := cX9_areTwo) (maxL := 3) (ret := (some .boolean)) (by decide) rfl ?_
  intro p e s m args below meth c s₁ B hml hv
  obtain ⟨rfl, hP, hK, hN⟩ := hv
  have hx := B.exec
  have hb := B.bytes
  have hr := B.returns
  have ht : ∀ w ∈ lw_ok, w.before _ s = true := fun w h => atoms_spec (ws := wy yX9_areTwo cX9_areTwo 3 (some .boolean)) B.pre w (List.mem_cons_of_mem _ h)
  have hown : s.vm.findClass RX9 = some m.cls := findClass_of_methodNamed B.named
  have hlocks := B.notSynchronized
  have hl := lv_entry ([.ref (g 0), .int p0, .int p1]) (n := 3) (Nat.le_of_ble_eq_true rfl)
  rw [lg_entry_eq]
  generalize (lg_sl ([.ref (g 0), .int p0, .int p1]) ++ List.replicate (3 - (lg_sl ([.ref (g 0), .int p0, .int p1])).length) Slot.unset).toArray = ls at hl ⊢
  have hl : lv_has ls 3 [(0, .ref (g 0)), (1, .int p0), (2, .int p1)] := hl
  have hP : va_P (dC, dI) vwCl [((g 0), .inr (9, [.int g_th, .ref (g 1), .ref (g 2), .ref (g 3), .ref (g 4), .ref (g 5), .int g_tp, .int g_so, .int g_tk, .int g_pl, .int g_va, .long g_wo, .int g_bd, .int g_bp, .int g_fa, .int g_fp, .ref (g 6), .ref (g 7), .ref (g 8), .ref (g 9), .ref (g 10), .ref (g 11), .int g_lw, .int g_we, .int g_cu, .int g_go, .int g_ba, .ref (g 12), .ref (g 13), .int g_jo, .ref (g 14), .ref (g 15), .long g_bt, .int g_sb, .int g_ab, .int g_al, .ref (g 16), .ref (g 17)])), ((g 7), .inl (cI, 35, .inl hs))] s.heap := hP
  have rg_p0 := rgI p0
  have rg_p1 := rgI p1
  refine lv_aload_n hx hb dX9_areTwo_0 rfl (lv_at hl 0 rfl) ?_
  refine lv_iload_n hx hb dX9_areTwo_1 rfl (lv_at hl 1 rfl) ?_
  have hPc := hP.sub (ws' := [((g 0), .inr (9, [.int g_th, .ref (g 1), .ref (g 2), .ref (g 3), .ref (g 4), .ref (g 5), .int g_tp, .int g_so, .int g_tk, .int g_pl, .int g_va, .long g_wo, .int g_bd, .int g_bp, .int g_fa, .int g_fp, .ref (g 6), .ref (g 7), .ref (g 8), .ref (g 9), .ref (g 10), .ref (g 11), .int g_lw, .int g_we, .int g_cu, .int g_go, .int g_ba, .ref (g 12), .ref (g 13), .int g_jo, .ref (g 14), .ref (g 15), .long g_bt, .int g_sb, .int g_ab, .int g_al, .ref (g 16), .ref (g 17)])), ((g 7), .inl (cI, 35, .inl hs))]) [0, 1] rfl
  refine vp_callSi (W.runV (As := [.int p0]) (rest := []) ⟨hx, hb, hml, hown, ht⟩ (s_X9_isSpan l dC dI cB cI cJ cZ cL g g_th g_tp g_so g_tk g_pl g_va g_wo g_bd g_bp g_fa g_fp g_lw g_we g_cu g_go g_ba g_jo g_bt g_sb g_ab g_al hs p0 (by first | assumption | omega | decide | (simp only [T0, T1, T2, T3, Tm1]; omega))) (cwV 1 ht (gV w_1517 w_1519 w_66 w_114 w_1520) rfl rfl rfl (by decide +kernel) ⟨Nat.le_of_ble_eq_true rfl, Nat.le_of_ble_eq_true rfl⟩) (pVSn hN hK hPc (ci := 9) (q0 := 0) rfl rfl) rfl rfl hl.1 rfl (lv_room (Nat.le_of_ble_eq_true rfl)) dX9_areTwo_2 ⟨Nat.le_of_ble_eq_true rfl, Nat.le_of_ble_eq_true rfl⟩) (fun r_1 hw => ?_)
  clear hPc
  (try dsimp only at hw)
  have hw_2 := hw
  clear hw
  rcases hw_2 with ⟨hw, c_3⟩ | ⟨hw, c_3⟩
  · subst hw
    refine lv_if_eq (tgt := 25) hx hb dX9_areTwo_5 (by decide) (fun c9 => by first | exact absurd c9 (by decide) | exact absurd (by decide) c9) (fun _ => ?_)
    refine lv_aload_n hx hb dX9_areTwo_8 rfl (lv_at hl 0 rfl) ?_
    refine lv_iload_n hx hb dX9_areTwo_9 rfl (lv_at hl 2 rfl) ?_
    have hPc := hP.sub (ws' := [((g 0), .inr (9, [.int g_th, .ref (g 1), .ref (g 2), .ref (g 3), .ref (g 4), .ref (g 5), .int g_tp, .int g_so, .int g_tk, .int g_pl, .int g_va, .long g_wo, .int g_bd, .int g_bp, .int g_fa, .int g_fp, .ref (g 6), .ref (g 7), .ref (g 8), .ref (g 9), .ref (g 10), .ref (g 11), .int g_lw, .int g_we, .int g_cu, .int g_go, .int g_ba, .ref (g 12), .ref (g 13), .int g_jo, .ref (g 14), .ref (g 15), .long g_bt, .int g_sb, .int g_ab, .int g_al, .ref (g 16), .ref (g 17)])), ((g 7), .inl (cI, 35, .inl hs))]) [0, 1] rfl
    refine vp_callSi (W.runV (As := [.int p1]) (rest := []) ⟨hx, hb, hml, hown, ht⟩ (s_X9_isSpan l dC dI cB cI cJ cZ cL g g_th g_tp g_so g_tk g_pl g_va g_wo g_bd g_bp g_fa g_fp g_lw g_we g_cu g_go g_ba g_jo g_bt g_sb g_ab g_al hs p1 (by first | assumption | omega | decide | (simp only [T0, T1, T2, T3, Tm1]; omega))) (cwV 1 ht (gV w_1517 w_1519 w_66 w_114 w_1520) rfl rfl rfl (by decide +kernel) ⟨Nat.le_of_ble_eq_true rfl, Nat.le_of_ble_eq_true rfl⟩) (pVSn hN hK hPc (ci := 9) (q0 := 0) rfl rfl) rfl rfl hl.1 rfl (lv_room (Nat.le_of_ble_eq_true rfl)) dX9_areTwo_10 ⟨Nat.le_of_ble_eq_true rfl, Nat.le_of_ble_eq_true rfl⟩) (fun r_4 hw => ?_)
    clear hPc
    (try dsimp only at hw)
    have hw_5 := hw
    clear hw
    rcases hw_5 with ⟨hw, c_6⟩ | ⟨hw, c_6⟩
    · subst hw
      refine lv_if_eq (tgt := 25) hx hb dX9_areTwo_13 (by decide) (fun c9 => by first | exact absurd c9 (by decide) | exact absurd (by decide) c9) (fun _ => ?_)
      refine lv_iload_n hx hb dX9_areTwo_16 rfl (lv_at hl 1 rfl) ?_
      refine lv_iload_n hx hb dX9_areTwo_17 rfl (lv_at hl 2 rfl) ?_
      refine lv_icmp_eq (tgt := 25) hx hb dX9_areTwo_18 (by decide) (fun c_7 => ?_) (fun c_7 => ?_)
      · (try simp only [i_lt, i_le, i_eq] at c_7)
        refine lv_iconst (v := 0) hx hb dX9_areTwo_25 (by decide) ?_
        exact W.zret (v := 0) hx hb hr (rfl) (fun t ht hW => ⟨0, rfl, (by first | exact Or.inl ⟨rfl, by omega⟩ | exact Or.inr rfl), ht⟩) (fun q h => absurd h List.not_mem_nil) dX9_areTwo_26
      · (try simp only [i_lt, i_le, i_eq] at c_7)
        refine lv_iconst (v := 1) hx hb dX9_areTwo_21 (by decide) ?_
        refine lv_goto (tgt := 26) hx hb dX9_areTwo_22 (by decide) ?_
        exact W.zret (v := 1) hx hb hr (rfl) (fun t ht hW => ⟨1, rfl, (by first | exact Or.inl ⟨rfl, by omega⟩ | exact Or.inr rfl), ht⟩) (fun q h => absurd h List.not_mem_nil) dX9_areTwo_26
    · subst hw
      refine lv_if_eq (tgt := 25) hx hb dX9_areTwo_13 (by decide) (fun _ => ?_) (fun c9 => by first | exact absurd (by decide) c9 | exact absurd c9 (by decide))
      refine lv_iconst (v := 0) hx hb dX9_areTwo_25 (by decide) ?_
      exact W.zret (v := 0) hx hb hr (rfl) (fun t ht hW => ⟨0, rfl, (by first | exact Or.inl ⟨rfl, by omega⟩ | exact Or.inr rfl), ht⟩) (fun q h => absurd h List.not_mem_nil) dX9_areTwo_26
  · subst hw
    refine lv_if_eq (tgt := 25) hx hb dX9_areTwo_5 (by decide) (fun _ => ?_) (fun c9 => by first | exact absurd (by decide) c9 | exact absurd c9 (by decide))
    refine lv_iconst (v := 0) hx hb dX9_areTwo_25 (by decide) ?_
    exact W.zret (v := 0) hx hb hr (rfl) (fun t ht hW => ⟨0, rfl, (by first | exact Or.inl ⟨rfl, by omega⟩ | exact Or.inr rfl), ht⟩) (fun q h => absurd h List.not_mem_nil) dX9_areTwo_26
set_option maxHeartbeats 8000000 in
set_option maxRecDepth 100000 in
theorem s_X9_isSoon (l : Launch) (dC : Nat → ClassId) (dI : Nat → Nat → Nat) (cB cI cJ cZ cL : ClassId) (g : Nat → Nat) (g_th : Int32) (g_tp : Int32) (g_so : Int32) (g_tk : Int32) (g_pl : Int32) (g_va : Int32) (g_wo : Int64) (g_bd : Int32) (g_bp : Int32) (g_fa : Int32) (g_fp : Int32) (g_lw : Int32) (g_we : Int32) (g_cu : Int32) (g_go : Int32) (g_ba : Int32) (g_jo : Int32) (g_bt : Int64) (g_sb : Int32) (g_ab : Int32) (g_al : Int32) (li : Nat → Int32) (hs : Nat → Int32) (p0 : Int32) (h0 : 0 ≤ Int32.toInt (hs 0) ∧ Int32.toInt (hs 0) ≤ 13) : Met l yX9_isSoon (wy yX9_isSoon cX9_isSoon 2 (some .boolean)) ({ frames := 2, cells := 0, slots := 0, locals := 80 }) (va_Pc [.ref (g 0), .int p0] (fun U => va_P (dC, dI) vwCl [((g 0), .inr (9, [.int g_th, .ref (g 1), .ref (g 2), .ref (g 3), .ref (g 4), .ref (g 5), .int g_tp, .int g_so, .int g_tk, .int g_pl, .int g_va, .long g_wo, .int g_bd, .int g_bp, .int g_fa, .int g_fp, .ref (g 6), .ref (g 7), .ref (g 8), .ref (g 9), .ref (g 10), .ref (g 11), .int g_lw, .int g_we, .int g_cu, .int g_go, .int g_ba, .ref (g 12), .ref (g 13), .int g_jo, .ref (g 14), .ref (g 15), .long g_bt, .int g_sb, .int g_ab, .int g_al, .ref (g 16), .ref (g 17)])), ((g 6), .inl (cI, 5, .inl li)), ((g 7), .inl (cI, 35, .inl hs))] U.heap ∧ va_K (dC, dI) vwCl (tyL cB cI cJ cZ cL) U ∧ NW U)) (vp_Si (fun r => (r = 1 ∧ (0 < Int32.toInt (li 0) ∧ 0 ≤ Int32.toInt p0 ∧ Int32.toInt p0 ≤ Int32.toInt (hs 0) ∧ Int32.toInt p0 < 8)) ∨ (r = 0 ∧ ¬ (0 < Int32.toInt (li 0) ∧ 0 ≤ Int32.toInt p0 ∧ Int32.toInt p0 ≤ Int32.toInt (hs 0) ∧ Int32.toInt p0 < 8)))) 0 0 (fun _ => False) := by
  refine Met.ofW (cc := cX9_isSoon) (maxL := 2) (ret := (some .boolean)) (by decide) rfl ?_
  intro p e s m args below meth c s₁ B hml hv
  obtain ⟨rfl, hP, hK, hN⟩ := hv
  have hx := B.exec
  have hb := B.bytes
  have hr := B.returns
  have ht : ∀ w ∈ lw_ok, w.before _ s = true := fun w h => atoms_spec (ws := wy yX9_isSoon cX9_isSoon 2 (some .boolean)) B.pre w (List.mem_cons_of_mem _ h)
  have hown : s.vm.findClass RX9 = some m.cls := findClass_of_methodNamed B.named
  have hlocks := B.notSynchronized
  have hl := lv_entry ([.ref (g 0), .int p0]) (n := 2) (Nat.le_of_ble_eq_true rfl)
  rw [lg_entry_eq]
  generalize (lg_sl ([.ref (g 0), .int p0]) ++ List.replicate (2 - (lg_sl ([.ref (g 0), .int p0])).length) Slot.unset).toArray = ls at hl ⊢
  have hl : lv_has ls 2 [(0, .ref (g 0)), (1, .int p0)] := hl
  have hP : va_P (dC, dI) vwCl [((g 0), .inr (9, [.int g_th, .ref (g 1), .ref (g 2), .ref (g 3), .ref (g 4), .ref (g 5), .int g_tp, .int g_so, .int g_tk, .int g_pl, .int g_va, .long g_wo, .int g_bd, .int g_bp, .int g_fa, .int g_fp, .ref (g 6), .ref (g 7), .ref (g 8), .ref (g 9), .ref (g 10), .ref (g 11), .int g_lw, .int g_we, .int g_cu, .int g_go, .int g_ba, .ref (g 12), .ref (g 13), .int g_jo, .ref (g 14), .ref (g 15), .long g_bt, .int g_sb, .int g_ab, .int g_al, .ref (g 16), .ref (g 17)])), ((g 6), .inl (cI, 5, .inl li)), ((g 7), .inl (cI, 35, .inl hs))] s.heap := hP
  have rg_p0 := rgI p0
  refine lv_aload_n hx hb dX9_isSoon_0 rfl (lv_at hl 0 rfl) ?_
  refine lv_iload_n hx hb dX9_isSoon_1 rfl (lv_at hl 1 rfl) ?_
  refine lv_i2l hx hb dX9_isSoon_2 rfl ?_
  refine lv_topl (fun y_1 ey_1 => ?_)
  have ty_1 := i2lF ey_1
  clear ey_1
  have hPc := hP.sub (ws' := [((g 0), .inr (9, [.int g_th, .ref (g 1), .ref (g 2), .ref (g 3), .ref (g 4), .ref (g 5), .int g_tp, .int g_so, .int g_tk, .int g_pl, .int g_va, .long g_wo, .int g_bd, .int g_bp, .int g_fa, .int g_fp, .ref (g 6), .ref (g 7), .ref (g 8), .ref (g 9), .ref (g 10), .ref (g 11), .int g_lw, .int g_we, .int g_cu, .int g_go, .int g_ba, .ref (g 12), .ref (g 13), .int g_jo, .ref (g 14), .ref (g 15), .long g_bt, .int g_sb, .int g_ab, .int g_al, .ref (g 16), .ref (g 17)])), ((g 6), .inl (cI, 5, .inl li)), ((g 7), .inl (cI, 35, .inl hs))]) [0, 1, 2] rfl
  refine vp_callSi (W.runV (As := [.long y_1]) (rest := []) ⟨hx, hb, hml, hown, ht⟩ (s_X9_isDay l dC dI cB cI cJ cZ cL g g_th g_tp g_so g_tk g_pl g_va g_wo g_bd g_bp g_fa g_fp g_lw g_we g_cu g_go g_ba g_jo g_bt g_sb g_ab g_al li hs y_1 (by first | assumption | omega | decide | (simp only [T0, T1, T2, T3, Tm1]; omega))) (cwV 1 ht (gV w_1558 w_1560 w_73 w_114 w_1561) rfl rfl rfl (by decide +kernel) ⟨Nat.le_of_ble_eq_true rfl, Nat.le_of_ble_eq_true rfl⟩) (pVSn hN hK hPc (ci := 9) (q0 := 0) rfl rfl) rfl rfl hl.1 rfl (lv_room (Nat.le_of_ble_eq_true rfl)) dX9_isSoon_3 ⟨Nat.le_of_ble_eq_true rfl, Nat.le_of_ble_eq_true rfl⟩) (fun r_2 hw => ?_)
  clear hPc
  (try dsimp only at hw)
  have hw_3 := hw
  clear hw
  rcases hw_3 with ⟨hw, c_4⟩ | ⟨hw, c_4⟩
  · subst hw
    refine lv_if_eq (tgt := 19) hx hb dX9_isSoon_6 (by decide) (fun c9 => by first | exact absurd c9 (by decide) | exact absurd (by decide) c9) (fun _ => ?_)
    refine lv_iload_n hx hb dX9_isSoon_9 rfl (lv_at hl 1 rfl) ?_
    refine lv_bipush (v := 8) hx hb dX9_isSoon_10 (by decide) ?_
    refine lv_icmp_ge (tgt := 19) hx hb dX9_isSoon_12 (by decide) (fun c_5 => ?_) (fun c_5 => ?_)
    · (try simp only [i_lt, i_le, i_eq, T8] at c_5)
      refine lv_iconst (v := 0) hx hb dX9_isSoon_19 (by decide) ?_
      exact W.zret (v := 0) hx hb hr (rfl) (fun t ht hW => ⟨0, rfl, (by first | exact Or.inl ⟨rfl, by omega⟩ | exact Or.inr ⟨rfl, by omega⟩), ht⟩) (fun q h => absurd h List.not_mem_nil) dX9_isSoon_20
    · (try simp only [i_lt, i_le, i_eq, T8] at c_5)
      refine lv_iconst (v := 1) hx hb dX9_isSoon_15 (by decide) ?_
      refine lv_goto (tgt := 20) hx hb dX9_isSoon_16 (by decide) ?_
      exact W.zret (v := 1) hx hb hr (rfl) (fun t ht hW => ⟨1, rfl, (by first | exact Or.inl ⟨rfl, by omega⟩ | exact Or.inr ⟨rfl, by omega⟩), ht⟩) (fun q h => absurd h List.not_mem_nil) dX9_isSoon_20
  · subst hw
    refine lv_if_eq (tgt := 19) hx hb dX9_isSoon_6 (by decide) (fun _ => ?_) (fun c9 => by first | exact absurd (by decide) c9 | exact absurd c9 (by decide))
    refine lv_iconst (v := 0) hx hb dX9_isSoon_19 (by decide) ?_
    exact W.zret (v := 0) hx hb hr (rfl) (fun t ht hW => ⟨0, rfl, (by first | exact Or.inl ⟨rfl, by omega⟩ | exact Or.inr ⟨rfl, by omega⟩), ht⟩) (fun q h => absurd h List.not_mem_nil) dX9_isSoon_20
set_option maxHeartbeats 8000000 in
set_option maxRecDepth 100000 in
theorem s_X9_sizeOf (l : Launch) (dC : Nat → ClassId) (dI : Nat → Nat → Nat) (cB cI cJ cZ cL : ClassId)   (p0 : Int32)  : Met l yX9_sizeOf (wy yX9_sizeOf cX9_sizeOf 3 (some .int)) ({ frames := 0, cells := 0, slots := 0, locals := 0 }) (va_Pc [.int p0] (fun U => va_P (dC, dI) vwCl [] U.heap ∧ va_K (dC, dI) vwCl (tyL cB cI cJ cZ cL) U ∧ NW U)) (vp_Si (fun r => (0 ≤ Int32.toInt p0 ∧ Int32.toInt p0 < 256) → (0 ≤ Int32.toInt r ∧ Int32.toInt r = pcn (Int32.toInt p0).toNat))) 0 0 (fun _ => False) := by
  refine Met.ofW (cc := cX9_sizeOf) (maxL := 3) (ret := (some .int)) (by decide) rfl ?_
  intro p e s m args below meth c s₁ B hml hv
  obtain ⟨rfl, hP, hK, hN⟩ := hv
  have hx := B.exec
  have hb := B.bytes
  have hr := B.returns
  have ht : ∀ w ∈ lw_ok, w.before _ s = true := fun w h => atoms_spec (ws := wy yX9_sizeOf cX9_sizeOf 3 (some .int)) B.pre w (List.mem_cons_of_mem _ h)
  have hown : s.vm.findClass RX9 = some m.cls := findClass_of_methodNamed B.named
  have hlocks := B.notSynchronized
  have hl := lv_entry ([.int p0]) (n := 3) (Nat.le_of_ble_eq_true rfl)
  rw [lg_entry_eq]
  generalize (lg_sl ([.int p0]) ++ List.replicate (3 - (lg_sl ([.int p0])).length) Slot.unset).toArray = ls at hl ⊢
  have hl : lv_has ls 3 [(0, .int p0)] := hl
  have hP : va_P (dC, dI) vwCl [] s.heap := hP
  have rg_p0 := rgI p0
  refine lv_iconst (v := 0) hx hb dX9_sizeOf_0 (by decide) ?_
  refine lv_istore_n (lv' := [(1, .int 0), (0, .int p0)]) hx hb dX9_sizeOf_1 rfl hl (by decide) rfl (fun ls hl => ?_)
  refine lv_iload_n hx hb dX9_sizeOf_2 rfl (lv_at hl 1 rfl) ?_
  refine lv_istore_n (lv' := [(2, .int p0), (1, .int 0), (0, .int p0)]) hx hb dX9_sizeOf_3 rfl hl (by decide) rfl (fun ls hl => ?_)
  have lp_10 : ∀ (d : Nat) (v_4 : Int32) (v_5 : Int32) (ls : Array Slot), ((SZI p0 v_5 v_4)) → ((v_5).toBitVec.toNat < d) → lv_has ls 3 [(2, .int v_5), (1, .int v_4), (0, .int p0)] → W p l e (headSpec (wy yX9_sizeOf cX9_sizeOf 3 (some .int)) ({ frames := 0, cells := 0, slots := 0, locals := 0 })).room s m ([.int p0] : List Value).toArray below meth c s.heap [] 0 0 (MQ below (vp_Si (fun r => (0 ≤ Int32.toInt p0 ∧ Int32.toInt p0 < 256) → (0 ≤ Int32.toInt r ∧ Int32.toInt r = pcn (Int32.toInt p0).toNat))) ([.int p0] : List Value).toArray s 0 0 (fun _ => False)) (F0 m 4 ls []) := by
    intro d
    induction d with
    | zero => intro v_4 v_5  ls hI hM; exfalso; exact absurd hM (Nat.not_lt_zero _)
    | succ d ih_11 =>
      intro v_4 v_5 ls hI hM hl
      have hI_12 := hI
      refine lv_iload_n hx hb dX9_sizeOf_4 rfl (lv_at hl 0 rfl) ?_
      refine lv_if_eq (tgt := 20) hx hb dX9_sizeOf_5 (by decide) (fun c_13 => ?_) (fun c_13 => ?_)
      · (try simp only [i_lt, i_le, i_eq, T0] at c_13)
        refine lv_iload_n hx hb dX9_sizeOf_20 rfl (lv_at hl 1 rfl) ?_
        exact W.iret (v := v_4) hx hb hr (fun t ht hW => ⟨v_4, rfl, (by intro hz; obtain ⟨z1, z2, z3, z4⟩ := hI_12 hz; have z5 : (Int32.toInt v_5).toNat = 0 := (by omega); rw [z5] at z4; have z6 : pcn 0 = 0 := (by decide); omega), ht⟩) (fun q h => absurd h List.not_mem_nil) dX9_sizeOf_21
      · (try simp only [i_lt, i_le, i_eq, T0] at c_13)
        obtain ⟨y_14, ey_14⟩ : ∃ z : Int32, z = v_4 + 1 := ⟨_, rfl⟩
        have ty_14 := iaddF ey_14
        simp only [T1] at ty_14
        refine lv_iinc (v := y_14) (lv' := [(1, .int y_14), (2, .int v_5), (0, .int p0)]) hx hb dX9_sizeOf_8 hl (k := 1) rfl (by rw [ey_14]; rfl) (by decide) rfl (fun ls hl => ?_)
        clear ey_14
        refine lv_iload_n hx hb dX9_sizeOf_11 rfl (lv_at hl 1 rfl) ?_
        refine lv_iload_n hx hb dX9_sizeOf_12 rfl (lv_at hl 1 rfl) ?_
        refine lv_iconst (v := 1) hx hb dX9_sizeOf_13 (by decide) ?_
        refine lv_isub hx hb dX9_sizeOf_14 ?_
        refine lv_topi (fun y_15 ey_15 => ?_)
        have ty_15 := isubF ey_15
        simp only [T1] at ty_15
        refine lv_iand hx hb dX9_sizeOf_15 ?_
        refine lv_topi (fun y_16 ey_16 => ?_)
        refine lv_istore_n (lv' := [(2, .int y_16), (1, .int y_14), (0, .int p0)]) hx hb dX9_sizeOf_16 rfl hl (by decide) rfl (fun ls hl => ?_)
        have hsz := SZI_step hI_12 ey_15 ey_16 (by omega) ty_14
        have hcl := (clr_nat ey_15 ey_16 (by omega)).1
        refine lv_goto (tgt := 4) hx hb dX9_sizeOf_17 (by decide) ?_
        exact ih_11 y_14 y_16 _ (by first | omega | assumption | decide | exact LK_0 | exact OM_0 | exact CE_0 | exact SZI_0 | exact CLR_0 | exact CP_0 | exact PV_0 | exact BV_0 (by assumption) (by omega) (by omega) | exact LK_mono (by assumption) (by omega) | exact OM_mono (by assumption) (by omega) | exact CE_mono (by assumption) (by omega) | exact CLR_mono (by assumption) (by omega) | exact CP_mono (by assumption) (by omega) | (have e0 := T0; have e1 := T1; have e2 := T2; have em1 := Tm1; omega)) (by omega) (lv_sub hl [0, 1, 2] rfl)
  exact lp_10 _ 0 p0 _ (by first | omega | assumption | decide | exact LK_0 | exact OM_0 | exact CE_0 | exact SZI_0 | exact CLR_0 | exact CP_0 | exact PV_0 | exact BV_0 (by assumption) (by omega) (by omega) | exact LK_mono (by assumption) (by omega) | exact OM_mono (by assumption) (by omega) | exact CE_mono (by assumption) (by omega) | exact CLR_mono (by assumption) (by omega) | exact CP_mono (by assumption) (by omega) | (have e0 := T0; have e1 := T1; have e2 := T2; have em1 := Tm1; omega)) (Nat.lt_succ_self _) (lv_sub hl [0, 1, 2] rfl)
set_option maxHeartbeats 8000000 in
set_option maxRecDepth 100000 in
theorem s_X9_lays (l : Launch) (dC : Nat → ClassId) (dI : Nat → Nat → Nat) (cB cI cJ cZ cL : ClassId) (sz : Nat) (g : Nat → Nat) (g_th : Int32) (g_tp : Int32) (g_so : Int32) (g_tk : Int32) (g_pl : Int32) (g_va : Int32) (g_wo : Int64) (g_bd : Int32) (g_bp : Int32) (g_fa : Int32) (g_fp : Int32) (g_lw : Int32) (g_we : Int32) (g_cu : Int32) (g_go : Int32) (g_ba : Int32) (g_jo : Int32) (g_bt : Int64) (g_sb : Int32) (g_ab : Int32) (g_al : Int32) (hs : Nat → Int32) (sp : Nat → Int32) (wt : Nat → Int32) (om : Nat → Int32) (lk : Nat → Int32)  (h0 : 0 ≤ Int32.toInt (hs 0) ∧ Int32.toInt (hs 0) ≤ 13) (h4 : 0 ≤ Int32.toInt (hs 4) ∧ Int32.toInt (hs 4) ≤ 5) (h5 : 0 ≤ Int32.toInt (hs 5) ∧ Int32.toInt (hs 5) ≤ 8) (hsp : SP 0 (Int32.toInt (hs 4)) sp) : Met l yX9_lays (wy yX9_lays cX9_lays 2 none) ({ frames := 1, cells := 0, slots := 0, locals := 40 }) (va_Pc [.ref (g 0)] (fun U => U.heap.size = sz ∧ va_P (dC, dI) vwCl [((g 0), .inr (9, [.int g_th, .ref (g 1), .ref (g 2), .ref (g 3), .ref (g 4), .ref (g 5), .int g_tp, .int g_so, .int g_tk, .int g_pl, .int g_va, .long g_wo, .int g_bd, .int g_bp, .int g_fa, .int g_fp, .ref (g 6), .ref (g 7), .ref (g 8), .ref (g 9), .ref (g 10), .ref (g 11), .int g_lw, .int g_we, .int g_cu, .int g_go, .int g_ba, .ref (g 12), .ref (g 13), .int g_jo, .ref (g 14), .ref (g 15), .long g_bt, .int g_sb, .int g_ab, .int g_al, .ref (g 16), .ref (g 17)])), ((g 7), .inl (cI, 35, .inl hs)), ((g 8), .inl (cI, 75, .inl sp)), ((g 9), .inl (cI, 40, .inl wt)), ((g 12), .inl (cI, 5, .inl om)), ((g 13), .inl (cI, 5, .inl lk))] U.heap ∧ va_K (dC, dI) vwCl (tyL cB cI cJ cZ cL) U ∧ va_D (fun _ => True) [((g 0), .inr (9, [.int g_th, .ref (g 1), .ref (g 2), .ref (g 3), .ref (g 4), .ref (g 5), .int g_tp, .int g_so, .int g_tk, .int g_pl, .int g_va, .long g_wo, .int g_bd, .int g_bp, .int g_fa, .int g_fp, .ref (g 6), .ref (g 7), .ref (g 8), .ref (g 9), .ref (g 10), .ref (g 11), .int g_lw, .int g_we, .int g_cu, .int g_go, .int g_ba, .ref (g 12), .ref (g 13), .int g_jo, .ref (g 14), .ref (g 15), .long g_bt, .int g_sb, .int g_ab, .int g_al, .ref (g 16), .ref (g 17)])), ((g 7), .inl (cI, 35, .inl hs)), ((g 8), .inl (cI, 75, .inl sp)), ((g 9), .inl (cI, 40, .inl wt)), ((g 12), .inl (cI, 5, .inl om)), ((g 13), .inl (cI, 5, .inl lk))] ∧ NW U)) (va_Qv (fun u => (LK (Int32.toInt (hs 4)) u.2.2.2.2.2.2) ∧ (OM (Int32.toInt (hs 4)) u.2.2.2.2.2.1)) (fun (u : (Int32) × (Int32) × (Int32) × (Int32) × (Int32) × (Nat → Int32) × (Nat → Int32)) t => va_P (dC, dI) vwCl [((g 0), .inr (9, [.int g_th, .ref (g 1), .ref (g 2), .ref (g 3), .ref (g 4), .ref (g 5), .int g_tp, .int g_so, .int g_tk, .int g_pl, .int g_va, .long g_wo, .int g_bd, .int g_bp, .int g_fa, .int g_fp, .ref (g 6), .ref (g 7), .ref (g 8), .ref (g 9), .ref (g 10), .ref (g 11), .int u.1, .int u.2.1, .int u.2.2.1, .int u.2.2.2.1, .int u.2.2.2.2.1, .ref (g 12), .ref (g 13), .int g_jo, .ref (g 14), .ref (g 15), .long g_bt, .int g_sb, .int g_ab, .int g_al, .ref (g 16), .ref (g 17)])), ((g 7), .inl (cI, 35, .inl hs)), ((g 8), .inl (cI, 75, .inl sp)), ((g 9), .inl (cI, 40, .inl wt)), ((g 12), .inl (cI, 5, .inl u.2.2.2.2.2.1)), ((g 13), .inl (cI, 5, .inl u.2.2.2.2.2.2))] t.heap ∧ va_D (va_A [((g 0), .inr (9, [.int g_th, .ref (g 1), .ref (g 2), .ref (g 3), .ref (g 4), .ref (g 5), .int g_tp, .int g_so, .int g_tk, .int g_pl, .int g_va, .long g_wo, .int g_bd, .int g_bp, .int g_fa, .int g_fp, .ref (g 6), .ref (g 7), .ref (g 8), .ref (g 9), .ref (g 10), .ref (g 11), .int g_lw, .int g_we, .int g_cu, .int g_go, .int g_ba, .ref (g 12), .ref (g 13), .int g_jo, .ref (g 14), .ref (g 15), .long g_bt, .int g_sb, .int g_ab, .int g_al, .ref (g 16), .ref (g 17)])), ((g 7), .inl (cI, 35, .inl hs)), ((g 8), .inl (cI, 75, .inl sp)), ((g 9), .inl (cI, 40, .inl wt)), ((g 12), .inl (cI, 5, .inl om)), ((g 13), .inl (cI, 5, .inl lk))] sz) [((g 0), .inr (9, [.int g_th, .ref (g 1), .ref (g 2), .ref (g 3), .ref (g 4), .ref (g 5), .int g_tp, .int g_so, .int g_tk, .int g_pl, .int g_va, .long g_wo, .int g_bd, .int g_bp, .int g_fa, .int g_fp, .ref (g 6), .ref (g 7), .ref (g 8), .ref (g 9), .ref (g 10), .ref (g 11), .int u.1, .int u.2.1, .int u.2.2.1, .int u.2.2.2.1, .int u.2.2.2.2.1, .ref (g 12), .ref (g 13), .int g_jo, .ref (g 14), .ref (g 15), .long g_bt, .int g_sb, .int g_ab, .int g_al, .ref (g 16), .ref (g 17)])), ((g 7), .inl (cI, 35, .inl hs)), ((g 8), .inl (cI, 75, .inl sp)), ((g 9), .inl (cI, 40, .inl wt)), ((g 12), .inl (cI, 5, .inl u.2.2.2.2.2.1)), ((g 13), .inl (cI, 5, .inl u.2.2.2.2.2.2))]) (va_A [((g 0), .inr (9, [.int g_th, .ref (g 1), .ref (g 2), .ref (g 3), .ref (g 4), .ref (g 5), .int g_tp, .int g_so, .int g_tk, .int g_pl, .int g_va, .long g_wo, .int g_bd, .int g_bp, .int g_fa, .int g_fp, .ref (g 6), .ref (g 7), .ref (g 8), .ref (g 9), .ref (g 10), .ref (g 11), .int g_lw, .int g_we, .int g_cu, .int g_go, .int g_ba, .ref (g 12), .ref (g 13), .int g_jo, .ref (g 14), .ref (g 15), .long g_bt, .int g_sb, .int g_ab, .int g_al, .ref (g 16), .ref (g 17)])), ((g 7), .inl (cI, 35, .inl hs)), ((g 8), .inl (cI, 75, .inl sp)), ((g 9), .inl (cI, 40, .inl wt)), ((g 12), .inl (cI, 5, .inl om)), ((g 13), .inl (cI, 5, .inl lk))] sz)) 0 0 (va_A [((g 0), .inr (9, [.int g_th, .ref (g 1), .ref (g 2), .ref (g 3), .ref (g 4), .ref (g 5), .int g_tp, .int g_so, .int g_tk, .int g_pl, .int g_va, .long g_wo, .int g_bd, .int g_bp, .int g_fa, .int g_fp, .ref (g 6), .ref (g 7), .ref (g 8), .ref (g 9), .ref (g 10), .ref (g 11), .int g_lw, .int g_we, .int g_cu, .int g_go, .int g_ba, .ref (g 12), .ref (g 13), .int g_jo, .ref (g 14), .ref (g 15), .long g_bt, .int g_sb, .int g_ab, .int g_al, .ref (g 16), .ref (g 17)])), ((g 7), .inl (cI, 35, .inl hs)), ((g 8), .inl (cI, 75, .inl sp)), ((g 9), .inl (cI, 40, .inl wt)), ((g 12), .inl (cI, 5, .inl om)), ((g 13), .inl (cI, 5, .inl lk))] sz) := by
  refine Met.ofW (cc := cX9_lays) (maxL := 2) (ret := none) (by decide) rfl ?_
  intro p e s m args below meth c s₁ B hml hv
  obtain ⟨rfl, hsz, hP, hK, hD0, hN⟩ := hv
  have hx := B.exec
  have hb := B.bytes
  have hr := B.returns
  have ht : ∀ w ∈ lw_ok, w.before _ s = true := fun w h => atoms_spec (ws := wy yX9_lays cX9_lays 2 none) B.pre w (List.mem_cons_of_mem _ h)
  have hown : s.vm.findClass RX9 = some m.cls := findClass_of_methodNamed B.named
  have hlocks := B.notSynchronized
  subst hsz
  have hD := hD0.self (sz := s.heap.size)
  generalize hAe : va_A [((g 0), .inr (9, [.int g_th, .ref (g 1), .ref (g 2), .ref (g 3), .ref (g 4), .ref (g 5), .int g_tp, .int g_so, .int g_tk, .int g_pl, .int g_va, .long g_wo, .int g_bd, .int g_bp, .int g_fa, .int g_fp, .ref (g 6), .ref (g 7), .ref (g 8), .ref (g 9), .ref (g 10), .ref (g 11), .int g_lw, .int g_we, .int g_cu, .int g_go, .int g_ba, .ref (g 12), .ref (g 13), .int g_jo, .ref (g 14), .ref (g 15), .long g_bt, .int g_sb, .int g_ab, .int g_al, .ref (g 16), .ref (g 17)])), ((g 7), .inl (cI, 35, .inl hs)), ((g 8), .inl (cI, 75, .inl sp)), ((g 9), .inl (cI, 40, .inl wt)), ((g 12), .inl (cI, 5, .inl om)), ((g 13), .inl (cI, 5, .inl lk))] s.heap.size = A at hD ⊢
  have hA : ∀ q : Nat, s.heap.size ≤ q → A q := fun q h => by rw [← hAe]; exact Or.inr h
  have hS : va_S A s.heap s.heap [] := va_S.rf
  clear hAe hD0
  have hl := lv_entry ([.ref (g 0)]) (n := 2) (Nat.le_of_ble_eq_true rfl)
  rw [lg_entry_eq]
  generalize (lg_sl ([.ref (g 0)]) ++ List.replicate (2 - (lg_sl ([.ref (g 0)])).length) Slot.unset).toArray = ls at hl ⊢
  have hl : lv_has ls 2 [(0, .ref (g 0))] := hl
  have hP : va_P (dC, dI) vwCl [((g 0), .inr (9, [.int g_th, .ref (g 1), .ref (g 2), .ref (g 3), .ref (g 4), .ref (g 5), .int g_tp, .int g_so, .int g_tk, .int g_pl, .int g_va, .long g_wo, .int g_bd, .int g_bp, .int g_fa, .int g_fp, .ref (g 6), .ref (g 7), .ref (g 8), .ref (g 9), .ref (g 10), .ref (g 11), .int g_lw, .int g_we, .int g_cu, .int g_go, .int g_ba, .ref (g 12), .ref (g 13), .int g_jo, .ref (g 14), .ref (g 15), .long g_bt, .int g_sb, .int g_ab, .int g_al, .ref (g 16), .ref (g 17)])), ((g 7), .inl (cI, 35, .inl hs)), ((g 8), .inl (cI, 75, .inl sp)), ((g 9), .inl (cI, 40, .inl wt)), ((g 12), .inl (cI, 5, .inl om)), ((g 13), .inl (cI, 5, .inl lk))] s.heap := hP
  have hD : va_D A [((g 0), .inr (9, [.int g_th, .ref (g 1), .ref (g 2), .ref (g 3), .ref (g 4), .ref (g 5), .int g_tp, .int g_so, .int g_tk, .int g_pl, .int g_va, .long g_wo, .int g_bd, .int g_bp, .int g_fa, .int g_fp, .ref (g 6), .ref (g 7), .ref (g 8), .ref (g 9), .ref (g 10), .ref (g 11), .int g_lw, .int g_we, .int g_cu, .int g_go, .int g_ba, .ref (g 12), .ref (g 13), .int g_jo, .ref (g 14), .ref (g 15), .long g_bt, .int g_sb, .int g_ab, .int g_al, .ref (g 16), .ref (g 17)])), ((g 7), .inl (cI, 35, .inl hs)), ((g 8), .inl (cI, 75, .inl sp)), ((g 9), .inl (cI, 40, .inl wt)), ((g 12), .inl (cI, 5, .inl om)), ((g 13), .inl (cI, 5, .inl lk))] := hD
  refine lv_aload_n hx hb dX9_lays_0 rfl (lv_at hl 0 rfl) ?_
  refine lv_aload_n hx hb dX9_lays_1 rfl (lv_at hl 0 rfl) ?_
  refine va_get (D := (dC, dI)) (ci := 9) (v := .ref (g 7)) (C := RX9) (T := TX9) (N := 38) hx hb ht iX9 hown hK hP 0 rfl rfl 17 (by decide) (ht _ w_1279) (fun _ h9 => h9) rfl dX9_lays_2 ?_
  refine lv_iconst (v := 1) hx hb dX9_lays_5 (by decide) ?_
  refine va_iald hx hb hK hP 1 1 rfl rfl (by unfold vp_in; decide) dX9_lays_6 ?_
  refine lv_topi (fun y_1 ey_1 => ?_)
  have qy_1 : Int32.toInt y_1 = Int32.toInt (hs 1) := congrArg Int32.toInt ey_1
  refine va_put (D := (dC, dI)) (ci := 9) (v := .int y_1) (ty := .int) (C := RX9) (T := TX9) (N := 38) hx hb ht iX9 tyX9 tyX9_ok nmX9 hown hK hP hD hS 0 rfl rfl 22 (by decide) (ht _ w_1284) (fun _ h9 => h9) rfl (by decide +kernel) rfl rfl (Nat.le_of_ble_eq_true rfl) dX9_lays_7 (fun H locs hP hD hS => ?_)
  have hP : va_P (dC, dI) vwCl [((g 0), .inr (9, [.int g_th, .ref (g 1), .ref (g 2), .ref (g 3), .ref (g 4), .ref (g 5), .int g_tp, .int g_so, .int g_tk, .int g_pl, .int g_va, .long g_wo, .int g_bd, .int g_bp, .int g_fa, .int g_fp, .ref (g 6), .ref (g 7), .ref (g 8), .ref (g 9), .ref (g 10), .ref (g 11), .int y_1, .int g_we, .int g_cu, .int g_go, .int g_ba, .ref (g 12), .ref (g 13), .int g_jo, .ref (g 14), .ref (g 15), .long g_bt, .int g_sb, .int g_ab, .int g_al, .ref (g 16), .ref (g 17)])), ((g 7), .inl (cI, 35, .inl hs)), ((g 8), .inl (cI, 75, .inl sp)), ((g 9), .inl (cI, 40, .inl wt)), ((g 12), .inl (cI, 5, .inl om)), ((g 13), .inl (cI, 5, .inl lk))] H := hP
  have hD : va_D A [((g 0), .inr (9, [.int g_th, .ref (g 1), .ref (g 2), .ref (g 3), .ref (g 4), .ref (g 5), .int g_tp, .int g_so, .int g_tk, .int g_pl, .int g_va, .long g_wo, .int g_bd, .int g_bp, .int g_fa, .int g_fp, .ref (g 6), .ref (g 7), .ref (g 8), .ref (g 9), .ref (g 10), .ref (g 11), .int y_1, .int g_we, .int g_cu, .int g_go, .int g_ba, .ref (g 12), .ref (g 13), .int g_jo, .ref (g 14), .ref (g 15), .long g_bt, .int g_sb, .int g_ab, .int g_al, .ref (g 16), .ref (g 17)])), ((g 7), .inl (cI, 35, .inl hs)), ((g 8), .inl (cI, 75, .inl sp)), ((g 9), .inl (cI, 40, .inl wt)), ((g 12), .inl (cI, 5, .inl om)), ((g 13), .inl (cI, 5, .inl lk))] := hD
  refine lv_aload_n hx hb dX9_lays_10 rfl (lv_at hl 0 rfl) ?_
  refine lv_iconst (v := 0) hx hb dX9_lays_11 (by decide) ?_
  refine va_put (D := (dC, dI)) (ci := 9) (v := .int 0) (ty := .int) (C := RX9) (T := TX9) (N := 38) hx hb ht iX9 tyX9 tyX9_ok nmX9 hown hK hP hD hS 0 rfl rfl 23 (by decide) (ht _ w_1285) (fun _ h9 => h9) rfl (by decide +kernel) rfl rfl (Nat.le_of_ble_eq_true rfl) dX9_lays_12 (fun H locs hP hD hS => ?_)
  have hP : va_P (dC, dI) vwCl [((g 0), .inr (9, [.int g_th, .ref (g 1), .ref (g 2), .ref (g 3), .ref (g 4), .ref (g 5), .int g_tp, .int g_so, .int g_tk, .int g_pl, .int g_va, .long g_wo, .int g_bd, .int g_bp, .int g_fa, .int g_fp, .ref (g 6), .ref (g 7), .ref (g 8), .ref (g 9), .ref (g 10), .ref (g 11), .int y_1, .int 0, .int g_cu, .int g_go, .int g_ba, .ref (g 12), .ref (g 13), .int g_jo, .ref (g 14), .ref (g 15), .long g_bt, .int g_sb, .int g_ab, .int g_al, .ref (g 16), .ref (g 17)])), ((g 7), .inl (cI, 35, .inl hs)), ((g 8), .inl (cI, 75, .inl sp)), ((g 9), .inl (cI, 40, .inl wt)), ((g 12), .inl (cI, 5, .inl om)), ((g 13), .inl (cI, 5, .inl lk))] H := hP
  have hD : va_D A [((g 0), .inr (9, [.int g_th, .ref (g 1), .ref (g 2), .ref (g 3), .ref (g 4), .ref (g 5), .int g_tp, .int g_so, .int g_tk, .int g_pl, .int g_va, .long g_wo, .int g_bd, .int g_bp, .int g_fa, .int g_fp, .ref (g 6), .ref (g 7), .ref (g 8), .ref (g 9), .ref (g 10), .ref (g 11), .int y_1, .int 0, .int g_cu, .int g_go, .int g_ba, .ref (g 12), .ref (g 13), .int g_jo, .ref (g 14), .ref (g 15), .long g_bt, .int g_sb, .int g_ab, .int g_al, .ref (g 16), .ref (g 17)])), ((g 7), .inl (cI, 35, .inl hs)), ((g 8), .inl (cI, 75, .inl sp)), ((g 9), .inl (cI, 40, .inl wt)), ((g 12), .inl (cI, 5, .inl om)), ((g 13), .inl (cI, 5, .inl lk))] := hD
  refine lv_aload_n hx hb dX9_lays_15 rfl (lv_at hl 0 rfl) ?_
  refine lv_iconst (v := 0) hx hb dX9_lays_16 (by decide) ?_
  refine va_put (D := (dC, dI)) (ci := 9) (v := .int 0) (ty := .int) (C := RX9) (T := TX9) (N := 38) hx hb ht iX9 tyX9 tyX9_ok nmX9 hown hK hP hD hS 0 rfl rfl 24 (by decide) (ht _ w_1286) (fun _ h9 => h9) rfl (by decide +kernel) rfl rfl (Nat.le_of_ble_eq_true rfl) dX9_lays_17 (fun H locs hP hD hS => ?_)
  have hP : va_P (dC, dI) vwCl [((g 0), .inr (9, [.int g_th, .ref (g 1), .ref (g 2), .ref (g 3), .ref (g 4), .ref (g 5), .int g_tp, .int g_so, .int g_tk, .int g_pl, .int g_va, .long g_wo, .int g_bd, .int g_bp, .int g_fa, .int g_fp, .ref (g 6), .ref (g 7), .ref (g 8), .ref (g 9), .ref (g 10), .ref (g 11), .int y_1, .int 0, .int 0, .int g_go, .int g_ba, .ref (g 12), .ref (g 13), .int g_jo, .ref (g 14), .ref (g 15), .long g_bt, .int g_sb, .int g_ab, .int g_al, .ref (g 16), .ref (g 17)])), ((g 7), .inl (cI, 35, .inl hs)), ((g 8), .inl (cI, 75, .inl sp)), ((g 9), .inl (cI, 40, .inl wt)), ((g 12), .inl (cI, 5, .inl om)), ((g 13), .inl (cI, 5, .inl lk))] H := hP
  have hD : va_D A [((g 0), .inr (9, [.int g_th, .ref (g 1), .ref (g 2), .ref (g 3), .ref (g 4), .ref (g 5), .int g_tp, .int g_so, .int g_tk, .int g_pl, .int g_va, .long g_wo, .int g_bd, .int g_bp, .int g_fa, .int g_fp, .ref (g 6), .ref (g 7), .ref (g 8), .ref (g 9), .ref (g 10), .ref (g 11), .int y_1, .int 0, .int 0, .int g_go, .int g_ba, .ref (g 12), .ref (g 13), .int g_jo, .ref (g 14), .ref (g 15), .long g_bt, .int g_sb, .int g_ab, .int g_al, .ref (g 16), .ref (g 17)])), ((g 7), .inl (cI, 35, .inl hs)), ((g 8), .inl (cI, 75, .inl sp)), ((g 9), .inl (cI, 40, .inl wt)), ((g 12), .inl (cI, 5, .inl om)), ((g 13), .inl (cI, 5, .inl lk))] := hD
  refine lv_aload_n hx hb dX9_lays_20 rfl (lv_at hl 0 rfl) ?_
  refine lv_iconst (v := 0) hx hb dX9_lays_21 (by decide) ?_
  refine va_put (D := (dC, dI)) (ci := 9) (v := .int 0) (ty := .int) (C := RX9) (T := TX9) (N := 38) hx hb ht iX9 tyX9 tyX9_ok nmX9 hown hK hP hD hS 0 rfl rfl 25 (by decide) (ht _ w_1287) (fun _ h9 => h9) rfl (by decide +kernel) rfl rfl (Nat.le_of_ble_eq_true rfl) dX9_lays_22 (fun H locs hP hD hS => ?_)
  have hP : va_P (dC, dI) vwCl [((g 0), .inr (9, [.int g_th, .ref (g 1), .ref (g 2), .ref (g 3), .ref (g 4), .ref (g 5), .int g_tp, .int g_so, .int g_tk, .int g_pl, .int g_va, .long g_wo, .int g_bd, .int g_bp, .int g_fa, .int g_fp, .ref (g 6), .ref (g 7), .ref (g 8), .ref (g 9), .ref (g 10), .ref (g 11), .int y_1, .int 0, .int 0, .int 0, .int g_ba, .ref (g 12), .ref (g 13), .int g_jo, .ref (g 14), .ref (g 15), .long g_bt, .int g_sb, .int g_ab, .int g_al, .ref (g 16), .ref (g 17)])), ((g 7), .inl (cI, 35, .inl hs)), ((g 8), .inl (cI, 75, .inl sp)), ((g 9), .inl (cI, 40, .inl wt)), ((g 12), .inl (cI, 5, .inl om)), ((g 13), .inl (cI, 5, .inl lk))] H := hP
  have hD : va_D A [((g 0), .inr (9, [.int g_th, .ref (g 1), .ref (g 2), .ref (g 3), .ref (g 4), .ref (g 5), .int g_tp, .int g_so, .int g_tk, .int g_pl, .int g_va, .long g_wo, .int g_bd, .int g_bp, .int g_fa, .int g_fp, .ref (g 6), .ref (g 7), .ref (g 8), .ref (g 9), .ref (g 10), .ref (g 11), .int y_1, .int 0, .int 0, .int 0, .int g_ba, .ref (g 12), .ref (g 13), .int g_jo, .ref (g 14), .ref (g 15), .long g_bt, .int g_sb, .int g_ab, .int g_al, .ref (g 16), .ref (g 17)])), ((g 7), .inl (cI, 35, .inl hs)), ((g 8), .inl (cI, 75, .inl sp)), ((g 9), .inl (cI, 40, .inl wt)), ((g 12), .inl (cI, 5, .inl om)), ((g 13), .inl (cI, 5, .inl lk))] := hD
  refine lv_aload_n hx hb dX9_lays_25 rfl (lv_at hl 0 rfl) ?_
  refine lv_aload_n hx hb dX9_lays_26 rfl (lv_at hl 0 rfl) ?_
  refine va_get (D := (dC, dI)) (ci := 9) (v := .ref (g 7)) (C := RX9) (T := TX9) (N := 38) hx hb ht iX9 hown hK hP 0 rfl rfl 17 (by decide) (ht _ w_1279) (fun _ h9 => h9) rfl dX9_lays_27 ?_
  refine lv_iconst (v := 3) hx hb dX9_lays_30 (by decide) ?_
  refine va_iald hx hb hK hP 1 1 rfl rfl (by unfold vp_in; decide) dX9_lays_31 ?_
  refine lv_topi (fun y_2 ey_2 => ?_)
  have qy_2 : Int32.toInt y_2 = Int32.toInt (hs 3) := congrArg Int32.toInt ey_2
  refine va_put (D := (dC, dI)) (ci := 9) (v := .int y_2) (ty := .int) (C := RX9) (T := TX9) (N := 38) hx hb ht iX9 tyX9 tyX9_ok nmX9 hown hK hP hD hS 0 rfl rfl 26 (by decide) (ht _ w_1288) (fun _ h9 => h9) rfl (by decide +kernel) rfl rfl (Nat.le_of_ble_eq_true rfl) dX9_lays_32 (fun H locs hP hD hS => ?_)
  have hP : va_P (dC, dI) vwCl [((g 0), .inr (9, [.int g_th, .ref (g 1), .ref (g 2), .ref (g 3), .ref (g 4), .ref (g 5), .int g_tp, .int g_so, .int g_tk, .int g_pl, .int g_va, .long g_wo, .int g_bd, .int g_bp, .int g_fa, .int g_fp, .ref (g 6), .ref (g 7), .ref (g 8), .ref (g 9), .ref (g 10), .ref (g 11), .int y_1, .int 0, .int 0, .int 0, .int y_2, .ref (g 12), .ref (g 13), .int g_jo, .ref (g 14), .ref (g 15), .long g_bt, .int g_sb, .int g_ab, .int g_al, .ref (g 16), .ref (g 17)])), ((g 7), .inl (cI, 35, .inl hs)), ((g 8), .inl (cI, 75, .inl sp)), ((g 9), .inl (cI, 40, .inl wt)), ((g 12), .inl (cI, 5, .inl om)), ((g 13), .inl (cI, 5, .inl lk))] H := hP
  have hD : va_D A [((g 0), .inr (9, [.int g_th, .ref (g 1), .ref (g 2), .ref (g 3), .ref (g 4), .ref (g 5), .int g_tp, .int g_so, .int g_tk, .int g_pl, .int g_va, .long g_wo, .int g_bd, .int g_bp, .int g_fa, .int g_fp, .ref (g 6), .ref (g 7), .ref (g 8), .ref (g 9), .ref (g 10), .ref (g 11), .int y_1, .int 0, .int 0, .int 0, .int y_2, .ref (g 12), .ref (g 13), .int g_jo, .ref (g 14), .ref (g 15), .long g_bt, .int g_sb, .int g_ab, .int g_al, .ref (g 16), .ref (g 17)])), ((g 7), .inl (cI, 35, .inl hs)), ((g 8), .inl (cI, 75, .inl sp)), ((g 9), .inl (cI, 40, .inl wt)), ((g 12), .inl (cI, 5, .inl om)), ((g 13), .inl (cI, 5, .inl lk))] := hD
  refine lv_iconst (v := 0) hx hb dX9_lays_35 (by decide) ?_
  refine lv_istore_n (lv' := [(1, .int 0), (0, .ref (g 0))]) hx hb dX9_lays_36 rfl hl (by decide) rfl (fun ls hl => ?_)
  have lp_119 : ∀ (d : Nat) (v_59 : Int32) (wv_60 : Int32) (H : Heap) (locs : List Loc) (ls : Array Slot), ((0 ≤ Int32.toInt v_59)) → ((2147483647 - Int32.toInt v_59).toNat < d) → va_P (dC, dI) vwCl [((g 0), .inr (9, [.int g_th, .ref (g 1), .ref (g 2), .ref (g 3), .ref (g 4), .ref (g 5), .int g_tp, .int g_so, .int g_tk, .int g_pl, .int g_va, .long g_wo, .int g_bd, .int g_bp, .int g_fa, .int g_fp, .ref (g 6), .ref (g 7), .ref (g 8), .ref (g 9), .ref (g 10), .ref (g 11), .int y_1, .int wv_60, .int 0, .int 0, .int y_2, .ref (g 12), .ref (g 13), .int g_jo, .ref (g 14), .ref (g 15), .long g_bt, .int g_sb, .int g_ab, .int g_al, .ref (g 16), .ref (g 17)])), ((g 7), .inl (cI, 35, .inl hs)), ((g 8), .inl (cI, 75, .inl sp)), ((g 9), .inl (cI, 40, .inl wt)), ((g 12), .inl (cI, 5, .inl om)), ((g 13), .inl (cI, 5, .inl lk))] H → va_D A [((g 0), .inr (9, [.int g_th, .ref (g 1), .ref (g 2), .ref (g 3), .ref (g 4), .ref (g 5), .int g_tp, .int g_so, .int g_tk, .int g_pl, .int g_va, .long g_wo, .int g_bd, .int g_bp, .int g_fa, .int g_fp, .ref (g 6), .ref (g 7), .ref (g 8), .ref (g 9), .ref (g 10), .ref (g 11), .int y_1, .int wv_60, .int 0, .int 0, .int y_2, .ref (g 12), .ref (g 13), .int g_jo, .ref (g 14), .ref (g 15), .long g_bt, .int g_sb, .int g_ab, .int g_al, .ref (g 16), .ref (g 17)])), ((g 7), .inl (cI, 35, .inl hs)), ((g 8), .inl (cI, 75, .inl sp)), ((g 9), .inl (cI, 40, .inl wt)), ((g 12), .inl (cI, 5, .inl om)), ((g 13), .inl (cI, 5, .inl lk))] → va_S A s.heap H locs → lv_has ls 2 [(1, .int v_59), (0, .ref (g 0))] → W p l e (headSpec (wy yX9_lays cX9_lays 2 none) ({ frames := 1, cells := 0, slots := 0, locals := 40 })).room s m ([.ref (g 0)] : List Value).toArray below meth c H locs 0 0 (MQ below (va_Qv (fun u => (LK (Int32.toInt (hs 4)) u.2.2.2.2.2.2) ∧ (OM (Int32.toInt (hs 4)) u.2.2.2.2.2.1)) (fun (u : (Int32) × (Int32) × (Int32) × (Int32) × (Int32) × (Nat → Int32) × (Nat → Int32)) t => va_P (dC, dI) vwCl [((g 0), .inr (9, [.int g_th, .ref (g 1), .ref (g 2), .ref (g 3), .ref (g 4), .ref (g 5), .int g_tp, .int g_so, .int g_tk, .int g_pl, .int g_va, .long g_wo, .int g_bd, .int g_bp, .int g_fa, .int g_fp, .ref (g 6), .ref (g 7), .ref (g 8), .ref (g 9), .ref (g 10), .ref (g 11), .int u.1, .int u.2.1, .int u.2.2.1, .int u.2.2.2.1, .int u.2.2.2.2.1, .ref (g 12), .ref (g 13), .int g_jo, .ref (g 14), .ref (g 15), .long g_bt, .int g_sb, .int g_ab, .int g_al, .ref (g 16), .ref (g 17)])), ((g 7), .inl (cI, 35, .inl hs)), ((g 8), .inl (cI, 75, .inl sp)), ((g 9), .inl (cI, 40, .inl wt)), ((g 12), .inl (cI, 5, .inl u.2.2.2.2.2.1)), ((g 13), .inl (cI, 5, .inl u.2.2.2.2.2.2))] t.heap ∧ va_D A [((g 0), .inr (9, [.int g_th, .ref (g 1), .ref (g 2), .ref (g 3), .ref (g 4), .ref (g 5), .int g_tp, .int g_so, .int g_tk, .int g_pl, .int g_va, .long g_wo, .int g_bd, .int g_bp, .int g_fa, .int g_fp, .ref (g 6), .ref (g 7), .ref (g 8), .ref (g 9), .ref (g 10), .ref (g 11), .int u.1, .int u.2.1, .int u.2.2.1, .int u.2.2.2.1, .int u.2.2.2.2.1, .ref (g 12), .ref (g 13), .int g_jo, .ref (g 14), .ref (g 15), .long g_bt, .int g_sb, .int g_ab, .int g_al, .ref (g 16), .ref (g 17)])), ((g 7), .inl (cI, 35, .inl hs)), ((g 8), .inl (cI, 75, .inl sp)), ((g 9), .inl (cI, 40, .inl wt)), ((g 12), .inl (cI, 5, .inl u.2.2.2.2.2.1)), ((g 13), .inl (cI, 5, .inl u.2.2.2.2.2.2))]) A) ([.ref (g 0)] : List Value).toArray s 0 0 A) (F0 m 37 ls []) := by
    intro d
    induction d with
    | zero => intro v_59 wv_60 H locs ls hI hM; exfalso; exact absurd hM (Nat.not_lt_zero _)
    | succ d ih_120 =>
      intro v_59 wv_60 H locs ls hI hM hP hD hS hl
      have hI_121 := hI
      refine lv_iload_n hx hb dX9_lays_37 rfl (lv_at hl 0 rfl) ?_
      refine lv_aload_n hx hb dX9_lays_38 rfl (lv_at hl 1 rfl) ?_
      refine va_get (D := (dC, dI)) (ci := 9) (v := .ref (g 7)) (C := RX9) (T := TX9) (N := 38) hx hb ht iX9 hown hK hP 0 rfl rfl 17 (by decide) (ht _ w_1279) (fun _ h9 => h9) rfl dX9_lays_39 ?_
      refine lv_iconst (v := 5) hx hb dX9_lays_42 (by decide) ?_
      refine va_iald hx hb hK hP 1 1 rfl rfl (by unfold vp_in; decide) dX9_lays_43 ?_
      refine lv_topi (fun y_122 ey_122 => ?_)
      have qy_122 : Int32.toInt y_122 = Int32.toInt (hs 5) := congrArg Int32.toInt ey_122
      refine lv_icmp_ge (tgt := 87) hx hb dX9_lays_44 (by decide) (fun c_123 => ?_) (fun c_123 => ?_)
      · (try simp only [i_lt, i_le, i_eq] at c_123)
        refine lv_iconst (v := 0) hx hb dX9_lays_87 (by decide) ?_
        refine lv_istore_n (lv' := [(1, .int 0), (0, .ref (g 0))]) hx hb dX9_lays_88 rfl hl (by decide) rfl (fun ls hl => ?_)
        have lp_152 : ∀ (d : Nat) (v_136 : Int32) (wv_137 : Nat → Int32) (wv_138 : Nat → Int32) (H : Heap) (locs : List Loc) (ls : Array Slot), ((0 ≤ Int32.toInt v_136) ∧ (LK (Int32.toInt v_136) wv_138) ∧ (OM (Int32.toInt v_136) wv_137)) → ((2147483647 - Int32.toInt v_136).toNat < d) → va_P (dC, dI) vwCl [((g 0), .inr (9, [.int g_th, .ref (g 1), .ref (g 2), .ref (g 3), .ref (g 4), .ref (g 5), .int g_tp, .int g_so, .int g_tk, .int g_pl, .int g_va, .long g_wo, .int g_bd, .int g_bp, .int g_fa, .int g_fp, .ref (g 6), .ref (g 7), .ref (g 8), .ref (g 9), .ref (g 10), .ref (g 11), .int y_1, .int wv_60, .int 0, .int 0, .int y_2, .ref (g 12), .ref (g 13), .int g_jo, .ref (g 14), .ref (g 15), .long g_bt, .int g_sb, .int g_ab, .int g_al, .ref (g 16), .ref (g 17)])), ((g 7), .inl (cI, 35, .inl hs)), ((g 8), .inl (cI, 75, .inl sp)), ((g 9), .inl (cI, 40, .inl wt)), ((g 12), .inl (cI, 5, .inl wv_137)), ((g 13), .inl (cI, 5, .inl wv_138))] H → va_D A [((g 0), .inr (9, [.int g_th, .ref (g 1), .ref (g 2), .ref (g 3), .ref (g 4), .ref (g 5), .int g_tp, .int g_so, .int g_tk, .int g_pl, .int g_va, .long g_wo, .int g_bd, .int g_bp, .int g_fa, .int g_fp, .ref (g 6), .ref (g 7), .ref (g 8), .ref (g 9), .ref (g 10), .ref (g 11), .int y_1, .int wv_60, .int 0, .int 0, .int y_2, .ref (g 12), .ref (g 13), .int g_jo, .ref (g 14), .ref (g 15), .long g_bt, .int g_sb, .int g_ab, .int g_al, .ref (g 16), .ref (g 17)])), ((g 7), .inl (cI, 35, .inl hs)), ((g 8), .inl (cI, 75, .inl sp)), ((g 9), .inl (cI, 40, .inl wt)), ((g 12), .inl (cI, 5, .inl wv_137)), ((g 13), .inl (cI, 5, .inl wv_138))] → va_S A s.heap H locs → lv_has ls 2 [(1, .int v_136), (0, .ref (g 0))] → W p l e (headSpec (wy yX9_lays cX9_lays 2 none) ({ frames := 1, cells := 0, slots := 0, locals := 40 })).room s m ([.ref (g 0)] : List Value).toArray below meth c H locs 0 0 (MQ below (va_Qv (fun u => (LK (Int32.toInt (hs 4)) u.2.2.2.2.2.2) ∧ (OM (Int32.toInt (hs 4)) u.2.2.2.2.2.1)) (fun (u : (Int32) × (Int32) × (Int32) × (Int32) × (Int32) × (Nat → Int32) × (Nat → Int32)) t => va_P (dC, dI) vwCl [((g 0), .inr (9, [.int g_th, .ref (g 1), .ref (g 2), .ref (g 3), .ref (g 4), .ref (g 5), .int g_tp, .int g_so, .int g_tk, .int g_pl, .int g_va, .long g_wo, .int g_bd, .int g_bp, .int g_fa, .int g_fp, .ref (g 6), .ref (g 7), .ref (g 8), .ref (g 9), .ref (g 10), .ref (g 11), .int u.1, .int u.2.1, .int u.2.2.1, .int u.2.2.2.1, .int u.2.2.2.2.1, .ref (g 12), .ref (g 13), .int g_jo, .ref (g 14), .ref (g 15), .long g_bt, .int g_sb, .int g_ab, .int g_al, .ref (g 16), .ref (g 17)])), ((g 7), .inl (cI, 35, .inl hs)), ((g 8), .inl (cI, 75, .inl sp)), ((g 9), .inl (cI, 40, .inl wt)), ((g 12), .inl (cI, 5, .inl u.2.2.2.2.2.1)), ((g 13), .inl (cI, 5, .inl u.2.2.2.2.2.2))] t.heap ∧ va_D A [((g 0), .inr (9, [.int g_th, .ref (g 1), .ref (g 2), .ref (g 3), .ref (g 4), .ref (g 5), .int g_tp, .int g_so, .int g_tk, .int g_pl, .int g_va, .long g_wo, .int g_bd, .int g_bp, .int g_fa, .int g_fp, .ref (g 6), .ref (g 7), .ref (g 8), .ref (g 9), .ref (g 10), .ref (g 11), .int u.1, .int u.2.1, .int u.2.2.1, .int u.2.2.2.1, .int u.2.2.2.2.1, .ref (g 12), .ref (g 13), .int g_jo, .ref (g 14), .ref (g 15), .long g_bt, .int g_sb, .int g_ab, .int g_al, .ref (g 16), .ref (g 17)])), ((g 7), .inl (cI, 35, .inl hs)), ((g 8), .inl (cI, 75, .inl sp)), ((g 9), .inl (cI, 40, .inl wt)), ((g 12), .inl (cI, 5, .inl u.2.2.2.2.2.1)), ((g 13), .inl (cI, 5, .inl u.2.2.2.2.2.2))]) A) ([.ref (g 0)] : List Value).toArray s 0 0 A) (F0 m 89 ls []) := by
          intro d
          induction d with
          | zero => intro v_136 wv_137 wv_138 H locs ls hI hM; exfalso; exact absurd hM (Nat.not_lt_zero _)
          | succ d ih_153 =>
            intro v_136 wv_137 wv_138 H locs ls hI hM hP hD hS hl
            obtain ⟨hI_154, hI_155, hI_156⟩ := hI
            refine lv_iload_n hx hb dX9_lays_89 rfl (lv_at hl 0 rfl) ?_
            refine lv_aload_n hx hb dX9_lays_90 rfl (lv_at hl 1 rfl) ?_
            have hPc := hP.sub (ws' := [((g 0), .inr (9, [.int g_th, .ref (g 1), .ref (g 2), .ref (g 3), .ref (g 4), .ref (g 5), .int g_tp, .int g_so, .int g_tk, .int g_pl, .int g_va, .long g_wo, .int g_bd, .int g_bp, .int g_fa, .int g_fp, .ref (g 6), .ref (g 7), .ref (g 8), .ref (g 9), .ref (g 10), .ref (g 11), .int y_1, .int wv_60, .int 0, .int 0, .int y_2, .ref (g 12), .ref (g 13), .int g_jo, .ref (g 14), .ref (g 15), .long g_bt, .int g_sb, .int g_ab, .int g_al, .ref (g 16), .ref (g 17)])), ((g 7), .inl (cI, 35, .inl hs))]) [0, 1] rfl
            refine vp_callSi (W.runV (As := []) (rest := [.int v_136]) ⟨hx, hb, hml, hown, ht⟩ (s_X9_spans l dC dI cB cI cJ cZ cL g g_th g_tp g_so g_tk g_pl g_va g_wo g_bd g_bp g_fa g_fp y_1 wv_60 0 0 y_2 g_jo g_bt g_sb g_ab g_al hs) (cwV 0 ht (gV w_1521 w_1523 w_67 w_114 w_1524) rfl rfl rfl (by decide +kernel) ⟨Nat.le_of_ble_eq_true rfl, Nat.le_of_ble_eq_true rfl⟩) (pVSn hN hK hPc (ci := 9) (q0 := 0) rfl rfl) rfl rfl hl.1 rfl (lv_room (Nat.le_of_ble_eq_true rfl)) dX9_lays_91 ⟨Nat.le_of_ble_eq_true rfl, Nat.le_of_ble_eq_true rfl⟩) (fun r_157 hw => ?_)
            clear hPc
            (try dsimp only at hw)
            have hw_158 := hw
            clear hw
            refine lv_icmp_ge (tgt := 133) hx hb dX9_lays_94 (by decide) (fun c_159 => ?_) (fun c_159 => ?_)
            · (try simp only [i_lt, i_le, i_eq] at c_159)
              have hP9 := hP.sub (ws' := [((g 0), .inr (9, [.int g_th, .ref (g 1), .ref (g 2), .ref (g 3), .ref (g 4), .ref (g 5), .int g_tp, .int g_so, .int g_tk, .int g_pl, .int g_va, .long g_wo, .int g_bd, .int g_bp, .int g_fa, .int g_fp, .ref (g 6), .ref (g 7), .ref (g 8), .ref (g 9), .ref (g 10), .ref (g 11), .int y_1, .int wv_60, .int 0, .int 0, .int y_2, .ref (g 12), .ref (g 13), .int g_jo, .ref (g 14), .ref (g 15), .long g_bt, .int g_sb, .int g_ab, .int g_al, .ref (g 16), .ref (g 17)])), ((g 7), .inl (cI, 35, .inl hs)), ((g 8), .inl (cI, 75, .inl sp)), ((g 9), .inl (cI, 40, .inl wt)), ((g 12), .inl (cI, 5, .inl wv_137)), ((g 13), .inl (cI, 5, .inl wv_138))]) [0, 1, 2, 3, 4, 5] rfl
              have hD9 := hD.sub (ws' := [((g 0), .inr (9, [.int g_th, .ref (g 1), .ref (g 2), .ref (g 3), .ref (g 4), .ref (g 5), .int g_tp, .int g_so, .int g_tk, .int g_pl, .int g_va, .long g_wo, .int g_bd, .int g_bp, .int g_fa, .int g_fp, .ref (g 6), .ref (g 7), .ref (g 8), .ref (g 9), .ref (g 10), .ref (g 11), .int y_1, .int wv_60, .int 0, .int 0, .int y_2, .ref (g 12), .ref (g 13), .int g_jo, .ref (g 14), .ref (g 15), .long g_bt, .int g_sb, .int g_ab, .int g_al, .ref (g 16), .ref (g 17)])), ((g 7), .inl (cI, 35, .inl hs)), ((g 8), .inl (cI, 75, .inl sp)), ((g 9), .inl (cI, 40, .inl wt)), ((g 12), .inl (cI, 5, .inl wv_137)), ((g 13), .inl (cI, 5, .inl wv_138))]) [0, 1, 2, 3, 4, 5] (by decide) rfl
              exact W.vret hx hb hr (fun t ht hW => ⟨⟨(y_1, wv_60, 0, 0, y_2, wv_137, wv_138), rfl, ⟨(by first | omega | assumption | decide | exact LK_mono (by assumption) (by omega) | exact OM_mono (by assumption) (by omega) | exact CLR_mono (by assumption) (by omega) | (have e0 := T0; have e1 := T1; have e2 := T2; have e3 := T3; have em1 := Tm1; omega) | (dsimp only; done) | (dsimp only; first | omega | assumption | decide | exact LK_mono (by assumption) (by omega) | exact OM_mono (by assumption) (by omega) | exact CLR_mono (by assumption) (by omega) | (have e0 := T0; have e1 := T1; have e2 := T2; have e3 := T3; have em1 := Tm1; omega))), (by first | omega | assumption | decide | exact LK_mono (by assumption) (by omega) | exact OM_mono (by assumption) (by omega) | exact CLR_mono (by assumption) (by omega) | (have e0 := T0; have e1 := T1; have e2 := T2; have e3 := T3; have em1 := Tm1; omega) | (dsimp only; done) | (dsimp only; first | omega | assumption | decide | exact LK_mono (by assumption) (by omega) | exact OM_mono (by assumption) (by omega) | exact CLR_mono (by assumption) (by omega) | (have e0 := T0; have e1 := T1; have e2 := T2; have e3 := T3; have em1 := Tm1; omega)))⟩, ⟨by rw [ht]; exact hP9, hD9⟩⟩, hS.F ht⟩) hS.2.2 dX9_lays_133
            · (try simp only [i_lt, i_le, i_eq] at c_159)
              refine lv_aload_n hx hb dX9_lays_97 rfl (lv_at hl 1 rfl) ?_
              refine va_get (D := (dC, dI)) (ci := 9) (v := .ref (g 12)) (C := RX9) (T := TX9) (N := 38) hx hb ht iX9 hown hK hP 0 rfl rfl 27 (by decide) (ht _ w_1289) (fun _ h9 => h9) rfl dX9_lays_98 ?_
              refine lv_iload_n hx hb dX9_lays_101 rfl (lv_at hl 0 rfl) ?_
              refine lv_aload_n hx hb dX9_lays_102 rfl (lv_at hl 1 rfl) ?_
              refine va_get (D := (dC, dI)) (ci := 9) (v := .ref (g 8)) (C := RX9) (T := TX9) (N := 38) hx hb ht iX9 hown hK hP 0 rfl rfl 18 (by decide) (ht _ w_1280) (fun _ h9 => h9) rfl dX9_lays_103 ?_
              refine lv_iconst (v := 3) hx hb dX9_lays_106 (by decide) ?_
              refine lv_iload_n hx hb dX9_lays_107 rfl (lv_at hl 0 rfl) ?_
              refine lv_imul hx hb dX9_lays_108 ?_
              refine lv_topi (fun y_160 ey_160 => ?_)
              have ty_160 := imulF ey_160
              simp only [T3] at ty_160
              clear ey_160
              refine va_iald hx hb hK hP 2 1 rfl rfl (vp_in_iff.mpr (by omega)) dX9_lays_109 ?_
              refine lv_topi (fun y_161 ey_161 => ?_)
              have ry_161 := SP_at0 hsp (k := v_136) (y := y_160) (by omega) (by omega) (by omega)
              rw [← ey_161] at ry_161
              refine va_iast hx hb hK hP hD hS 4 1 rfl rfl (vp_in_iff.mpr (by omega)) dX9_lays_110 (fun H locs hP hD hS => ?_)
              obtain ⟨f_162, ef_162⟩ : ∃ z : Nat → Int32, z = upd wv_137 (Int32.toNatClampNeg v_136) y_161 := ⟨_, rfl⟩
              rw [← ef_162] at hP hD
              have hr_163 := OM_push hI_156 ef_162 (by omega) (by omega)
              clear ef_162
              have hP : va_P (dC, dI) vwCl [((g 0), .inr (9, [.int g_th, .ref (g 1), .ref (g 2), .ref (g 3), .ref (g 4), .ref (g 5), .int g_tp, .int g_so, .int g_tk, .int g_pl, .int g_va, .long g_wo, .int g_bd, .int g_bp, .int g_fa, .int g_fp, .ref (g 6), .ref (g 7), .ref (g 8), .ref (g 9), .ref (g 10), .ref (g 11), .int y_1, .int wv_60, .int 0, .int 0, .int y_2, .ref (g 12), .ref (g 13), .int g_jo, .ref (g 14), .ref (g 15), .long g_bt, .int g_sb, .int g_ab, .int g_al, .ref (g 16), .ref (g 17)])), ((g 7), .inl (cI, 35, .inl hs)), ((g 8), .inl (cI, 75, .inl sp)), ((g 9), .inl (cI, 40, .inl wt)), ((g 12), .inl (cI, 5, .inl f_162)), ((g 13), .inl (cI, 5, .inl wv_138))] H := hP
              have hD : va_D A [((g 0), .inr (9, [.int g_th, .ref (g 1), .ref (g 2), .ref (g 3), .ref (g 4), .ref (g 5), .int g_tp, .int g_so, .int g_tk, .int g_pl, .int g_va, .long g_wo, .int g_bd, .int g_bp, .int g_fa, .int g_fp, .ref (g 6), .ref (g 7), .ref (g 8), .ref (g 9), .ref (g 10), .ref (g 11), .int y_1, .int wv_60, .int 0, .int 0, .int y_2, .ref (g 12), .ref (g 13), .int g_jo, .ref (g 14), .ref (g 15), .long g_bt, .int g_sb, .int g_ab, .int g_al, .ref (g 16), .ref (g 17)])), ((g 7), .inl (cI, 35, .inl hs)), ((g 8), .inl (cI, 75, .inl sp)), ((g 9), .inl (cI, 40, .inl wt)), ((g 12), .inl (cI, 5, .inl f_162)), ((g 13), .inl (cI, 5, .inl wv_138))] := hD
              refine lv_aload_n hx hb dX9_lays_111 rfl (lv_at hl 1 rfl) ?_
              refine va_get (D := (dC, dI)) (ci := 9) (v := .ref (g 13)) (C := RX9) (T := TX9) (N := 38) hx hb ht iX9 hown hK hP 0 rfl rfl 28 (by decide) (ht _ w_1290) (fun _ h9 => h9) rfl dX9_lays_112 ?_
              refine lv_iload_n hx hb dX9_lays_115 rfl (lv_at hl 0 rfl) ?_
              refine lv_aload_n hx hb dX9_lays_116 rfl (lv_at hl 1 rfl) ?_
              refine va_get (D := (dC, dI)) (ci := 9) (v := .ref (g 8)) (C := RX9) (T := TX9) (N := 38) hx hb ht iX9 hown hK hP 0 rfl rfl 18 (by decide) (ht _ w_1280) (fun _ h9 => h9) rfl dX9_lays_117 ?_
              refine lv_iconst (v := 3) hx hb dX9_lays_120 (by decide) ?_
              refine lv_iload_n hx hb dX9_lays_121 rfl (lv_at hl 0 rfl) ?_
              refine lv_imul hx hb dX9_lays_122 ?_
              refine lv_topi (fun y_164 ey_164 => ?_)
              have ty_164 := imulF ey_164
              simp only [T3] at ty_164
              clear ey_164
              refine lv_iconst (v := 1) hx hb dX9_lays_123 (by decide) ?_
              refine lv_iadd hx hb dX9_lays_124 ?_
              refine lv_topi (fun y_165 ey_165 => ?_)
              have ty_165 := iaddF ey_165
              simp only [T1] at ty_165
              clear ey_165
              refine va_iald hx hb hK hP 2 1 rfl rfl (vp_in_iff.mpr (by omega)) dX9_lays_125 ?_
              refine lv_topi (fun y_166 ey_166 => ?_)
              have ry_166 := SP_at1 hsp (k := v_136) (y := y_165) (by omega) (by omega) (by omega)
              rw [← ey_166] at ry_166
              refine va_iast hx hb hK hP hD hS 5 1 rfl rfl (vp_in_iff.mpr (by omega)) dX9_lays_126 (fun H locs hP hD hS => ?_)
              obtain ⟨f_167, ef_167⟩ : ∃ z : Nat → Int32, z = upd wv_138 (Int32.toNatClampNeg v_136) y_166 := ⟨_, rfl⟩
              rw [← ef_167] at hP hD
              have hr_168 := LK_push hI_155 ef_167 (by omega) (by omega)
              clear ef_167
              have hP : va_P (dC, dI) vwCl [((g 0), .inr (9, [.int g_th, .ref (g 1), .ref (g 2), .ref (g 3), .ref (g 4), .ref (g 5), .int g_tp, .int g_so, .int g_tk, .int g_pl, .int g_va, .long g_wo, .int g_bd, .int g_bp, .int g_fa, .int g_fp, .ref (g 6), .ref (g 7), .ref (g 8), .ref (g 9), .ref (g 10), .ref (g 11), .int y_1, .int wv_60, .int 0, .int 0, .int y_2, .ref (g 12), .ref (g 13), .int g_jo, .ref (g 14), .ref (g 15), .long g_bt, .int g_sb, .int g_ab, .int g_al, .ref (g 16), .ref (g 17)])), ((g 7), .inl (cI, 35, .inl hs)), ((g 8), .inl (cI, 75, .inl sp)), ((g 9), .inl (cI, 40, .inl wt)), ((g 12), .inl (cI, 5, .inl f_162)), ((g 13), .inl (cI, 5, .inl f_167))] H := hP
              have hD : va_D A [((g 0), .inr (9, [.int g_th, .ref (g 1), .ref (g 2), .ref (g 3), .ref (g 4), .ref (g 5), .int g_tp, .int g_so, .int g_tk, .int g_pl, .int g_va, .long g_wo, .int g_bd, .int g_bp, .int g_fa, .int g_fp, .ref (g 6), .ref (g 7), .ref (g 8), .ref (g 9), .ref (g 10), .ref (g 11), .int y_1, .int wv_60, .int 0, .int 0, .int y_2, .ref (g 12), .ref (g 13), .int g_jo, .ref (g 14), .ref (g 15), .long g_bt, .int g_sb, .int g_ab, .int g_al, .ref (g 16), .ref (g 17)])), ((g 7), .inl (cI, 35, .inl hs)), ((g 8), .inl (cI, 75, .inl sp)), ((g 9), .inl (cI, 40, .inl wt)), ((g 12), .inl (cI, 5, .inl f_162)), ((g 13), .inl (cI, 5, .inl f_167))] := hD
              obtain ⟨y_169, ey_169⟩ : ∃ z : Int32, z = v_136 + 1 := ⟨_, rfl⟩
              have ty_169 := iaddF ey_169
              simp only [T1] at ty_169
              refine lv_iinc (v := y_169) (lv' := [(1, .int y_169), (0, .ref (g 0))]) hx hb dX9_lays_127 hl (k := 0) rfl (by rw [ey_169]; rfl) (by decide) rfl (fun ls hl => ?_)
              clear ey_169
              refine lv_goto (tgt := 89) hx hb dX9_lays_130 (by decide) ?_
              exact ih_153 y_169 f_162 f_167 _ _ _ ⟨(by first | omega | assumption | decide | exact LK_0 | exact OM_0 | exact CE_0 | exact SZI_0 | exact CLR_0 | exact CP_0 | exact PV_0 | exact BV_0 (by assumption) (by omega) (by omega) | exact LK_mono (by assumption) (by omega) | exact OM_mono (by assumption) (by omega) | exact CE_mono (by assumption) (by omega) | exact CLR_mono (by assumption) (by omega) | exact CP_mono (by assumption) (by omega) | (have e0 := T0; have e1 := T1; have e2 := T2; have em1 := Tm1; omega)), (by first | omega | assumption | decide | exact LK_0 | exact OM_0 | exact CE_0 | exact SZI_0 | exact CLR_0 | exact CP_0 | exact PV_0 | exact BV_0 (by assumption) (by omega) (by omega) | exact LK_mono (by assumption) (by omega) | exact OM_mono (by assumption) (by omega) | exact CE_mono (by assumption) (by omega) | exact CLR_mono (by assumption) (by omega) | exact CP_mono (by assumption) (by omega) | (have e0 := T0; have e1 := T1; have e2 := T2; have em1 := Tm1; omega)), (by first | omega | assumption | decide | exact LK_0 | exact OM_0 | exact CE_0 | exact SZI_0 | exact CLR_0 | exact CP_0 | exact PV_0 | exact BV_0 (by assumption) (by omega) (by omega) | exact LK_mono (by assumption) (by omega) | exact OM_mono (by assumption) (by omega) | exact CE_mono (by assumption) (by omega) | exact CLR_mono (by assumption) (by omega) | exact CP_mono (by assumption) (by omega) | (have e0 := T0; have e1 := T1; have e2 := T2; have em1 := Tm1; omega))⟩ (by omega) (hP.sub (ws' := [((g 0), .inr (9, [.int g_th, .ref (g 1), .ref (g 2), .ref (g 3), .ref (g 4), .ref (g 5), .int g_tp, .int g_so, .int g_tk, .int g_pl, .int g_va, .long g_wo, .int g_bd, .int g_bp, .int g_fa, .int g_fp, .ref (g 6), .ref (g 7), .ref (g 8), .ref (g 9), .ref (g 10), .ref (g 11), .int y_1, .int wv_60, .int 0, .int 0, .int y_2, .ref (g 12), .ref (g 13), .int g_jo, .ref (g 14), .ref (g 15), .long g_bt, .int g_sb, .int g_ab, .int g_al, .ref (g 16), .ref (g 17)])), ((g 7), .inl (cI, 35, .inl hs)), ((g 8), .inl (cI, 75, .inl sp)), ((g 9), .inl (cI, 40, .inl wt)), ((g 12), .inl (cI, 5, .inl f_162)), ((g 13), .inl (cI, 5, .inl f_167))]) [0, 1, 2, 3, 4, 5] rfl) (hD.sub (ws' := [((g 0), .inr (9, [.int g_th, .ref (g 1), .ref (g 2), .ref (g 3), .ref (g 4), .ref (g 5), .int g_tp, .int g_so, .int g_tk, .int g_pl, .int g_va, .long g_wo, .int g_bd, .int g_bp, .int g_fa, .int g_fp, .ref (g 6), .ref (g 7), .ref (g 8), .ref (g 9), .ref (g 10), .ref (g 11), .int y_1, .int wv_60, .int 0, .int 0, .int y_2, .ref (g 12), .ref (g 13), .int g_jo, .ref (g 14), .ref (g 15), .long g_bt, .int g_sb, .int g_ab, .int g_al, .ref (g 16), .ref (g 17)])), ((g 7), .inl (cI, 35, .inl hs)), ((g 8), .inl (cI, 75, .inl sp)), ((g 9), .inl (cI, 40, .inl wt)), ((g 12), .inl (cI, 5, .inl f_162)), ((g 13), .inl (cI, 5, .inl f_167))]) [0, 1, 2, 3, 4, 5] (by decide) rfl) hS (lv_sub hl [0, 1] rfl)
        exact lp_152 _ 0 om lk _ _ _ ⟨(by first | omega | assumption | decide | exact LK_0 | exact OM_0 | exact CE_0 | exact SZI_0 | exact CLR_0 | exact CP_0 | exact PV_0 | exact BV_0 (by assumption) (by omega) (by omega) | exact LK_mono (by assumption) (by omega) | exact OM_mono (by assumption) (by omega) | exact CE_mono (by assumption) (by omega) | exact CLR_mono (by assumption) (by omega) | exact CP_mono (by assumption) (by omega) | (have e0 := T0; have e1 := T1; have e2 := T2; have em1 := Tm1; omega)), (by first | omega | assumption | decide | exact LK_0 | exact OM_0 | exact CE_0 | exact SZI_0 | exact CLR_0 | exact CP_0 | exact PV_0 | exact BV_0 (by assumption) (by omega) (by omega) | exact LK_mono (by assumption) (by omega) | exact OM_mono (by assumption) (by omega) | exact CE_mono (by assumption) (by omega) | exact CLR_mono (by assumption) (by omega) | exact CP_mono (by assumption) (by omega) | (have e0 := T0; have e1 := T1; have e2 := T2; have em1 := Tm1; omega)), (by first | omega | assumption | decide | exact LK_0 | exact OM_0 | exact CE_0 | exact SZI_0 | exact CLR_0 | exact CP_0 | exact PV_0 | exact BV_0 (by assumption) (by omega) (by omega) | exact LK_mono (by assumption) (by omega) | exact OM_mono (by assumption) (by omega) | exact CE_mono (by assumption) (by omega) | exact CLR_mono (by assumption) (by omega) | exact CP_mono (by assumption) (by omega) | (have e0 := T0; have e1 := T1; have e2 := T2; have em1 := Tm1; omega))⟩ (Nat.lt_succ_self _) hP hD hS (lv_sub hl [0, 1] rfl)
      · (try simp only [i_lt, i_le, i_eq] at c_123)
        refine lv_aload_n hx hb dX9_lays_47 rfl (lv_at hl 1 rfl) ?_
        refine lv_dup hx hb dX9_lays_48 rfl ?_
        refine va_get (D := (dC, dI)) (ci := 9) (v := .int wv_60) (C := RX9) (T := TX9) (N := 38) hx hb ht iX9 hown hK hP 0 rfl rfl 23 (by decide) (ht _ w_1285) (fun _ h9 => h9) rfl dX9_lays_49 ?_
        refine lv_aload_n hx hb dX9_lays_52 rfl (lv_at hl 1 rfl) ?_
        refine va_get (D := (dC, dI)) (ci := 9) (v := .ref (g 9)) (C := RX9) (T := TX9) (N := 38) hx hb ht iX9 hown hK hP 0 rfl rfl 19 (by decide) (ht _ w_1281) (fun _ h9 => h9) rfl dX9_lays_53 ?_
        refine lv_iload_n hx hb dX9_lays_56 rfl (lv_at hl 0 rfl) ?_
        refine va_iald hx hb hK hP 3 1 rfl rfl (vp_in_iff.mpr (by omega)) dX9_lays_57 ?_
        refine lv_topi (fun y_170 ey_170 => ?_)
        refine lv_aload_n hx hb dX9_lays_58 rfl (lv_at hl 1 rfl) ?_
        have hPc := hP.sub (ws' := [((g 0), .inr (9, [.int g_th, .ref (g 1), .ref (g 2), .ref (g 3), .ref (g 4), .ref (g 5), .int g_tp, .int g_so, .int g_tk, .int g_pl, .int g_va, .long g_wo, .int g_bd, .int g_bp, .int g_fa, .int g_fp, .ref (g 6), .ref (g 7), .ref (g 8), .ref (g 9), .ref (g 10), .ref (g 11), .int y_1, .int wv_60, .int 0, .int 0, .int y_2, .ref (g 12), .ref (g 13), .int g_jo, .ref (g 14), .ref (g 15), .long g_bt, .int g_sb, .int g_ab, .int g_al, .ref (g 16), .ref (g 17)])), ((g 7), .inl (cI, 35, .inl hs))]) [0, 1] rfl
        refine vp_callSi (W.runV (As := []) (rest := [.int y_170, .int wv_60, .ref (g 0)]) ⟨hx, hb, hml, hown, ht⟩ (s_X9_days l dC dI cB cI cJ cZ cL g g_th g_tp g_so g_tk g_pl g_va g_wo g_bd g_bp g_fa g_fp y_1 wv_60 0 0 y_2 g_jo g_bt g_sb g_ab g_al hs) (cwV 0 ht (gV w_1550 w_1552 w_72 w_114 w_1553) rfl rfl rfl (by decide +kernel) ⟨Nat.le_of_ble_eq_true rfl, Nat.le_of_ble_eq_true rfl⟩) (pVSn hN hK hPc (ci := 9) (q0 := 0) rfl rfl) rfl rfl hl.1 rfl (lv_room (Nat.le_of_ble_eq_true rfl)) dX9_lays_59 ⟨Nat.le_of_ble_eq_true rfl, Nat.le_of_ble_eq_true rfl⟩) (fun r_171 hw => ?_)
        clear hPc
        (try dsimp only at hw)
        have hw_172 := hw
        clear hw
        refine lv_icmp_gt (tgt := 76) hx hb dX9_lays_62 (by decide) (fun c_173 => ?_) (fun c_173 => ?_)
        · (try simp only [i_lt, i_le, i_eq] at c_173)
          refine lv_iconst (v := 0) hx hb dX9_lays_76 (by decide) ?_
          refine lv_ior hx hb dX9_lays_77 ?_
          refine lv_topi (fun y_174 ey_174 => ?_)
          clear ey_174
          refine va_put (D := (dC, dI)) (ci := 9) (v := .int y_174) (ty := .int) (C := RX9) (T := TX9) (N := 38) hx hb ht iX9 tyX9 tyX9_ok nmX9 hown hK hP hD hS 0 rfl rfl 23 (by decide) (ht _ w_1285) (fun _ h9 => h9) rfl (by decide +kernel) rfl rfl (Nat.le_of_ble_eq_true rfl) dX9_lays_78 (fun H locs hP hD hS => ?_)
          have hP : va_P (dC, dI) vwCl [((g 0), .inr (9, [.int g_th, .ref (g 1), .ref (g 2), .ref (g 3), .ref (g 4), .ref (g 5), .int g_tp, .int g_so, .int g_tk, .int g_pl, .int g_va, .long g_wo, .int g_bd, .int g_bp, .int g_fa, .int g_fp, .ref (g 6), .ref (g 7), .ref (g 8), .ref (g 9), .ref (g 10), .ref (g 11), .int y_1, .int y_174, .int 0, .int 0, .int y_2, .ref (g 12), .ref (g 13), .int g_jo, .ref (g 14), .ref (g 15), .long g_bt, .int g_sb, .int g_ab, .int g_al, .ref (g 16), .ref (g 17)])), ((g 7), .inl (cI, 35, .inl hs)), ((g 8), .inl (cI, 75, .inl sp)), ((g 9), .inl (cI, 40, .inl wt)), ((g 12), .inl (cI, 5, .inl om)), ((g 13), .inl (cI, 5, .inl lk))] H := hP
          have hD : va_D A [((g 0), .inr (9, [.int g_th, .ref (g 1), .ref (g 2), .ref (g 3), .ref (g 4), .ref (g 5), .int g_tp, .int g_so, .int g_tk, .int g_pl, .int g_va, .long g_wo, .int g_bd, .int g_bp, .int g_fa, .int g_fp, .ref (g 6), .ref (g 7), .ref (g 8), .ref (g 9), .ref (g 10), .ref (g 11), .int y_1, .int y_174, .int 0, .int 0, .int y_2, .ref (g 12), .ref (g 13), .int g_jo, .ref (g 14), .ref (g 15), .long g_bt, .int g_sb, .int g_ab, .int g_al, .ref (g 16), .ref (g 17)])), ((g 7), .inl (cI, 35, .inl hs)), ((g 8), .inl (cI, 75, .inl sp)), ((g 9), .inl (cI, 40, .inl wt)), ((g 12), .inl (cI, 5, .inl om)), ((g 13), .inl (cI, 5, .inl lk))] := hD
          obtain ⟨y_175, ey_175⟩ : ∃ z : Int32, z = v_59 + 1 := ⟨_, rfl⟩
          have ty_175 := iaddF ey_175
          simp only [T1] at ty_175
          refine lv_iinc (v := y_175) (lv' := [(1, .int y_175), (0, .ref (g 0))]) hx hb dX9_lays_81 hl (k := 0) rfl (by rw [ey_175]; rfl) (by decide) rfl (fun ls hl => ?_)
          clear ey_175
          refine lv_goto (tgt := 37) hx hb dX9_lays_84 (by decide) ?_
          exact ih_120 y_175 y_174 _ _ _ (by first | omega | assumption | decide | exact LK_0 | exact OM_0 | exact CE_0 | exact SZI_0 | exact CLR_0 | exact CP_0 | exact PV_0 | exact BV_0 (by assumption) (by omega) (by omega) | exact LK_mono (by assumption) (by omega) | exact OM_mono (by assumption) (by omega) | exact CE_mono (by assumption) (by omega) | exact CLR_mono (by assumption) (by omega) | exact CP_mono (by assumption) (by omega) | (have e0 := T0; have e1 := T1; have e2 := T2; have em1 := Tm1; omega)) (by omega) (hP.sub (ws' := [((g 0), .inr (9, [.int g_th, .ref (g 1), .ref (g 2), .ref (g 3), .ref (g 4), .ref (g 5), .int g_tp, .int g_so, .int g_tk, .int g_pl, .int g_va, .long g_wo, .int g_bd, .int g_bp, .int g_fa, .int g_fp, .ref (g 6), .ref (g 7), .ref (g 8), .ref (g 9), .ref (g 10), .ref (g 11), .int y_1, .int y_174, .int 0, .int 0, .int y_2, .ref (g 12), .ref (g 13), .int g_jo, .ref (g 14), .ref (g 15), .long g_bt, .int g_sb, .int g_ab, .int g_al, .ref (g 16), .ref (g 17)])), ((g 7), .inl (cI, 35, .inl hs)), ((g 8), .inl (cI, 75, .inl sp)), ((g 9), .inl (cI, 40, .inl wt)), ((g 12), .inl (cI, 5, .inl om)), ((g 13), .inl (cI, 5, .inl lk))]) [0, 1, 2, 3, 4, 5] rfl) (hD.sub (ws' := [((g 0), .inr (9, [.int g_th, .ref (g 1), .ref (g 2), .ref (g 3), .ref (g 4), .ref (g 5), .int g_tp, .int g_so, .int g_tk, .int g_pl, .int g_va, .long g_wo, .int g_bd, .int g_bp, .int g_fa, .int g_fp, .ref (g 6), .ref (g 7), .ref (g 8), .ref (g 9), .ref (g 10), .ref (g 11), .int y_1, .int y_174, .int 0, .int 0, .int y_2, .ref (g 12), .ref (g 13), .int g_jo, .ref (g 14), .ref (g 15), .long g_bt, .int g_sb, .int g_ab, .int g_al, .ref (g 16), .ref (g 17)])), ((g 7), .inl (cI, 35, .inl hs)), ((g 8), .inl (cI, 75, .inl sp)), ((g 9), .inl (cI, 40, .inl wt)), ((g 12), .inl (cI, 5, .inl om)), ((g 13), .inl (cI, 5, .inl lk))]) [0, 1, 2, 3, 4, 5] (by decide) rfl) hS (lv_sub hl [0, 1] rfl)
        · (try simp only [i_lt, i_le, i_eq] at c_173)
          refine lv_iconst (v := 1) hx hb dX9_lays_65 (by decide) ?_
          refine lv_aload_n hx hb dX9_lays_66 rfl (lv_at hl 1 rfl) ?_
          refine va_get (D := (dC, dI)) (ci := 9) (v := .ref (g 9)) (C := RX9) (T := TX9) (N := 38) hx hb ht iX9 hown hK hP 0 rfl rfl 19 (by decide) (ht _ w_1281) (fun _ h9 => h9) rfl dX9_lays_67 ?_
          refine lv_iload_n hx hb dX9_lays_70 rfl (lv_at hl 0 rfl) ?_
          refine va_iald hx hb hK hP 3 1 rfl rfl (vp_in_iff.mpr (by omega)) dX9_lays_71 ?_
          refine lv_topi (fun y_176 ey_176 => ?_)
          obtain rfl : y_170 = y_176 := ey_170.trans ey_176.symm
          clear ey_176
          refine lv_ishl hx hb dX9_lays_72 ?_
          refine lv_topi (fun y_177 ey_177 => ?_)
          have ty_177 := shl1F ey_177
          clear ey_177
          refine lv_goto (tgt := 77) hx hb dX9_lays_73 (by decide) ?_
          refine lv_ior hx hb dX9_lays_77 ?_
          refine lv_topi (fun y_178 ey_178 => ?_)
          clear ey_178
          refine va_put (D := (dC, dI)) (ci := 9) (v := .int y_178) (ty := .int) (C := RX9) (T := TX9) (N := 38) hx hb ht iX9 tyX9 tyX9_ok nmX9 hown hK hP hD hS 0 rfl rfl 23 (by decide) (ht _ w_1285) (fun _ h9 => h9) rfl (by decide +kernel) rfl rfl (Nat.le_of_ble_eq_true rfl) dX9_lays_78 (fun H locs hP hD hS => ?_)
          have hP : va_P (dC, dI) vwCl [((g 0), .inr (9, [.int g_th, .ref (g 1), .ref (g 2), .ref (g 3), .ref (g 4), .ref (g 5), .int g_tp, .int g_so, .int g_tk, .int g_pl, .int g_va, .long g_wo, .int g_bd, .int g_bp, .int g_fa, .int g_fp, .ref (g 6), .ref (g 7), .ref (g 8), .ref (g 9), .ref (g 10), .ref (g 11), .int y_1, .int y_178, .int 0, .int 0, .int y_2, .ref (g 12), .ref (g 13), .int g_jo, .ref (g 14), .ref (g 15), .long g_bt, .int g_sb, .int g_ab, .int g_al, .ref (g 16), .ref (g 17)])), ((g 7), .inl (cI, 35, .inl hs)), ((g 8), .inl (cI, 75, .inl sp)), ((g 9), .inl (cI, 40, .inl wt)), ((g 12), .inl (cI, 5, .inl om)), ((g 13), .inl (cI, 5, .inl lk))] H := hP
          have hD : va_D A [((g 0), .inr (9, [.int g_th, .ref (g 1), .ref (g 2), .ref (g 3), .ref (g 4), .ref (g 5), .int g_tp, .int g_so, .int g_tk, .int g_pl, .int g_va, .long g_wo, .int g_bd, .int g_bp, .int g_fa, .int g_fp, .ref (g 6), .ref (g 7), .ref (g 8), .ref (g 9), .ref (g 10), .ref (g 11), .int y_1, .int y_178, .int 0, .int 0, .int y_2, .ref (g 12), .ref (g 13), .int g_jo, .ref (g 14), .ref (g 15), .long g_bt, .int g_sb, .int g_ab, .int g_al, .ref (g 16), .ref (g 17)])), ((g 7), .inl (cI, 35, .inl hs)), ((g 8), .inl (cI, 75, .inl sp)), ((g 9), .inl (cI, 40, .inl wt)), ((g 12), .inl (cI, 5, .inl om)), ((g 13), .inl (cI, 5, .inl lk))] := hD
          obtain ⟨y_179, ey_179⟩ : ∃ z : Int32, z = v_59 + 1 := ⟨_, rfl⟩
          have ty_179 := iaddF ey_179
          simp only [T1] at ty_179
          refine lv_iinc (v := y_179) (lv' := [(1, .int y_179), (0, .ref (g 0))]) hx hb dX9_lays_81 hl (k := 0) rfl (by rw [ey_179]; rfl) (by decide) rfl (fun ls hl => ?_)
          clear ey_179
          refine lv_goto (tgt := 37) hx hb dX9_lays_84 (by decide) ?_
          exact ih_120 y_179 y_178 _ _ _ (by first | omega | assumption | decide | exact LK_0 | exact OM_0 | exact CE_0 | exact SZI_0 | exact CLR_0 | exact CP_0 | exact PV_0 | exact BV_0 (by assumption) (by omega) (by omega) | exact LK_mono (by assumption) (by omega) | exact OM_mono (by assumption) (by omega) | exact CE_mono (by assumption) (by omega) | exact CLR_mono (by assumption) (by omega) | exact CP_mono (by assumption) (by omega) | (have e0 := T0; have e1 := T1; have e2 := T2; have em1 := Tm1; omega)) (by omega) (hP.sub (ws' := [((g 0), .inr (9, [.int g_th, .ref (g 1), .ref (g 2), .ref (g 3), .ref (g 4), .ref (g 5), .int g_tp, .int g_so, .int g_tk, .int g_pl, .int g_va, .long g_wo, .int g_bd, .int g_bp, .int g_fa, .int g_fp, .ref (g 6), .ref (g 7), .ref (g 8), .ref (g 9), .ref (g 10), .ref (g 11), .int y_1, .int y_178, .int 0, .int 0, .int y_2, .ref (g 12), .ref (g 13), .int g_jo, .ref (g 14), .ref (g 15), .long g_bt, .int g_sb, .int g_ab, .int g_al, .ref (g 16), .ref (g 17)])), ((g 7), .inl (cI, 35, .inl hs)), ((g 8), .inl (cI, 75, .inl sp)), ((g 9), .inl (cI, 40, .inl wt)), ((g 12), .inl (cI, 5, .inl om)), ((g 13), .inl (cI, 5, .inl lk))]) [0, 1, 2, 3, 4, 5] rfl) (hD.sub (ws' := [((g 0), .inr (9, [.int g_th, .ref (g 1), .ref (g 2), .ref (g 3), .ref (g 4), .ref (g 5), .int g_tp, .int g_so, .int g_tk, .int g_pl, .int g_va, .long g_wo, .int g_bd, .int g_bp, .int g_fa, .int g_fp, .ref (g 6), .ref (g 7), .ref (g 8), .ref (g 9), .ref (g 10), .ref (g 11), .int y_1, .int y_178, .int 0, .int 0, .int y_2, .ref (g 12), .ref (g 13), .int g_jo, .ref (g 14), .ref (g 15), .long g_bt, .int g_sb, .int g_ab, .int g_al, .ref (g 16), .ref (g 17)])), ((g 7), .inl (cI, 35, .inl hs)), ((g 8), .inl (cI, 75, .inl sp)), ((g 9), .inl (cI, 40, .inl wt)), ((g 12), .inl (cI, 5, .inl om)), ((g 13), .inl (cI, 5, .inl lk))]) [0, 1, 2, 3, 4, 5] (by decide) rfl) hS (lv_sub hl [0, 1] rfl)
  exact lp_119 _ 0 0 _ _ _ (by first | omega | assumption | decide | exact LK_0 | exact OM_0 | exact CE_0 | exact SZI_0 | exact CLR_0 | exact CP_0 | exact PV_0 | exact BV_0 (by assumption) (by omega) (by omega) | exact LK_mono (by assumption) (by omega) | exact OM_mono (by assumption) (by omega) | exact CE_mono (by assumption) (by omega) | exact CLR_mono (by assumption) (by omega) | exact CP_mono (by assumption) (by omega) | (have e0 := T0; have e1 := T1; have e2 := T2; have em1 := Tm1; omega)) (Nat.lt_succ_self _) hP hD hS (lv_sub hl [0, 1] rfl)
set_option maxHeartbeats 8000000 in
set_option maxRecDepth 100000 in
theorem s_X9_cupOf (l : Launch) (dC : Nat → ClassId) (dI : Nat → Nat → Nat) (cB cI cJ cZ cL : ClassId) (g : Nat → Nat) (g_th : Int32) (g_tp : Int32) (g_so : Int32) (g_tk : Int32) (g_pl : Int32) (g_va : Int32) (g_wo : Int64) (g_bd : Int32) (g_bp : Int32) (g_fa : Int32) (g_fp : Int32) (g_lw : Int32) (g_we : Int32) (g_cu : Int32) (g_go : Int32) (g_ba : Int32) (g_jo : Int32) (g_bt : Int64) (g_sb : Int32) (g_ab : Int32) (g_al : Int32) (hs : Nat → Int32) (ac : Nat → Int32) (p0 : Int32) (p1 : Int32) (h6 : 0 ≤ Int32.toInt (hs 6) ∧ Int32.toInt (hs 6) ≤ 30) : Met l yX9_cupOf (wy yX9_cupOf cX9_cupOf 5 (some .int)) ({ frames := 1, cells := 0, slots := 0, locals := 40 }) (va_Pc [.ref (g 0), .int p0, .int p1] (fun U => va_P (dC, dI) vwCl [((g 0), .inr (9, [.int g_th, .ref (g 1), .ref (g 2), .ref (g 3), .ref (g 4), .ref (g 5), .int g_tp, .int g_so, .int g_tk, .int g_pl, .int g_va, .long g_wo, .int g_bd, .int g_bp, .int g_fa, .int g_fp, .ref (g 6), .ref (g 7), .ref (g 8), .ref (g 9), .ref (g 10), .ref (g 11), .int g_lw, .int g_we, .int g_cu, .int g_go, .int g_ba, .ref (g 12), .ref (g 13), .int g_jo, .ref (g 14), .ref (g 15), .long g_bt, .int g_sb, .int g_ab, .int g_al, .ref (g 16), .ref (g 17)])), ((g 7), .inl (cI, 35, .inl hs)), ((g 10), .inl (cI, 450, .inl ac))] U.heap ∧ va_K (dC, dI) vwCl (tyL cB cI cJ cZ cL) U ∧ NW U)) (vp_Si (fun r => True)) 0 0 (fun _ => False) := by
  refine Met.ofW (cc := cX9_cupOf) (maxL := 5) (ret := (some .int)) (by decide) rfl ?_
  intro p e s m args below meth c s₁ B hml hv
  obtain ⟨rfl, hP, hK, hN⟩ := hv
  have hx := B.exec
  have hb := B.bytes
  have hr := B.returns
  have ht : ∀ w ∈ lw_ok, w.before _ s = true := fun w h => atoms_spec (ws := wy yX9_cupOf cX9_cupOf 5 (some .int)) B.pre w (List.mem_cons_of_mem _ h)
  have hown : s.vm.findClass RX9 = some m.cls := findClass_of_methodNamed B.named
  have hlocks := B.notSynchronized
  have hl := lv_entry ([.ref (g 0), .int p0, .int p1]) (n := 5) (Nat.le_of_ble_eq_true rfl)
  rw [lg_entry_eq]
  generalize (lg_sl ([.ref (g 0), .int p0, .int p1]) ++ List.replicate (5 - (lg_sl ([.ref (g 0), .int p0, .int p1])).length) Slot.unset).toArray = ls at hl ⊢
  have hl : lv_has ls 5 [(0, .ref (g 0)), (1, .int p0), (2, .int p1)] := hl
  have hP : va_P (dC, dI) vwCl [((g 0), .inr (9, [.int g_th, .ref (g 1), .ref (g 2), .ref (g 3), .ref (g 4), .ref (g 5), .int g_tp, .int g_so, .int g_tk, .int g_pl, .int g_va, .long g_wo, .int g_bd, .int g_bp, .int g_fa, .int g_fp, .ref (g 6), .ref (g 7), .ref (g 8), .ref (g 9), .ref (g 10), .ref (g 11), .int g_lw, .int g_we, .int g_cu, .int g_go, .int g_ba, .ref (g 12), .ref (g 13), .int g_jo, .ref (g 14), .ref (g 15), .long g_bt, .int g_sb, .int g_ab, .int g_al, .ref (g 16), .ref (g 17)])), ((g 7), .inl (cI, 35, .inl hs)), ((g 10), .inl (cI, 450, .inl ac))] s.heap := hP
  have rg_p0 := rgI p0
  have rg_p1 := rgI p1
  refine lv_aload_n hx hb dX9_cupOf_0 rfl (lv_at hl 0 rfl) ?_
  refine va_get (D := (dC, dI)) (ci := 9) (v := .int g_cu) (C := RX9) (T := TX9) (N := 38) hx hb ht iX9 hown hK hP 0 rfl rfl 24 (by decide) (ht _ w_1286) (fun _ h9 => h9) rfl dX9_cupOf_1 ?_
  refine lv_iload_n hx hb dX9_cupOf_4 rfl (lv_at hl 1 rfl) ?_
  have hPc := hP.sub (ws' := []) [] rfl
  refine vp_callSi (W.runS (As := [.int g_cu, .int p0]) (rest := []) ⟨hx, hb, hml, hown, ht⟩ (s_X9_isBit l dC dI cB cI cJ cZ cL g_cu p0) (va_cwS 2 ht (gQ w_1570 w_1571 w_114 w_1572) rfl rfl rfl (by decide +kernel) ⟨Nat.le_of_ble_eq_true rfl, Nat.le_of_ble_eq_true rfl⟩) (pSSn hN hK hPc) rfl rfl hl.1 rfl (lv_room (Nat.le_of_ble_eq_true rfl)) dX9_cupOf_5 ⟨Nat.le_of_ble_eq_true rfl, Nat.le_of_ble_eq_true rfl⟩) (fun r_1 hw => ?_)
  clear hPc
  (try dsimp only at hw)
  have hw_2 := hw
  clear hw
  refine lv_if_eq (tgt := 15) hx hb dX9_cupOf_8 (by decide) (fun c_3 => ?_) (fun c_3 => ?_)
  · (try simp only [i_lt, i_le, i_eq, T0] at c_3)
    refine lv_iconst (v := (-1)) hx hb dX9_cupOf_15 (by decide) ?_
    refine lv_istore_n (lv' := [(3, .int (-1)), (0, .ref (g 0)), (1, .int p0), (2, .int p1)]) hx hb dX9_cupOf_16 rfl hl (by decide) rfl (fun ls hl => ?_)
    refine lv_iconst (v := 0) hx hb dX9_cupOf_17 (by decide) ?_
    refine lv_istore (lv' := [(4, .int 0), (3, .int (-1)), (0, .ref (g 0)), (1, .int p0), (2, .int p1)]) hx hb dX9_cupOf_18 hl (by decide) rfl (fun ls hl => ?_)
    have lp_46 : ∀ (d : Nat) (v_22 : Int32) (v_23 : Int32) (ls : Array Slot), ((0 ≤ Int32.toInt v_23)) → ((2147483647 - Int32.toInt v_23).toNat < d) → lv_has ls 5 [(4, .int v_23), (3, .int v_22), (0, .ref (g 0)), (1, .int p0), (2, .int p1)] → W p l e (headSpec (wy yX9_cupOf cX9_cupOf 5 (some .int)) ({ frames := 1, cells := 0, slots := 0, locals := 40 })).room s m ([.ref (g 0), .int p0, .int p1] : List Value).toArray below meth c s.heap [] 0 0 (MQ below (vp_Si (fun r => True)) ([.ref (g 0), .int p0, .int p1] : List Value).toArray s 0 0 (fun _ => False)) (F0 m 20 ls []) := by
      intro d
      induction d with
      | zero => intro v_22 v_23  ls hI hM; exfalso; exact absurd hM (Nat.not_lt_zero _)
      | succ d ih_47 =>
        intro v_22 v_23 ls hI hM hl
        have hI_48 := hI
        refine lv_iload hx hb dX9_cupOf_20 (lv_at hl 0 rfl) ?_
        refine lv_aload_n hx hb dX9_cupOf_22 rfl (lv_at hl 2 rfl) ?_
        refine va_get (D := (dC, dI)) (ci := 9) (v := .ref (g 7)) (C := RX9) (T := TX9) (N := 38) hx hb ht iX9 hown hK hP 0 rfl rfl 17 (by decide) (ht _ w_1279) (fun _ h9 => h9) rfl dX9_cupOf_23 ?_
        refine lv_bipush (v := 6) hx hb dX9_cupOf_26 (by decide) ?_
        refine va_iald hx hb hK hP 1 1 rfl rfl (by unfold vp_in; decide) dX9_cupOf_28 ?_
        refine lv_topi (fun y_49 ey_49 => ?_)
        have qy_49 : Int32.toInt y_49 = Int32.toInt (hs 6) := congrArg Int32.toInt ey_49
        refine lv_icmp_ge (tgt := 96) hx hb dX9_cupOf_29 (by decide) (fun c_50 => ?_) (fun c_50 => ?_)
        · (try simp only [i_lt, i_le, i_eq] at c_50)
          refine lv_iload_n hx hb dX9_cupOf_96 rfl (lv_at hl 1 rfl) ?_
          exact W.iret (v := v_22) hx hb hr (fun t ht hW => ⟨v_22, rfl, trivial, ht⟩) (fun q h => absurd h List.not_mem_nil) dX9_cupOf_97
        · (try simp only [i_lt, i_le, i_eq] at c_50)
          refine lv_aload_n hx hb dX9_cupOf_32 rfl (lv_at hl 2 rfl) ?_
          refine va_get (D := (dC, dI)) (ci := 9) (v := .ref (g 10)) (C := RX9) (T := TX9) (N := 38) hx hb ht iX9 hown hK hP 0 rfl rfl 20 (by decide) (ht _ w_1282) (fun _ h9 => h9) rfl dX9_cupOf_33 ?_
          refine lv_iconst (v := 3) hx hb dX9_cupOf_36 (by decide) ?_
          refine lv_iload hx hb dX9_cupOf_37 (lv_at hl 0 rfl) ?_
          refine lv_imul hx hb dX9_cupOf_39 ?_
          refine lv_topi (fun y_51 ey_51 => ?_)
          have ty_51 := imulF ey_51
          simp only [T3] at ty_51
          clear ey_51
          refine va_iald hx hb hK hP 2 1 rfl rfl (vp_in_iff.mpr (by omega)) dX9_cupOf_40 ?_
          refine lv_topi (fun y_52 ey_52 => ?_)
          refine lv_if_ne (tgt := 90) hx hb dX9_cupOf_41 (by decide) (fun c_53 => ?_) (fun c_53 => ?_)
          · (try simp only [i_lt, i_le, i_eq, T0] at c_53)
            obtain ⟨y_54, ey_54⟩ : ∃ z : Int32, z = v_23 + 1 := ⟨_, rfl⟩
            have ty_54 := iaddF ey_54
            simp only [T1] at ty_54
            refine lv_iinc (v := y_54) (lv' := [(4, .int y_54), (3, .int v_22), (0, .ref (g 0)), (1, .int p0), (2, .int p1)]) hx hb dX9_cupOf_90 hl (k := 0) rfl (by rw [ey_54]; rfl) (by decide) rfl (fun ls hl => ?_)
            clear ey_54
            refine lv_goto (tgt := 20) hx hb dX9_cupOf_93 (by decide) ?_
            exact ih_47 v_22 y_54 _ (by first | omega | assumption | decide | exact LK_0 | exact OM_0 | exact CE_0 | exact SZI_0 | exact CLR_0 | exact CP_0 | exact PV_0 | exact BV_0 (by assumption) (by omega) (by omega) | exact LK_mono (by assumption) (by omega) | exact OM_mono (by assumption) (by omega) | exact CE_mono (by assumption) (by omega) | exact CLR_mono (by assumption) (by omega) | exact CP_mono (by assumption) (by omega) | (have e0 := T0; have e1 := T1; have e2 := T2; have em1 := Tm1; omega)) (by omega) (lv_sub hl [0, 1, 2, 3, 4] rfl)
          · (try simp only [i_lt, i_le, i_eq, T0] at c_53)
            refine lv_aload_n hx hb dX9_cupOf_44 rfl (lv_at hl 2 rfl) ?_
            refine va_get (D := (dC, dI)) (ci := 9) (v := .ref (g 10)) (C := RX9) (T := TX9) (N := 38) hx hb ht iX9 hown hK hP 0 rfl rfl 20 (by decide) (ht _ w_1282) (fun _ h9 => h9) rfl dX9_cupOf_45 ?_
            refine lv_iconst (v := 3) hx hb dX9_cupOf_48 (by decide) ?_
            refine lv_iload hx hb dX9_cupOf_49 (lv_at hl 0 rfl) ?_
            refine lv_imul hx hb dX9_cupOf_51 ?_
            refine lv_topi (fun y_55 ey_55 => ?_)
            have ty_55 := imulF ey_55
            simp only [T3] at ty_55
            clear ey_55
            refine lv_iconst (v := 1) hx hb dX9_cupOf_52 (by decide) ?_
            refine lv_iadd hx hb dX9_cupOf_53 ?_
            refine lv_topi (fun y_56 ey_56 => ?_)
            have ty_56 := iaddF ey_56
            simp only [T1] at ty_56
            clear ey_56
            refine va_iald hx hb hK hP 2 1 rfl rfl (vp_in_iff.mpr (by omega)) dX9_cupOf_54 ?_
            refine lv_topi (fun y_57 ey_57 => ?_)
            refine lv_iload_n hx hb dX9_cupOf_55 rfl (lv_at hl 3 rfl) ?_
            refine lv_icmp_ne (tgt := 90) hx hb dX9_cupOf_56 (by decide) (fun c_58 => ?_) (fun c_58 => ?_)
            · (try simp only [i_lt, i_le, i_eq] at c_58)
              obtain ⟨y_59, ey_59⟩ : ∃ z : Int32, z = v_23 + 1 := ⟨_, rfl⟩
              have ty_59 := iaddF ey_59
              simp only [T1] at ty_59
              refine lv_iinc (v := y_59) (lv' := [(4, .int y_59), (3, .int v_22), (0, .ref (g 0)), (1, .int p0), (2, .int p1)]) hx hb dX9_cupOf_90 hl (k := 0) rfl (by rw [ey_59]; rfl) (by decide) rfl (fun ls hl => ?_)
              clear ey_59
              refine lv_goto (tgt := 20) hx hb dX9_cupOf_93 (by decide) ?_
              exact ih_47 v_22 y_59 _ (by first | omega | assumption | decide | exact LK_0 | exact OM_0 | exact CE_0 | exact SZI_0 | exact CLR_0 | exact CP_0 | exact PV_0 | exact BV_0 (by assumption) (by omega) (by omega) | exact LK_mono (by assumption) (by omega) | exact OM_mono (by assumption) (by omega) | exact CE_mono (by assumption) (by omega) | exact CLR_mono (by assumption) (by omega) | exact CP_mono (by assumption) (by omega) | (have e0 := T0; have e1 := T1; have e2 := T2; have em1 := Tm1; omega)) (by omega) (lv_sub hl [0, 1, 2, 3, 4] rfl)
            · (try simp only [i_lt, i_le, i_eq] at c_58)
              refine lv_aload_n hx hb dX9_cupOf_59 rfl (lv_at hl 2 rfl) ?_
              refine va_get (D := (dC, dI)) (ci := 9) (v := .ref (g 10)) (C := RX9) (T := TX9) (N := 38) hx hb ht iX9 hown hK hP 0 rfl rfl 20 (by decide) (ht _ w_1282) (fun _ h9 => h9) rfl dX9_cupOf_60 ?_
              refine lv_iconst (v := 3) hx hb dX9_cupOf_63 (by decide) ?_
              refine lv_iload hx hb dX9_cupOf_64 (lv_at hl 0 rfl) ?_
              refine lv_imul hx hb dX9_cupOf_66 ?_
              refine lv_topi (fun y_60 ey_60 => ?_)
              have ty_60 := imulF ey_60
              simp only [T3] at ty_60
              clear ey_60
              refine lv_iconst (v := 2) hx hb dX9_cupOf_67 (by decide) ?_
              refine lv_iadd hx hb dX9_cupOf_68 ?_
              refine lv_topi (fun y_61 ey_61 => ?_)
              have ty_61 := iaddF ey_61
              simp only [T2] at ty_61
              clear ey_61
              refine va_iald hx hb hK hP 2 1 rfl rfl (vp_in_iff.mpr (by omega)) dX9_cupOf_69 ?_
              refine lv_topi (fun y_62 ey_62 => ?_)
              refine lv_iload_n hx hb dX9_cupOf_70 rfl (lv_at hl 4 rfl) ?_
              refine lv_icmp_gt (tgt := 90) hx hb dX9_cupOf_71 (by decide) (fun c_63 => ?_) (fun c_63 => ?_)
              · (try simp only [i_lt, i_le, i_eq] at c_63)
                obtain ⟨y_64, ey_64⟩ : ∃ z : Int32, z = v_23 + 1 := ⟨_, rfl⟩
                have ty_64 := iaddF ey_64
                simp only [T1] at ty_64
                refine lv_iinc (v := y_64) (lv' := [(4, .int y_64), (3, .int v_22), (0, .ref (g 0)), (1, .int p0), (2, .int p1)]) hx hb dX9_cupOf_90 hl (k := 0) rfl (by rw [ey_64]; rfl) (by decide) rfl (fun ls hl => ?_)
                clear ey_64
                refine lv_goto (tgt := 20) hx hb dX9_cupOf_93 (by decide) ?_
                exact ih_47 v_22 y_64 _ (by first | omega | assumption | decide | exact LK_0 | exact OM_0 | exact CE_0 | exact SZI_0 | exact CLR_0 | exact CP_0 | exact PV_0 | exact BV_0 (by assumption) (by omega) (by omega) | exact LK_mono (by assumption) (by omega) | exact OM_mono (by assumption) (by omega) | exact CE_mono (by assumption) (by omega) | exact CLR_mono (by assumption) (by omega) | exact CP_mono (by assumption) (by omega) | (have e0 := T0; have e1 := T1; have e2 := T2; have em1 := Tm1; omega)) (by omega) (lv_sub hl [0, 1, 2, 3, 4] rfl)
              · (try simp only [i_lt, i_le, i_eq] at c_63)
                refine lv_iload_n hx hb dX9_cupOf_74 rfl (lv_at hl 1 rfl) ?_
                refine lv_aload_n hx hb dX9_cupOf_75 rfl (lv_at hl 2 rfl) ?_
                refine va_get (D := (dC, dI)) (ci := 9) (v := .ref (g 10)) (C := RX9) (T := TX9) (N := 38) hx hb ht iX9 hown hK hP 0 rfl rfl 20 (by decide) (ht _ w_1282) (fun _ h9 => h9) rfl dX9_cupOf_76 ?_
                refine lv_iconst (v := 3) hx hb dX9_cupOf_79 (by decide) ?_
                refine lv_iload hx hb dX9_cupOf_80 (lv_at hl 0 rfl) ?_
                refine lv_imul hx hb dX9_cupOf_82 ?_
                refine lv_topi (fun y_65 ey_65 => ?_)
                have ty_65 := imulF ey_65
                simp only [T3] at ty_65
                clear ey_65
                refine lv_iconst (v := 2) hx hb dX9_cupOf_83 (by decide) ?_
                refine lv_iadd hx hb dX9_cupOf_84 ?_
                refine lv_topi (fun y_66 ey_66 => ?_)
                have ty_66 := iaddF ey_66
                simp only [T2] at ty_66
                clear ey_66
                refine va_iald hx hb hK hP 2 1 rfl rfl (vp_in_iff.mpr (by omega)) dX9_cupOf_85 ?_
                refine lv_topi (fun y_67 ey_67 => ?_)
                have hPc := hP.sub (ws' := []) [] rfl
                refine vp_callSi (W.runS (As := [.int v_22, .int y_67]) (rest := []) ⟨hx, hb, hml, hown, ht⟩ (s_X9_moreOf l dC dI cB cI cJ cZ cL v_22 y_67) (va_cwS 2 ht (gQ w_1573 w_1574 w_114 w_1575) rfl rfl rfl (by decide +kernel) ⟨Nat.le_of_ble_eq_true rfl, Nat.le_of_ble_eq_true rfl⟩) (pSSn hN hK hPc) rfl rfl hl.1 rfl (lv_room (Nat.le_of_ble_eq_true rfl)) dX9_cupOf_86 ⟨Nat.le_of_ble_eq_true rfl, Nat.le_of_ble_eq_true rfl⟩) (fun r_68 hw => ?_)
                clear hPc
                (try dsimp only at hw)
                have hw_69 := hw
                clear hw
                obtain ⟨hw_69_0, hw_69_1, hw_69_2⟩ := hw_69
                refine lv_istore_n (lv' := [(3, .int r_68), (4, .int v_23), (0, .ref (g 0)), (1, .int p0), (2, .int p1)]) hx hb dX9_cupOf_89 rfl hl (by decide) rfl (fun ls hl => ?_)
                obtain ⟨y_70, ey_70⟩ : ∃ z : Int32, z = v_23 + 1 := ⟨_, rfl⟩
                have ty_70 := iaddF ey_70
                simp only [T1] at ty_70
                refine lv_iinc (v := y_70) (lv' := [(4, .int y_70), (3, .int r_68), (0, .ref (g 0)), (1, .int p0), (2, .int p1)]) hx hb dX9_cupOf_90 hl (k := 1) rfl (by rw [ey_70]; rfl) (by decide) rfl (fun ls hl => ?_)
                clear ey_70
                refine lv_goto (tgt := 20) hx hb dX9_cupOf_93 (by decide) ?_
                exact ih_47 r_68 y_70 _ (by first | omega | assumption | decide | exact LK_0 | exact OM_0 | exact CE_0 | exact SZI_0 | exact CLR_0 | exact CP_0 | exact PV_0 | exact BV_0 (by assumption) (by omega) (by omega) | exact LK_mono (by assumption) (by omega) | exact OM_mono (by assumption) (by omega) | exact CE_mono (by assumption) (by omega) | exact CLR_mono (by assumption) (by omega) | exact CP_mono (by assumption) (by omega) | (have e0 := T0; have e1 := T1; have e2 := T2; have em1 := Tm1; omega)) (by omega) (lv_sub hl [0, 1, 2, 3, 4] rfl)
    exact lp_46 _ (-1) 0 _ (by first | omega | assumption | decide | exact LK_0 | exact OM_0 | exact CE_0 | exact SZI_0 | exact CLR_0 | exact CP_0 | exact PV_0 | exact BV_0 (by assumption) (by omega) (by omega) | exact LK_mono (by assumption) (by omega) | exact OM_mono (by assumption) (by omega) | exact CE_mono (by assumption) (by omega) | exact CLR_mono (by assumption) (by omega) | exact CP_mono (by assumption) (by omega) | (have e0 := T0; have e1 := T1; have e2 := T2; have em1 := Tm1; omega)) (Nat.lt_succ_self _) (lv_sub hl [0, 1, 2, 3, 4] rfl)
  · (try simp only [i_lt, i_le, i_eq, T0] at c_3)
    refine lv_iconst (v := 0) hx hb dX9_cupOf_11 (by decide) ?_
    refine lv_goto (tgt := 16) hx hb dX9_cupOf_12 (by decide) ?_
    refine lv_istore_n (lv' := [(3, .int 0), (0, .ref (g 0)), (1, .int p0), (2, .int p1)]) hx hb dX9_cupOf_16 rfl hl (by decide) rfl (fun ls hl => ?_)
    refine lv_iconst (v := 0) hx hb dX9_cupOf_17 (by decide) ?_
    refine lv_istore (lv' := [(4, .int 0), (3, .int 0), (0, .ref (g 0)), (1, .int p0), (2, .int p1)]) hx hb dX9_cupOf_18 hl (by decide) rfl (fun ls hl => ?_)
    have lp_113 : ∀ (d : Nat) (v_89 : Int32) (v_90 : Int32) (ls : Array Slot), ((0 ≤ Int32.toInt v_90)) → ((2147483647 - Int32.toInt v_90).toNat < d) → lv_has ls 5 [(4, .int v_90), (3, .int v_89), (0, .ref (g 0)), (1, .int p0), (2, .int p1)] → W p l e (headSpec (wy yX9_cupOf cX9_cupOf 5 (some .int)) ({ frames := 1, cells := 0, slots := 0, locals := 40 })).room s m ([.ref (g 0), .int p0, .int p1] : List Value).toArray below meth c s.heap [] 0 0 (MQ below (vp_Si (fun r => True)) ([.ref (g 0), .int p0, .int p1] : List Value).toArray s 0 0 (fun _ => False)) (F0 m 20 ls []) := by
      intro d
      induction d with
      | zero => intro v_89 v_90  ls hI hM; exfalso; exact absurd hM (Nat.not_lt_zero _)
      | succ d ih_114 =>
        intro v_89 v_90 ls hI hM hl
        have hI_115 := hI
        refine lv_iload hx hb dX9_cupOf_20 (lv_at hl 0 rfl) ?_
        refine lv_aload_n hx hb dX9_cupOf_22 rfl (lv_at hl 2 rfl) ?_
        refine va_get (D := (dC, dI)) (ci := 9) (v := .ref (g 7)) (C := RX9) (T := TX9) (N := 38) hx hb ht iX9 hown hK hP 0 rfl rfl 17 (by decide) (ht _ w_1279) (fun _ h9 => h9) rfl dX9_cupOf_23 ?_
        refine lv_bipush (v := 6) hx hb dX9_cupOf_26 (by decide) ?_
        refine va_iald hx hb hK hP 1 1 rfl rfl (by unfold vp_in; decide) dX9_cupOf_28 ?_
        refine lv_topi (fun y_116 ey_116 => ?_)
        have qy_116 : Int32.toInt y_116 = Int32.toInt (hs 6) := congrArg Int32.toInt ey_116
        refine lv_icmp_ge (tgt := 96) hx hb dX9_cupOf_29 (by decide) (fun c_117 => ?_) (fun c_117 => ?_)
        · (try simp only [i_lt, i_le, i_eq] at c_117)
          refine lv_iload_n hx hb dX9_cupOf_96 rfl (lv_at hl 1 rfl) ?_
          exact W.iret (v := v_89) hx hb hr (fun t ht hW => ⟨v_89, rfl, trivial, ht⟩) (fun q h => absurd h List.not_mem_nil) dX9_cupOf_97
        · (try simp only [i_lt, i_le, i_eq] at c_117)
          refine lv_aload_n hx hb dX9_cupOf_32 rfl (lv_at hl 2 rfl) ?_
          refine va_get (D := (dC, dI)) (ci := 9) (v := .ref (g 10)) (C := RX9) (T := TX9) (N := 38) hx hb ht iX9 hown hK hP 0 rfl rfl 20 (by decide) (ht _ w_1282) (fun _ h9 => h9) rfl dX9_cupOf_33 ?_
          refine lv_iconst (v := 3) hx hb dX9_cupOf_36 (by decide) ?_
          refine lv_iload hx hb dX9_cupOf_37 (lv_at hl 0 rfl) ?_
          refine lv_imul hx hb dX9_cupOf_39 ?_
          refine lv_topi (fun y_118 ey_118 => ?_)
          have ty_118 := imulF ey_118
          simp only [T3] at ty_118
          clear ey_118
          refine va_iald hx hb hK hP 2 1 rfl rfl (vp_in_iff.mpr (by omega)) dX9_cupOf_40 ?_
          refine lv_topi (fun y_119 ey_119 => ?_)
          refine lv_if_ne (tgt := 90) hx hb dX9_cupOf_41 (by decide) (fun c_120 => ?_) (fun c_120 => ?_)
          · (try simp only [i_lt, i_le, i_eq, T0] at c_120)
            obtain ⟨y_121, ey_121⟩ : ∃ z : Int32, z = v_90 + 1 := ⟨_, rfl⟩
            have ty_121 := iaddF ey_121
            simp only [T1] at ty_121
            refine lv_iinc (v := y_121) (lv' := [(4, .int y_121), (3, .int v_89), (0, .ref (g 0)), (1, .int p0), (2, .int p1)]) hx hb dX9_cupOf_90 hl (k := 0) rfl (by rw [ey_121]; rfl) (by decide) rfl (fun ls hl => ?_)
            clear ey_121
            refine lv_goto (tgt := 20) hx hb dX9_cupOf_93 (by decide) ?_
            exact ih_114 v_89 y_121 _ (by first | omega | assumption | decide | exact LK_0 | exact OM_0 | exact CE_0 | exact SZI_0 | exact CLR_0 | exact CP_0 | exact PV_0 | exact BV_0 (by assumption) (by omega) (by omega) | exact LK_mono (by assumption) (by omega) | exact OM_mono (by assumption) (by omega) | exact CE_mono (by assumption) (by omega) | exact CLR_mono (by assumption) (by omega) | exact CP_mono (by assumption) (by omega) | (have e0 := T0; have e1 := T1; have e2 := T2; have em1 := Tm1; omega)) (by omega) (lv_sub hl [0, 1, 2, 3, 4] rfl)
          · (try simp only [i_lt, i_le, i_eq, T0] at c_120)
            refine lv_aload_n hx hb dX9_cupOf_44 rfl (lv_at hl 2 rfl) ?_
            refine va_get (D := (dC, dI)) (ci := 9) (v := .ref (g 10)) (C := RX9) (T := TX9) (N := 38) hx hb ht iX9 hown hK hP 0 rfl rfl 20 (by decide) (ht _ w_1282) (fun _ h9 => h9) rfl dX9_cupOf_45 ?_
            refine lv_iconst (v := 3) hx hb dX9_cupOf_48 (by decide) ?_
            refine lv_iload hx hb dX9_cupOf_49 (lv_at hl 0 rfl) ?_
            refine lv_imul hx hb dX9_cupOf_51 ?_
            refine lv_topi (fun y_122 ey_122 => ?_)
            have ty_122 := imulF ey_122
            simp only [T3] at ty_122
            clear ey_122
            refine lv_iconst (v := 1) hx hb dX9_cupOf_52 (by decide) ?_
            refine lv_iadd hx hb dX9_cupOf_53 ?_
            refine lv_topi (fun y_123 ey_123 => ?_)
            have ty_123 := iaddF ey_123
            simp only [T1] at ty_123
            clear ey_123
            refine va_iald hx hb hK hP 2 1 rfl rfl (vp_in_iff.mpr (by omega)) dX9_cupOf_54 ?_
            refine lv_topi (fun y_124 ey_124 => ?_)
            refine lv_iload_n hx hb dX9_cupOf_55 rfl (lv_at hl 3 rfl) ?_
            refine lv_icmp_ne (tgt := 90) hx hb dX9_cupOf_56 (by decide) (fun c_125 => ?_) (fun c_125 => ?_)
            · (try simp only [i_lt, i_le, i_eq] at c_125)
              obtain ⟨y_126, ey_126⟩ : ∃ z : Int32, z = v_90 + 1 := ⟨_, rfl⟩
              have ty_126 := iaddF ey_126
              simp only [T1] at ty_126
              refine lv_iinc (v := y_126) (lv' := [(4, .int y_126), (3, .int v_89), (0, .ref (g 0)), (1, .int p0), (2, .int p1)]) hx hb dX9_cupOf_90 hl (k := 0) rfl (by rw [ey_126]; rfl) (by decide) rfl (fun ls hl => ?_)
              clear ey_126
              refine lv_goto (tgt := 20) hx hb dX9_cupOf_93 (by decide) ?_
              exact ih_114 v_89 y_126 _ (by first | omega | assumption | decide | exact LK_0 | exact OM_0 | exact CE_0 | exact SZI_0 | exact CLR_0 | exact CP_0 | exact PV_0 | exact BV_0 (by assumption) (by omega) (by omega) | exact LK_mono (by assumption) (by omega) | exact OM_mono (by assumption) (by omega) | exact CE_mono (by assumption) (by omega) | exact CLR_mono (by assumption) (by omega) | exact CP_mono (by assumption) (by omega) | (have e0 := T0; have e1 := T1; have e2 := T2; have em1 := Tm1; omega)) (by omega) (lv_sub hl [0, 1, 2, 3, 4] rfl)
            · (try simp only [i_lt, i_le, i_eq] at c_125)
              refine lv_aload_n hx hb dX9_cupOf_59 rfl (lv_at hl 2 rfl) ?_
              refine va_get (D := (dC, dI)) (ci := 9) (v := .ref (g 10)) (C := RX9) (T := TX9) (N := 38) hx hb ht iX9 hown hK hP 0 rfl rfl 20 (by decide) (ht _ w_1282) (fun _ h9 => h9) rfl dX9_cupOf_60 ?_
              refine lv_iconst (v := 3) hx hb dX9_cupOf_63 (by decide) ?_
              refine lv_iload hx hb dX9_cupOf_64 (lv_at hl 0 rfl) ?_
              refine lv_imul hx hb dX9_cupOf_66 ?_
              refine lv_topi (fun y_127 ey_127 => ?_)
              have ty_127 := imulF ey_127
              simp only [T3] at ty_127
              clear ey_127
              refine lv_iconst (v := 2) hx hb dX9_cupOf_67 (by decide) ?_
              refine lv_iadd hx hb dX9_cupOf_68 ?_
              refine lv_topi (fun y_128 ey_128 => ?_)
              have ty_128 := iaddF ey_128
              simp only [T2] at ty_128
              clear ey_128
              refine va_iald hx hb hK hP 2 1 rfl rfl (vp_in_iff.mpr (by omega)) dX9_cupOf_69 ?_
              refine lv_topi (fun y_129 ey_129 => ?_)
              refine lv_iload_n hx hb dX9_cupOf_70 rfl (lv_at hl 4 rfl) ?_
              refine lv_icmp_gt (tgt := 90) hx hb dX9_cupOf_71 (by decide) (fun c_130 => ?_) (fun c_130 => ?_)
              · (try simp only [i_lt, i_le, i_eq] at c_130)
                obtain ⟨y_131, ey_131⟩ : ∃ z : Int32, z = v_90 + 1 := ⟨_, rfl⟩
                have ty_131 := iaddF ey_131
                simp only [T1] at ty_131
                refine lv_iinc (v := y_131) (lv' := [(4, .int y_131), (3, .int v_89), (0, .ref (g 0)), (1, .int p0), (2, .int p1)]) hx hb dX9_cupOf_90 hl (k := 0) rfl (by rw [ey_131]; rfl) (by decide) rfl (fun ls hl => ?_)
                clear ey_131
                refine lv_goto (tgt := 20) hx hb dX9_cupOf_93 (by decide) ?_
                exact ih_114 v_89 y_131 _ (by first | omega | assumption | decide | exact LK_0 | exact OM_0 | exact CE_0 | exact SZI_0 | exact CLR_0 | exact CP_0 | exact PV_0 | exact BV_0 (by assumption) (by omega) (by omega) | exact LK_mono (by assumption) (by omega) | exact OM_mono (by assumption) (by omega) | exact CE_mono (by assumption) (by omega) | exact CLR_mono (by assumption) (by omega) | exact CP_mono (by assumption) (by omega) | (have e0 := T0; have e1 := T1; have e2 := T2; have em1 := Tm1; omega)) (by omega) (lv_sub hl [0, 1, 2, 3, 4] rfl)
              · (try simp only [i_lt, i_le, i_eq] at c_130)
                refine lv_iload_n hx hb dX9_cupOf_74 rfl (lv_at hl 1 rfl) ?_
                refine lv_aload_n hx hb dX9_cupOf_75 rfl (lv_at hl 2 rfl) ?_
                refine va_get (D := (dC, dI)) (ci := 9) (v := .ref (g 10)) (C := RX9) (T := TX9) (N := 38) hx hb ht iX9 hown hK hP 0 rfl rfl 20 (by decide) (ht _ w_1282) (fun _ h9 => h9) rfl dX9_cupOf_76 ?_
                refine lv_iconst (v := 3) hx hb dX9_cupOf_79 (by decide) ?_
                refine lv_iload hx hb dX9_cupOf_80 (lv_at hl 0 rfl) ?_
                refine lv_imul hx hb dX9_cupOf_82 ?_
                refine lv_topi (fun y_132 ey_132 => ?_)
                have ty_132 := imulF ey_132
                simp only [T3] at ty_132
                clear ey_132
                refine lv_iconst (v := 2) hx hb dX9_cupOf_83 (by decide) ?_
                refine lv_iadd hx hb dX9_cupOf_84 ?_
                refine lv_topi (fun y_133 ey_133 => ?_)
                have ty_133 := iaddF ey_133
                simp only [T2] at ty_133
                clear ey_133
                refine va_iald hx hb hK hP 2 1 rfl rfl (vp_in_iff.mpr (by omega)) dX9_cupOf_85 ?_
                refine lv_topi (fun y_134 ey_134 => ?_)
                have hPc := hP.sub (ws' := []) [] rfl
                refine vp_callSi (W.runS (As := [.int v_89, .int y_134]) (rest := []) ⟨hx, hb, hml, hown, ht⟩ (s_X9_moreOf l dC dI cB cI cJ cZ cL v_89 y_134) (va_cwS 2 ht (gQ w_1573 w_1574 w_114 w_1575) rfl rfl rfl (by decide +kernel) ⟨Nat.le_of_ble_eq_true rfl, Nat.le_of_ble_eq_true rfl⟩) (pSSn hN hK hPc) rfl rfl hl.1 rfl (lv_room (Nat.le_of_ble_eq_true rfl)) dX9_cupOf_86 ⟨Nat.le_of_ble_eq_true rfl, Nat.le_of_ble_eq_true rfl⟩) (fun r_135 hw => ?_)
                clear hPc
                (try dsimp only at hw)
                have hw_136 := hw
                clear hw
                obtain ⟨hw_136_0, hw_136_1, hw_136_2⟩ := hw_136
                refine lv_istore_n (lv' := [(3, .int r_135), (4, .int v_90), (0, .ref (g 0)), (1, .int p0), (2, .int p1)]) hx hb dX9_cupOf_89 rfl hl (by decide) rfl (fun ls hl => ?_)
                obtain ⟨y_137, ey_137⟩ : ∃ z : Int32, z = v_90 + 1 := ⟨_, rfl⟩
                have ty_137 := iaddF ey_137
                simp only [T1] at ty_137
                refine lv_iinc (v := y_137) (lv' := [(4, .int y_137), (3, .int r_135), (0, .ref (g 0)), (1, .int p0), (2, .int p1)]) hx hb dX9_cupOf_90 hl (k := 1) rfl (by rw [ey_137]; rfl) (by decide) rfl (fun ls hl => ?_)
                clear ey_137
                refine lv_goto (tgt := 20) hx hb dX9_cupOf_93 (by decide) ?_
                exact ih_114 r_135 y_137 _ (by first | omega | assumption | decide | exact LK_0 | exact OM_0 | exact CE_0 | exact SZI_0 | exact CLR_0 | exact CP_0 | exact PV_0 | exact BV_0 (by assumption) (by omega) (by omega) | exact LK_mono (by assumption) (by omega) | exact OM_mono (by assumption) (by omega) | exact CE_mono (by assumption) (by omega) | exact CLR_mono (by assumption) (by omega) | exact CP_mono (by assumption) (by omega) | (have e0 := T0; have e1 := T1; have e2 := T2; have em1 := Tm1; omega)) (by omega) (lv_sub hl [0, 1, 2, 3, 4] rfl)
    exact lp_113 _ 0 0 _ (by first | omega | assumption | decide | exact LK_0 | exact OM_0 | exact CE_0 | exact SZI_0 | exact CLR_0 | exact CP_0 | exact PV_0 | exact BV_0 (by assumption) (by omega) (by omega) | exact LK_mono (by assumption) (by omega) | exact OM_mono (by assumption) (by omega) | exact CE_mono (by assumption) (by omega) | exact CLR_mono (by assumption) (by omega) | exact CP_mono (by assumption) (by omega) | (have e0 := T0; have e1 := T1; have e2 := T2; have em1 := Tm1; omega)) (Nat.lt_succ_self _) (lv_sub hl [0, 1, 2, 3, 4] rfl)
