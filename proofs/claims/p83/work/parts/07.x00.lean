set_option maxHeartbeats 8000000 in
set_option maxRecDepth 100000 in
theorem s_J3_ckN (l : Launch) (dC : Nat → ClassId) (dI : Nat → Nat → Nat) (cB cI cJ cZ cL : ClassId)   (p0 : Int32) (p1 : Int32) (h0 : 0 ≤ Int32.toInt p0) (h1 : Int32.toInt p0 < Int32.toInt p1) : Met l yJ3_checkIndex_8e157 (wy yJ3_checkIndex_8e157 cJ3_checkIndex_8e157 3 (some .int)) ({ frames := 0, cells := 0, slots := 0, locals := 0 }) (va_Pc [.int p0, .int p1, .null] (fun U => va_P (dC, dI) vwCl [] U.heap ∧ va_K (dC, dI) vwCl (tyL cB cI cJ cZ cL) U ∧ NW U)) (vp_Si (fun r => True)) 0 0 (fun _ => False) := by
  refine Met.ofW (cc := cJ3_checkIndex_8e157) (maxL := 3) (ret := (some .int)) (by decide) rfl ?_
  intro p e s m args below meth c s₁ B hml hv
  obtain ⟨rfl, hP, hK, hN⟩ := hv
  have hx := B.exec
  have hb := B.bytes
  have hr := B.returns
  have ht : ∀ w ∈ lw_ok, w.before _ s = true := fun w h => atoms_spec (ws := wy yJ3_checkIndex_8e157 cJ3_checkIndex_8e157 3 (some .int)) B.pre w (List.mem_cons_of_mem _ h)
  have hown : s.vm.findClass RJ3 = some m.cls := findClass_of_methodNamed B.named
  have hlocks := B.notSynchronized
  have hl := lv_entry ([.int p0, .int p1, .null]) (n := 3) (Nat.le_of_ble_eq_true rfl)
  rw [lg_entry_eq]
  generalize (lg_sl ([.int p0, .int p1, .null]) ++ List.replicate (3 - (lg_sl ([.int p0, .int p1, .null])).length) Slot.unset).toArray = ls at hl ⊢
  have hl : lv_has ls 3 [(0, .int p0), (1, .int p1), (2, .null)] := hl
  have hP : va_P (dC, dI) vwCl [] s.heap := hP
  have rg_p0 := rgI p0
  have rg_p1 := rgI p1
  refine lv_iload_n hx hb dJ3_checkIndex_8e157_0 rfl (lv_at hl 0 rfl) ?_
  refine lv_if_lt (tgt := 9) hx hb dJ3_checkIndex_8e157_1 (by decide) (fun c9 => absurd c9 (by rw [i_lt, T0]; omega)) (fun _ => ?_)
  refine lv_iload_n hx hb dJ3_checkIndex_8e157_4 rfl (lv_at hl 0 rfl) ?_
  refine lv_iload_n hx hb dJ3_checkIndex_8e157_5 rfl (lv_at hl 1 rfl) ?_
  refine lv_icmp_lt (tgt := 16) hx hb dJ3_checkIndex_8e157_6 (by decide) (fun _ => ?_) (fun c9 => absurd (by rw [i_lt]; exact h1) c9)
  refine lv_iload_n hx hb dJ3_checkIndex_8e157_16 rfl (lv_at hl 0 rfl) ?_
  exact W.iret (v := p0) hx hb hr (fun t ht hW => ⟨p0, rfl, trivial, ht⟩) (fun q h => absurd h List.not_mem_nil) dJ3_checkIndex_8e157_17
set_option maxHeartbeats 8000000 in
set_option maxRecDepth 100000 in
theorem s_J3_ckR (l : Launch) (dC : Nat → ClassId) (dI : Nat → Nat → Nat) (cB cI cJ cZ cL : ClassId) (zq : Nat)  (p0 : Int32) (p1 : Int32) (h0 : 0 ≤ Int32.toInt p0) (h1 : Int32.toInt p0 < Int32.toInt p1) : Met l yJ3_checkIndex_8e157 (wy yJ3_checkIndex_8e157 cJ3_checkIndex_8e157 3 (some .int)) ({ frames := 0, cells := 0, slots := 0, locals := 0 }) (va_Pc [.int p0, .int p1, .ref zq] (fun U => va_P (dC, dI) vwCl [] U.heap ∧ va_K (dC, dI) vwCl (tyL cB cI cJ cZ cL) U ∧ NW U)) (vp_Si (fun r => True)) 0 0 (fun _ => False) := by
  refine Met.ofW (cc := cJ3_checkIndex_8e157) (maxL := 3) (ret := (some .int)) (by decide) rfl ?_
  intro p e s m args below meth c s₁ B hml hv
  obtain ⟨rfl, hP, hK, hN⟩ := hv
  have hx := B.exec
  have hb := B.bytes
  have hr := B.returns
  have ht : ∀ w ∈ lw_ok, w.before _ s = true := fun w h => atoms_spec (ws := wy yJ3_checkIndex_8e157 cJ3_checkIndex_8e157 3 (some .int)) B.pre w (List.mem_cons_of_mem _ h)
  have hown : s.vm.findClass RJ3 = some m.cls := findClass_of_methodNamed B.named
  have hlocks := B.notSynchronized
  have hl := lv_entry ([.int p0, .int p1, .ref zq]) (n := 3) (Nat.le_of_ble_eq_true rfl)
  rw [lg_entry_eq]
  generalize (lg_sl ([.int p0, .int p1, .ref zq]) ++ List.replicate (3 - (lg_sl ([.int p0, .int p1, .ref zq])).length) Slot.unset).toArray = ls at hl ⊢
  have hl : lv_has ls 3 [(0, .int p0), (1, .int p1), (2, .ref zq)] := hl
  have hP : va_P (dC, dI) vwCl [] s.heap := hP
  have rg_p0 := rgI p0
  have rg_p1 := rgI p1
  refine lv_iload_n hx hb dJ3_checkIndex_8e157_0 rfl (lv_at hl 0 rfl) ?_
  refine lv_if_lt (tgt := 9) hx hb dJ3_checkIndex_8e157_1 (by decide) (fun c9 => absurd c9 (by rw [i_lt, T0]; omega)) (fun _ => ?_)
  refine lv_iload_n hx hb dJ3_checkIndex_8e157_4 rfl (lv_at hl 0 rfl) ?_
  refine lv_iload_n hx hb dJ3_checkIndex_8e157_5 rfl (lv_at hl 1 rfl) ?_
  refine lv_icmp_lt (tgt := 16) hx hb dJ3_checkIndex_8e157_6 (by decide) (fun _ => ?_) (fun c9 => absurd (by rw [i_lt]; exact h1) c9)
  refine lv_iload_n hx hb dJ3_checkIndex_8e157_16 rfl (lv_at hl 0 rfl) ?_
  exact W.iret (v := p0) hx hb hr (fun t ht hW => ⟨p0, rfl, trivial, ht⟩) (fun q h => absurd h List.not_mem_nil) dJ3_checkIndex_8e157_17
set_option maxHeartbeats 8000000 in
set_option maxRecDepth 100000 in
theorem s_J0_checkIndex (l : Launch) (dC : Nat → ClassId) (dI : Nat → Nat → Nat) (cB cI cJ cZ cL : ClassId) (adK : Nat → Nat) (adV : Nat → Nat)  (p0 : Int32) (p1 : Int32) (h0 : 0 ≤ Int32.toInt p0) (h1 : Int32.toInt p0 < Int32.toInt p1) : Met l yJ0_checkIndex_df160 (wy yJ0_checkIndex_df160 cJ0_checkIndex_df160 2 none) ({ frames := 1, cells := 0, slots := 0, locals := 40 }) (va_Pc [.int p0, .int p1] (fun U => va_P (dC, dI) vwCl [] U.heap ∧ va_K (dC, dI) vwCl (tyL cB cI cJ cZ cL) U ∧ NW U ∧ SW adK adV (fun _ => False) U U.heap)) (va_Sv (fun _ => True)) 0 0 (fun _ => False) := by
  refine Met.ofW (cc := cJ0_checkIndex_df160) (maxL := 2) (ret := none) (by decide) rfl ?_
  intro p e s m args below meth c s₁ B hml hv
  obtain ⟨rfl, hP, hK, hN, hV⟩ := hv
  have hx := B.exec
  have hb := B.bytes
  have hr := B.returns
  have ht : ∀ w ∈ lw_ok, w.before _ s = true := fun w h => atoms_spec (ws := wy yJ0_checkIndex_df160 cJ0_checkIndex_df160 2 none) B.pre w (List.mem_cons_of_mem _ h)
  have hown : s.vm.findClass RJ0 = some m.cls := findClass_of_methodNamed B.named
  have hlocks := B.notSynchronized
  have hl := lv_entry ([.int p0, .int p1]) (n := 2) (Nat.le_of_ble_eq_true rfl)
  rw [lg_entry_eq]
  generalize (lg_sl ([.int p0, .int p1]) ++ List.replicate (2 - (lg_sl ([.int p0, .int p1])).length) Slot.unset).toArray = ls at hl ⊢
  have hl : lv_has ls 2 [(0, .int p0), (1, .int p1)] := hl
  have hP : va_P (dC, dI) vwCl [] s.heap := hP
  have rg_p0 := rgI p0
  have rg_p1 := rgI p1
  refine lv_iload_n hx hb dJ0_checkIndex_df160_0 rfl (lv_at hl 0 rfl) ?_
  refine lv_iload_n hx hb dJ0_checkIndex_df160_1 rfl (lv_at hl 1 rfl) ?_
  rcases hV.2.2.1 with hz9 | ⟨zq, hz9⟩
  · refine va_gets hx hb hz9 va_S.rf hown (ht _ w_485) (fun _ h9 => h9) dJ0_checkIndex_df160_2 ?_
    have hPc := hP.sub (ws' := []) [] rfl
    refine vp_callSi (W.runS (As := [.int p0, .int p1, .null]) (rest := []) ⟨hx, hb, hml, hown, ht⟩ (s_J3_ckN l dC dI cB cI cJ cZ cL p0 p1 (by first | assumption | omega | decide | (simp only [T0, T1, T2, T3, Tm1]; omega)) (by first | assumption | omega | decide | (simp only [T0, T1, T2, T3, Tm1]; omega))) (va_cwS 3 ht (gQ w_487 w_488 w_117 w_489) rfl rfl rfl (by decide +kernel) ⟨Nat.le_of_ble_eq_true rfl, Nat.le_of_ble_eq_true rfl⟩) (pSSn hN hK hPc) rfl rfl hl.1 rfl (lv_room (Nat.le_of_ble_eq_true rfl)) dJ0_checkIndex_df160_5 ⟨Nat.le_of_ble_eq_true rfl, Nat.le_of_ble_eq_true rfl⟩) (fun r_1 hw => ?_)
    clear hPc
    clear hw
    refine lv_pop hx hb dJ0_checkIndex_df160_8 rfl ?_
    exact W.vret hx hb hr (fun t ht hW => ⟨rfl, trivial, ht⟩) (fun q h => absurd h List.not_mem_nil) dJ0_checkIndex_df160_9
  · refine va_gets hx hb hz9 va_S.rf hown (ht _ w_485) (fun _ h9 => h9) dJ0_checkIndex_df160_2 ?_
    have hPc := hP.sub (ws' := []) [] rfl
    refine vp_callSi (W.runS (As := [.int p0, .int p1, .ref zq]) (rest := []) ⟨hx, hb, hml, hown, ht⟩ (s_J3_ckR l dC dI cB cI cJ cZ cL zq p0 p1 (by first | assumption | omega | decide | (simp only [T0, T1, T2, T3, Tm1]; omega)) (by first | assumption | omega | decide | (simp only [T0, T1, T2, T3, Tm1]; omega))) (va_cwS 3 ht (gQ w_487 w_488 w_117 w_489) rfl rfl rfl (by decide +kernel) ⟨Nat.le_of_ble_eq_true rfl, Nat.le_of_ble_eq_true rfl⟩) (pSSn hN hK hPc) rfl rfl hl.1 rfl (lv_room (Nat.le_of_ble_eq_true rfl)) dJ0_checkIndex_df160_5 ⟨Nat.le_of_ble_eq_true rfl, Nat.le_of_ble_eq_true rfl⟩) (fun r_2 hw => ?_)
    clear hPc
    clear hw
    refine lv_pop hx hb dJ0_checkIndex_df160_8 rfl ?_
    exact W.vret hx hb hr (fun t ht hW => ⟨rfl, trivial, ht⟩) (fun q h => absurd h List.not_mem_nil) dJ0_checkIndex_df160_9
set_option maxHeartbeats 8000000 in
set_option maxRecDepth 100000 in
theorem s_J1_charAt (l : Launch) (dC : Nat → ClassId) (dI : Nat → Nat → Nat) (cB cI cJ cZ cL : ClassId) (i : Nat) (adK : Nat → Nat) (adV : Nat → Nat)  (p0 : Int32) (hi : i < 9) (h0 : 0 ≤ Int32.toInt p0) (h1 : Int32.toInt p0 < (lenJ.getD i 0 : Int)) : Met l yJ1_charAt_3b067 (wy yJ1_charAt_3b067 cJ1_charAt_3b067 2 (some .char)) ({ frames := 2, cells := 0, slots := 0, locals := 80 }) (va_Pc [.ref (adV i), .int p0] (fun U => va_P (dC, dI) vwCl [] U.heap ∧ va_K (dC, dI) vwCl (tyL cB cI cJ cZ cL) U ∧ NW U ∧ SW adK adV (fun _ => False) U U.heap)) (vp_Si (fun r => narrow .char (.int r) = .int r)) 0 0 (fun _ => False) := by
  refine Met.ofW (cc := cJ1_charAt_3b067) (maxL := 2) (ret := (some .char)) (by decide) rfl ?_
  intro p e s m args below meth c s₁ B hml hv
  obtain ⟨rfl, hP, hK, hN, hV⟩ := hv
  have hx := B.exec
  have hb := B.bytes
  have hr := B.returns
  have ht : ∀ w ∈ lw_ok, w.before _ s = true := fun w h => atoms_spec (ws := wy yJ1_charAt_3b067 cJ1_charAt_3b067 2 (some .char)) B.pre w (List.mem_cons_of_mem _ h)
  have hown : s.vm.findClass RJ1 = some m.cls := findClass_of_methodNamed B.named
  have hlocks := B.notSynchronized
  have hl := lv_entry ([.ref (adV i), .int p0]) (n := 2) (Nat.le_of_ble_eq_true rfl)
  rw [lg_entry_eq]
  generalize (lg_sl ([.ref (adV i), .int p0]) ++ List.replicate (2 - (lg_sl ([.ref (adV i), .int p0])).length) Slot.unset).toArray = ls at hl ⊢
  have hl : lv_has ls 2 [(0, .ref (adV i)), (1, .int p0)] := hl
  have hP : va_P (dC, dI) vwCl [] s.heap := hP
  have rg_p0 := rgI p0
  refine lv_iload_n hx hb dJ1_charAt_3b067_0 rfl (lv_at hl 1 rfl) ?_
  refine lv_aload_n hx hb dJ1_charAt_3b067_1 rfl (lv_at hl 0 rfl) ?_
  refine va_tlen hx hb (hV.1.1 i hi).2.2.2 va_S.rf rfl dJ1_charAt_3b067_2 ?_
  refine lv_topi (fun y_1 ey_1 => ?_)
  have ty_1 := lenV hi ey_1
  have hPc := hP.sub (ws' := []) [] rfl
  refine va_csv (W.runS (As := [.int p0, .int y_1]) (rest := []) ⟨hx, hb, hml, hown, ht⟩ (s_J0_checkIndex l dC dI cB cI cJ cZ cL adK adV p0 y_1 (by first | assumption | omega | decide | (simp only [T0, T1, T2, T3, Tm1]; omega)) (by first | assumption | omega | decide | (simp only [T0, T1, T2, T3, Tm1]; omega))) (va_cwS 2 ht (gQ w_482 w_483 w_115 w_484) rfl rfl rfl (by decide +kernel) ⟨Nat.le_of_ble_eq_true rfl, Nat.le_of_ble_eq_true rfl⟩) (pSSs hV hN hK hPc) rfl rfl hl.1 rfl (lv_room (Nat.le_of_ble_eq_true rfl)) dJ1_charAt_3b067_3 ⟨Nat.le_of_ble_eq_true rfl, Nat.le_of_ble_eq_true rfl⟩) (fun hw => ?_)
  clear hPc
  clear hw
  refine lv_aload_n hx hb dJ1_charAt_3b067_6 rfl (lv_at hl 0 rfl) ?_
  refine lv_iload_n hx hb dJ1_charAt_3b067_7 rfl (lv_at hl 1 rfl) ?_
  refine va_tb (v := .int ((bytJ.getD i []).getD (Int32.toNatClampNeg p0) 0)) hx hb (hV.1.1 i hi).2.2.2 va_S.rf (vp_in_iff.mpr (by omega)) rfl dJ1_charAt_3b067_8 ?_
  refine lv_topi (fun y_3 ey_3 => ?_)
  refine lv_sipush (v := 255) hx hb dJ1_charAt_3b067_9 (by decide) ?_
  refine lv_iand hx hb dJ1_charAt_3b067_12 ?_
  refine lv_topi (fun y_4 ey_4 => ?_)
  have ty_4 := iandF (m := 255) ey_4 (by decide)
  simp only [T255] at ty_4
  refine lv_i2c hx hb dJ1_charAt_3b067_13 rfl ?_
  refine lv_topi (fun y_5 ey_5 => ?_)
  have hzc := chF ey_4 ey_5
  exact W.zret (v := y_5) hx hb hr (by assumption) (fun t ht hW => ⟨y_5, rfl, (by assumption), ht⟩) (fun q h => absurd h List.not_mem_nil) dJ1_charAt_3b067_14
set_option maxHeartbeats 8000000 in
set_option maxRecDepth 100000 in
theorem s_J0_coder (l : Launch) (dC : Nat → ClassId) (dI : Nat → Nat → Nat) (cB cI cJ cZ cL : ClassId) (i : Nat) (adK : Nat → Nat) (adV : Nat → Nat)   (hi : i < 9) : Met l yJ0_coder_7d493 (wy yJ0_coder_7d493 cJ0_coder_7d493 1 (some .byte)) ({ frames := 0, cells := 0, slots := 0, locals := 0 }) (va_Pc [.ref (adK i)] (fun U => va_P (dC, dI) vwCl [] U.heap ∧ va_K (dC, dI) vwCl (tyL cB cI cJ cZ cL) U ∧ NW U ∧ SW adK adV (fun _ => False) U U.heap)) (vp_Si (fun r => r = 0)) 0 0 (fun _ => False) := by
  refine Met.ofW (cc := cJ0_coder_7d493) (maxL := 1) (ret := (some .byte)) (by decide) rfl ?_
  intro p e s m args below meth c s₁ B hml hv
  obtain ⟨rfl, hP, hK, hN, hV⟩ := hv
  have hx := B.exec
  have hb := B.bytes
  have hr := B.returns
  have ht : ∀ w ∈ lw_ok, w.before _ s = true := fun w h => atoms_spec (ws := wy yJ0_coder_7d493 cJ0_coder_7d493 1 (some .byte)) B.pre w (List.mem_cons_of_mem _ h)
  have hown : s.vm.findClass RJ0 = some m.cls := findClass_of_methodNamed B.named
  have hlocks := B.notSynchronized
  have hl := lv_entry ([.ref (adK i)]) (n := 1) (Nat.le_of_ble_eq_true rfl)
  rw [lg_entry_eq]
  generalize (lg_sl ([.ref (adK i)]) ++ List.replicate (1 - (lg_sl ([.ref (adK i)])).length) Slot.unset).toArray = ls at hl ⊢
  have hl : lv_has ls 1 [(0, .ref (adK i))] := hl
  have hP : va_P (dC, dI) vwCl [] s.heap := hP
  refine va_gets hx hb hV.2.1 va_S.rf hown (ht _ w_469) (fun _ h9 => h9) dJ0_coder_7d493_0 ?_
  refine lv_if_eq (tgt := 13) hx hb dJ0_coder_7d493_3 (by decide) (fun c9 => by first | exact absurd c9 (by decide) | exact absurd (by decide) c9) (fun _ => ?_)
  refine lv_aload_n hx hb dJ0_coder_7d493_6 rfl (lv_at hl 0 rfl) ?_
  refine vk_getf hx hb (hV.1.1 i hi).2.1 va_S.rf hown (ht _ w_2022) (fun _ h9 => h9) dJ0_coder_7d493_7 ?_
  refine lv_goto (tgt := 14) hx hb dJ0_coder_7d493_10 (by decide) ?_
  exact W.zret (v := 0) hx hb hr (rfl) (fun t ht hW => ⟨0, rfl, rfl, ht⟩) (fun q h => absurd h List.not_mem_nil) dJ0_coder_7d493_14
set_option maxHeartbeats 8000000 in
set_option maxRecDepth 100000 in
theorem s_J0_isLatin1 (l : Launch) (dC : Nat → ClassId) (dI : Nat → Nat → Nat) (cB cI cJ cZ cL : ClassId) (i : Nat) (adK : Nat → Nat) (adV : Nat → Nat)   (hi : i < 9) : Met l yJ0_isLatin1_aae02 (wy yJ0_isLatin1_aae02 cJ0_isLatin1_aae02 1 (some .boolean)) ({ frames := 0, cells := 0, slots := 0, locals := 0 }) (va_Pc [.ref (adK i)] (fun U => va_P (dC, dI) vwCl [] U.heap ∧ va_K (dC, dI) vwCl (tyL cB cI cJ cZ cL) U ∧ NW U ∧ SW adK adV (fun _ => False) U U.heap)) (vp_Si (fun r => r = 1)) 0 0 (fun _ => False) := by
  refine Met.ofW (cc := cJ0_isLatin1_aae02) (maxL := 1) (ret := (some .boolean)) (by decide) rfl ?_
  intro p e s m args below meth c s₁ B hml hv
  obtain ⟨rfl, hP, hK, hN, hV⟩ := hv
  have hx := B.exec
  have hb := B.bytes
  have hr := B.returns
  have ht : ∀ w ∈ lw_ok, w.before _ s = true := fun w h => atoms_spec (ws := wy yJ0_isLatin1_aae02 cJ0_isLatin1_aae02 1 (some .boolean)) B.pre w (List.mem_cons_of_mem _ h)
  have hown : s.vm.findClass RJ0 = some m.cls := findClass_of_methodNamed B.named
  have hlocks := B.notSynchronized
  have hl := lv_entry ([.ref (adK i)]) (n := 1) (Nat.le_of_ble_eq_true rfl)
  rw [lg_entry_eq]
  generalize (lg_sl ([.ref (adK i)]) ++ List.replicate (1 - (lg_sl ([.ref (adK i)])).length) Slot.unset).toArray = ls at hl ⊢
  have hl : lv_has ls 1 [(0, .ref (adK i))] := hl
  have hP : va_P (dC, dI) vwCl [] s.heap := hP
  refine va_gets hx hb hV.2.1 va_S.rf hown (ht _ w_469) (fun _ h9 => h9) dJ0_isLatin1_aae02_0 ?_
  refine lv_if_eq (tgt := 17) hx hb dJ0_isLatin1_aae02_3 (by decide) (fun c9 => by first | exact absurd c9 (by decide) | exact absurd (by decide) c9) (fun _ => ?_)
  refine lv_aload_n hx hb dJ0_isLatin1_aae02_6 rfl (lv_at hl 0 rfl) ?_
  refine vk_getf hx hb (hV.1.1 i hi).2.1 va_S.rf hown (ht _ w_2022) (fun _ h9 => h9) dJ0_isLatin1_aae02_7 ?_
  refine lv_if_ne (tgt := 17) hx hb dJ0_isLatin1_aae02_10 (by decide) (fun c9 => by first | exact absurd c9 (by decide) | exact absurd (by decide) c9) (fun _ => ?_)
  refine lv_iconst (v := 1) hx hb dJ0_isLatin1_aae02_13 (by decide) ?_
  refine lv_goto (tgt := 18) hx hb dJ0_isLatin1_aae02_14 (by decide) ?_
  exact W.zret (v := 1) hx hb hr (rfl) (fun t ht hW => ⟨1, rfl, rfl, ht⟩) (fun q h => absurd h List.not_mem_nil) dJ0_isLatin1_aae02_18
set_option maxHeartbeats 8000000 in
set_option maxRecDepth 100000 in
theorem s_J0_length (l : Launch) (dC : Nat → ClassId) (dI : Nat → Nat → Nat) (cB cI cJ cZ cL : ClassId) (i : Nat) (adK : Nat → Nat) (adV : Nat → Nat)   (hi : i < 9) : Met l yJ0_length_8abf5 (wy yJ0_length_8abf5 cJ0_length_8abf5 1 (some .int)) ({ frames := 1, cells := 0, slots := 0, locals := 40 }) (va_Pc [.ref (adK i)] (fun U => va_P (dC, dI) vwCl [] U.heap ∧ va_K (dC, dI) vwCl (tyL cB cI cJ cZ cL) U ∧ NW U ∧ SW adK adV (fun _ => False) U U.heap)) (vp_Si (fun r => Int32.toInt r = (lenJ.getD i 0 : Int))) 0 0 (fun _ => False) := by
  refine Met.ofW (cc := cJ0_length_8abf5) (maxL := 1) (ret := (some .int)) (by decide) rfl ?_
  intro p e s m args below meth c s₁ B hml hv
  obtain ⟨rfl, hP, hK, hN, hV⟩ := hv
  have hx := B.exec
  have hb := B.bytes
  have hr := B.returns
  have ht : ∀ w ∈ lw_ok, w.before _ s = true := fun w h => atoms_spec (ws := wy yJ0_length_8abf5 cJ0_length_8abf5 1 (some .int)) B.pre w (List.mem_cons_of_mem _ h)
  have hown : s.vm.findClass RJ0 = some m.cls := findClass_of_methodNamed B.named
  have hlocks := B.notSynchronized
  have hl := lv_entry ([.ref (adK i)]) (n := 1) (Nat.le_of_ble_eq_true rfl)
  rw [lg_entry_eq]
  generalize (lg_sl ([.ref (adK i)]) ++ List.replicate (1 - (lg_sl ([.ref (adK i)])).length) Slot.unset).toArray = ls at hl ⊢
  have hl : lv_has ls 1 [(0, .ref (adK i))] := hl
  have hP : va_P (dC, dI) vwCl [] s.heap := hP
  refine lv_aload_n hx hb dJ0_length_8abf5_0 rfl (lv_at hl 0 rfl) ?_
  refine vk_getf hx hb (hV.1.1 i hi).2.2.1 va_S.rf hown (ht _ w_2021) (fun _ h9 => h9) dJ0_length_8abf5_1 ?_
  refine va_tlen hx hb (hV.1.1 i hi).2.2.2 va_S.rf rfl dJ0_length_8abf5_4 ?_
  refine lv_topi (fun y_1 ey_1 => ?_)
  have ty_1 := lenV hi ey_1
  refine lv_aload_n hx hb dJ0_length_8abf5_5 rfl (lv_at hl 0 rfl) ?_
  have hPc := hP.sub (ws' := []) [] rfl
  refine vp_callSi (W.runV (As := []) (rest := [.int y_1]) ⟨hx, hb, hml, hown, ht⟩ (s_J0_coder l dC dI cB cI cJ cZ cL i adK adV (by first | assumption | omega | decide | (simp only [T0, T1, T2, T3, Tm1]; omega))) (cwV 0 ht (gV w_465 w_466 w_467 w_115 w_468) rfl rfl rfl (by decide +kernel) ⟨Nat.le_of_ble_eq_true rfl, Nat.le_of_ble_eq_true rfl⟩) (pVSs hV hi hN hK hPc) rfl rfl hl.1 rfl (lv_room (Nat.le_of_ble_eq_true rfl)) dJ0_length_8abf5_6 ⟨Nat.le_of_ble_eq_true rfl, Nat.le_of_ble_eq_true rfl⟩) (fun r_2 hw => ?_)
  clear hPc
  (try dsimp only at hw)
  have hw_3 := hw
  clear hw
  subst hw_3
  refine lv_ishr hx hb dJ0_length_8abf5_9 ?_
  refine lv_topi (fun y_4 ey_4 => ?_)
  exact W.iret (v := y_4) hx hb hr (fun t ht hW => ⟨y_4, rfl, (by have hz := shr0F ey_4 (by omega); omega), ht⟩) (fun q h => absurd h List.not_mem_nil) dJ0_length_8abf5_10
set_option maxHeartbeats 8000000 in
set_option maxRecDepth 100000 in
theorem s_J0_charAt (l : Launch) (dC : Nat → ClassId) (dI : Nat → Nat → Nat) (cB cI cJ cZ cL : ClassId) (i : Nat) (adK : Nat → Nat) (adV : Nat → Nat)  (p0 : Int32) (hi : i < 9) (h0 : 0 ≤ Int32.toInt p0) (h1 : Int32.toInt p0 < (lenJ.getD i 0 : Int)) : Met l yJ0_charAt_5068e (wy yJ0_charAt_5068e cJ0_charAt_5068e 2 (some .char)) ({ frames := 3, cells := 0, slots := 0, locals := 120 }) (va_Pc [.ref (adK i), .int p0] (fun U => va_P (dC, dI) vwCl [] U.heap ∧ va_K (dC, dI) vwCl (tyL cB cI cJ cZ cL) U ∧ NW U ∧ SW adK adV (fun _ => False) U U.heap)) (vp_Si (fun r => True)) 0 0 (fun _ => False) := by
  refine Met.ofW (cc := cJ0_charAt_5068e) (maxL := 2) (ret := (some .char)) (by decide) rfl ?_
  intro p e s m args below meth c s₁ B hml hv
  obtain ⟨rfl, hP, hK, hN, hV⟩ := hv
  have hx := B.exec
  have hb := B.bytes
  have hr := B.returns
  have ht : ∀ w ∈ lw_ok, w.before _ s = true := fun w h => atoms_spec (ws := wy yJ0_charAt_5068e cJ0_charAt_5068e 2 (some .char)) B.pre w (List.mem_cons_of_mem _ h)
  have hown : s.vm.findClass RJ0 = some m.cls := findClass_of_methodNamed B.named
  have hlocks := B.notSynchronized
  have hl := lv_entry ([.ref (adK i), .int p0]) (n := 2) (Nat.le_of_ble_eq_true rfl)
  rw [lg_entry_eq]
  generalize (lg_sl ([.ref (adK i), .int p0]) ++ List.replicate (2 - (lg_sl ([.ref (adK i), .int p0])).length) Slot.unset).toArray = ls at hl ⊢
  have hl : lv_has ls 2 [(0, .ref (adK i)), (1, .int p0)] := hl
  have hP : va_P (dC, dI) vwCl [] s.heap := hP
  have rg_p0 := rgI p0
  refine lv_aload_n hx hb dJ0_charAt_5068e_0 rfl (lv_at hl 0 rfl) ?_
  have hPc := hP.sub (ws' := []) [] rfl
  refine vp_callSi (W.runV (As := []) (rest := []) ⟨hx, hb, hml, hown, ht⟩ (s_J0_isLatin1 l dC dI cB cI cJ cZ cL i adK adV (by first | assumption | omega | decide | (simp only [T0, T1, T2, T3, Tm1]; omega))) (cwV 0 ht (gV w_475 w_476 w_477 w_115 w_478) rfl rfl rfl (by decide +kernel) ⟨Nat.le_of_ble_eq_true rfl, Nat.le_of_ble_eq_true rfl⟩) (pVSs hV hi hN hK hPc) rfl rfl hl.1 rfl (lv_room (Nat.le_of_ble_eq_true rfl)) dJ0_charAt_5068e_1 ⟨Nat.le_of_ble_eq_true rfl, Nat.le_of_ble_eq_true rfl⟩) (fun r_1 hw => ?_)
  clear hPc
  (try dsimp only at hw)
  have hw_2 := hw
  clear hw
  subst hw_2
  refine lv_if_eq (tgt := 16) hx hb dJ0_charAt_5068e_4 (by decide) (fun c9 => by first | exact absurd c9 (by decide) | exact absurd (by decide) c9) (fun _ => ?_)
  refine lv_aload_n hx hb dJ0_charAt_5068e_7 rfl (lv_at hl 0 rfl) ?_
  refine vk_getf hx hb (hV.1.1 i hi).2.2.1 va_S.rf hown (ht _ w_2021) (fun _ h9 => h9) dJ0_charAt_5068e_8 ?_
  refine lv_iload_n hx hb dJ0_charAt_5068e_11 rfl (lv_at hl 1 rfl) ?_
  have hPc := hP.sub (ws' := []) [] rfl
  refine vp_callSi (W.runS (As := [.ref (adV i), .int p0]) (rest := []) ⟨hx, hb, hml, hown, ht⟩ (s_J1_charAt l dC dI cB cI cJ cZ cL i adK adV p0 (by first | assumption | omega | decide | (simp only [T0, T1, T2, T3, Tm1]; omega)) (by first | assumption | omega | decide | (simp only [T0, T1, T2, T3, Tm1]; omega)) (by first | assumption | omega | decide | (simp only [T0, T1, T2, T3, Tm1]; omega))) (va_cwS 2 ht (gQ w_479 w_480 w_116 w_481) rfl rfl rfl (by decide +kernel) ⟨Nat.le_of_ble_eq_true rfl, Nat.le_of_ble_eq_true rfl⟩) (pSSs hV hN hK hPc) rfl rfl hl.1 rfl (lv_room (Nat.le_of_ble_eq_true rfl)) dJ0_charAt_5068e_12 ⟨Nat.le_of_ble_eq_true rfl, Nat.le_of_ble_eq_true rfl⟩) (fun r_3 hw => ?_)
  clear hPc
  (try dsimp only at hw)
  have hw_4 := hw
  clear hw
  exact W.zret (v := r_3) hx hb hr (hw_4) (fun t ht hW => ⟨r_3, rfl, trivial, ht⟩) (fun q h => absurd h List.not_mem_nil) dJ0_charAt_5068e_15
set_option maxHeartbeats 8000000 in
set_option maxRecDepth 100000 in
theorem s_X7_isBlank (l : Launch) (dC : Nat → ClassId) (dI : Nat → Nat → Nat) (cB cI cJ cZ cL : ClassId)   (p0 : Int32)  : Met l yX7_isBlank (wy yX7_isBlank cX7_isBlank 1 (some .boolean)) ({ frames := 0, cells := 0, slots := 0, locals := 0 }) (va_Pc [.int p0] (fun U => va_P (dC, dI) vwCl [] U.heap ∧ va_K (dC, dI) vwCl (tyL cB cI cJ cZ cL) U ∧ NW U)) (vp_Si (fun r => True)) 0 0 (fun _ => False) := by
  refine Met.ofW (cc := cX7_isBlank) (maxL := 1) (ret := (some .boolean)) (by decide) rfl ?_
  intro p e s m args below meth c s₁ B hml hv
  obtain ⟨rfl, hP, hK, hN⟩ := hv
  have hx := B.exec
  have hb := B.bytes
  have hr := B.returns
  have ht : ∀ w ∈ lw_ok, w.before _ s = true := fun w h => atoms_spec (ws := wy yX7_isBlank cX7_isBlank 1 (some .boolean)) B.pre w (List.mem_cons_of_mem _ h)
  have hown : s.vm.findClass RX7 = some m.cls := findClass_of_methodNamed B.named
  have hlocks := B.notSynchronized
  have hl := lv_entry ([.int p0]) (n := 1) (Nat.le_of_ble_eq_true rfl)
  rw [lg_entry_eq]
  generalize (lg_sl ([.int p0]) ++ List.replicate (1 - (lg_sl ([.int p0])).length) Slot.unset).toArray = ls at hl ⊢
  have hl : lv_has ls 1 [(0, .int p0)] := hl
  have hP : va_P (dC, dI) vwCl [] s.heap := hP
  have rg_p0 := rgI p0
  refine lv_iload_n hx hb dX7_isBlank_0 rfl (lv_at hl 0 rfl) ?_
  refine lv_bipush (v := 32) hx hb dX7_isBlank_1 (by decide) ?_
  refine lv_icmp_eq (tgt := 12) hx hb dX7_isBlank_3 (by decide) (fun c_1 => ?_) (fun c_1 => ?_)
  · (try simp only [i_lt, i_le, i_eq, T32] at c_1)
    refine lv_iconst (v := 1) hx hb dX7_isBlank_12 (by decide) ?_
    refine lv_goto (tgt := 17) hx hb dX7_isBlank_13 (by decide) ?_
    exact W.zret (v := 1) hx hb hr (rfl) (fun t ht hW => ⟨1, rfl, trivial, ht⟩) (fun q h => absurd h List.not_mem_nil) dX7_isBlank_17
  · (try simp only [i_lt, i_le, i_eq, T32] at c_1)
    refine lv_iload_n hx hb dX7_isBlank_6 rfl (lv_at hl 0 rfl) ?_
    refine lv_bipush (v := 10) hx hb dX7_isBlank_7 (by decide) ?_
    refine lv_icmp_ne (tgt := 16) hx hb dX7_isBlank_9 (by decide) (fun c_2 => ?_) (fun c_2 => ?_)
    · (try simp only [i_lt, i_le, i_eq, T10] at c_2)
      refine lv_iconst (v := 0) hx hb dX7_isBlank_16 (by decide) ?_
      exact W.zret (v := 0) hx hb hr (rfl) (fun t ht hW => ⟨0, rfl, trivial, ht⟩) (fun q h => absurd h List.not_mem_nil) dX7_isBlank_17
    · (try simp only [i_lt, i_le, i_eq, T10] at c_2)
      refine lv_iconst (v := 1) hx hb dX7_isBlank_12 (by decide) ?_
      refine lv_goto (tgt := 17) hx hb dX7_isBlank_13 (by decide) ?_
      exact W.zret (v := 1) hx hb hr (rfl) (fun t ht hW => ⟨1, rfl, trivial, ht⟩) (fun q h => absurd h List.not_mem_nil) dX7_isBlank_17
set_option maxHeartbeats 8000000 in
set_option maxRecDepth 100000 in
theorem s_X7_isLetter (l : Launch) (dC : Nat → ClassId) (dI : Nat → Nat → Nat) (cB cI cJ cZ cL : ClassId)   (p0 : Int32)  : Met l yX7_isLetter (wy yX7_isLetter cX7_isLetter 1 (some .boolean)) ({ frames := 0, cells := 0, slots := 0, locals := 0 }) (va_Pc [.int p0] (fun U => va_P (dC, dI) vwCl [] U.heap ∧ va_K (dC, dI) vwCl (tyL cB cI cJ cZ cL) U ∧ NW U)) (vp_Si (fun r => True)) 0 0 (fun _ => False) := by
  refine Met.ofW (cc := cX7_isLetter) (maxL := 1) (ret := (some .boolean)) (by decide) rfl ?_
  intro p e s m args below meth c s₁ B hml hv
  obtain ⟨rfl, hP, hK, hN⟩ := hv
  have hx := B.exec
  have hb := B.bytes
  have hr := B.returns
  have ht : ∀ w ∈ lw_ok, w.before _ s = true := fun w h => atoms_spec (ws := wy yX7_isLetter cX7_isLetter 1 (some .boolean)) B.pre w (List.mem_cons_of_mem _ h)
  have hown : s.vm.findClass RX7 = some m.cls := findClass_of_methodNamed B.named
  have hlocks := B.notSynchronized
  have hl := lv_entry ([.int p0]) (n := 1) (Nat.le_of_ble_eq_true rfl)
  rw [lg_entry_eq]
  generalize (lg_sl ([.int p0]) ++ List.replicate (1 - (lg_sl ([.int p0])).length) Slot.unset).toArray = ls at hl ⊢
  have hl : lv_has ls 1 [(0, .int p0)] := hl
  have hP : va_P (dC, dI) vwCl [] s.heap := hP
  have rg_p0 := rgI p0
  refine lv_iload_n hx hb dX7_isLetter_0 rfl (lv_at hl 0 rfl) ?_
  refine lv_bipush (v := 97) hx hb dX7_isLetter_1 (by decide) ?_
  refine lv_icmp_lt (tgt := 16) hx hb dX7_isLetter_3 (by decide) (fun c_1 => ?_) (fun c_1 => ?_)
  · (try simp only [i_lt, i_le, i_eq, T97] at c_1)
    refine lv_iconst (v := 0) hx hb dX7_isLetter_16 (by decide) ?_
    exact W.zret (v := 0) hx hb hr (rfl) (fun t ht hW => ⟨0, rfl, trivial, ht⟩) (fun q h => absurd h List.not_mem_nil) dX7_isLetter_17
  · (try simp only [i_lt, i_le, i_eq, T97] at c_1)
    refine lv_iload_n hx hb dX7_isLetter_6 rfl (lv_at hl 0 rfl) ?_
    refine lv_bipush (v := 122) hx hb dX7_isLetter_7 (by decide) ?_
    refine lv_icmp_gt (tgt := 16) hx hb dX7_isLetter_9 (by decide) (fun c_2 => ?_) (fun c_2 => ?_)
    · (try simp only [i_lt, i_le, i_eq, T122] at c_2)
      refine lv_iconst (v := 0) hx hb dX7_isLetter_16 (by decide) ?_
      exact W.zret (v := 0) hx hb hr (rfl) (fun t ht hW => ⟨0, rfl, trivial, ht⟩) (fun q h => absurd h List.not_mem_nil) dX7_isLetter_17
    · (try simp only [i_lt, i_le, i_eq, T122] at c_2)
      refine lv_iconst (v := 1) hx hb dX7_isLetter_12 (by decide) ?_
      refine lv_goto (tgt := 17) hx hb dX7_isLetter_13 (by decide) ?_
      exact W.zret (v := 1) hx hb hr (rfl) (fun t ht hW => ⟨1, rfl, trivial, ht⟩) (fun q h => absurd h List.not_mem_nil) dX7_isLetter_17
set_option maxHeartbeats 8000000 in
set_option maxRecDepth 100000 in
theorem s_X7_isDigit (l : Launch) (dC : Nat → ClassId) (dI : Nat → Nat → Nat) (cB cI cJ cZ cL : ClassId)   (p0 : Int32)  : Met l yX7_isDigit (wy yX7_isDigit cX7_isDigit 1 (some .boolean)) ({ frames := 0, cells := 0, slots := 0, locals := 0 }) (va_Pc [.int p0] (fun U => va_P (dC, dI) vwCl [] U.heap ∧ va_K (dC, dI) vwCl (tyL cB cI cJ cZ cL) U ∧ NW U)) (vp_Si (fun r => True)) 0 0 (fun _ => False) := by
  refine Met.ofW (cc := cX7_isDigit) (maxL := 1) (ret := (some .boolean)) (by decide) rfl ?_
  intro p e s m args below meth c s₁ B hml hv
  obtain ⟨rfl, hP, hK, hN⟩ := hv
  have hx := B.exec
  have hb := B.bytes
  have hr := B.returns
  have ht : ∀ w ∈ lw_ok, w.before _ s = true := fun w h => atoms_spec (ws := wy yX7_isDigit cX7_isDigit 1 (some .boolean)) B.pre w (List.mem_cons_of_mem _ h)
  have hown : s.vm.findClass RX7 = some m.cls := findClass_of_methodNamed B.named
  have hlocks := B.notSynchronized
  have hl := lv_entry ([.int p0]) (n := 1) (Nat.le_of_ble_eq_true rfl)
  rw [lg_entry_eq]
  generalize (lg_sl ([.int p0]) ++ List.replicate (1 - (lg_sl ([.int p0])).length) Slot.unset).toArray = ls at hl ⊢
  have hl : lv_has ls 1 [(0, .int p0)] := hl
  have hP : va_P (dC, dI) vwCl [] s.heap := hP
  have rg_p0 := rgI p0
  refine lv_iload_n hx hb dX7_isDigit_0 rfl (lv_at hl 0 rfl) ?_
  refine lv_bipush (v := 48) hx hb dX7_isDigit_1 (by decide) ?_
  refine lv_icmp_lt (tgt := 16) hx hb dX7_isDigit_3 (by decide) (fun c_1 => ?_) (fun c_1 => ?_)
  · (try simp only [i_lt, i_le, i_eq, T48] at c_1)
    refine lv_iconst (v := 0) hx hb dX7_isDigit_16 (by decide) ?_
    exact W.zret (v := 0) hx hb hr (rfl) (fun t ht hW => ⟨0, rfl, trivial, ht⟩) (fun q h => absurd h List.not_mem_nil) dX7_isDigit_17
  · (try simp only [i_lt, i_le, i_eq, T48] at c_1)
    refine lv_iload_n hx hb dX7_isDigit_6 rfl (lv_at hl 0 rfl) ?_
    refine lv_bipush (v := 57) hx hb dX7_isDigit_7 (by decide) ?_
    refine lv_icmp_gt (tgt := 16) hx hb dX7_isDigit_9 (by decide) (fun c_2 => ?_) (fun c_2 => ?_)
    · (try simp only [i_lt, i_le, i_eq, T57] at c_2)
      refine lv_iconst (v := 0) hx hb dX7_isDigit_16 (by decide) ?_
      exact W.zret (v := 0) hx hb hr (rfl) (fun t ht hW => ⟨0, rfl, trivial, ht⟩) (fun q h => absurd h List.not_mem_nil) dX7_isDigit_17
    · (try simp only [i_lt, i_le, i_eq, T57] at c_2)
      refine lv_iconst (v := 1) hx hb dX7_isDigit_12 (by decide) ?_
      refine lv_goto (tgt := 17) hx hb dX7_isDigit_13 (by decide) ?_
      exact W.zret (v := 1) hx hb hr (rfl) (fun t ht hW => ⟨1, rfl, trivial, ht⟩) (fun q h => absurd h List.not_mem_nil) dX7_isDigit_17
set_option maxHeartbeats 8000000 in
set_option maxRecDepth 100000 in
theorem s_X7_wordEnd (l : Launch) (dC : Nat → ClassId) (dI : Nat → Nat → Nat) (cB cI cJ cZ cL : ClassId) (a : Nat → Nat) (tl : Int32) (tb : Nat → Int32) (p0 : Int32) (htl : 0 ≤ Int32.toInt tl ∧ Int32.toInt tl ≤ 500) (hp0 : 0 ≤ Int32.toInt p0) : Met l yX7_wordEnd (wy yX7_wordEnd cX7_wordEnd 3 (some .int)) ({ frames := 1, cells := 0, slots := 0, locals := 40 }) (va_Pc [.ref (a 1), .int p0] (fun U => va_P (dC, dI) vwCl [((a 1), .inr (5, [.ref (a 15), .int tl])), ((a 15), .inl (cB, 500, .inl tb))] U.heap ∧ va_K (dC, dI) vwCl (tyL cB cI cJ cZ cL) U ∧ NW U)) (vp_Si (fun r => True)) 0 0 (fun _ => False) := by
  refine Met.ofW (cc := cX7_wordEnd) (maxL := 3) (ret := (some .int)) (by decide) rfl ?_
  intro p e s m args below meth c s₁ B hml hv
  obtain ⟨rfl, hP, hK, hN⟩ := hv
  have hx := B.exec
  have hb := B.bytes
  have hr := B.returns
  have ht : ∀ w ∈ lw_ok, w.before _ s = true := fun w h => atoms_spec (ws := wy yX7_wordEnd cX7_wordEnd 3 (some .int)) B.pre w (List.mem_cons_of_mem _ h)
  have hown : s.vm.findClass RX7 = some m.cls := findClass_of_methodNamed B.named
  have hlocks := B.notSynchronized
  have hl := lv_entry ([.ref (a 1), .int p0]) (n := 3) (Nat.le_of_ble_eq_true rfl)
  rw [lg_entry_eq]
  generalize (lg_sl ([.ref (a 1), .int p0]) ++ List.replicate (3 - (lg_sl ([.ref (a 1), .int p0])).length) Slot.unset).toArray = ls at hl ⊢
  have hl : lv_has ls 3 [(0, .ref (a 1)), (1, .int p0)] := hl
  have hP : va_P (dC, dI) vwCl [((a 1), .inr (5, [.ref (a 15), .int tl])), ((a 15), .inl (cB, 500, .inl tb))] s.heap := hP
  have rg_p0 := rgI p0
  refine lv_iload_n hx hb dX7_wordEnd_0 rfl (lv_at hl 1 rfl) ?_
  refine lv_istore_n (lv' := [(2, .int p0), (0, .ref (a 1)), (1, .int p0)]) hx hb dX7_wordEnd_1 rfl hl (by decide) rfl (fun ls hl => ?_)
  have lp_12 : ∀ (d : Nat) (v_6 : Int32) (ls : Array Slot), ((0 ≤ Int32.toInt v_6)) → ((2147483647 - Int32.toInt v_6).toNat < d) → lv_has ls 3 [(2, .int v_6), (0, .ref (a 1)), (1, .int p0)] → W p l e (headSpec (wy yX7_wordEnd cX7_wordEnd 3 (some .int)) ({ frames := 1, cells := 0, slots := 0, locals := 40 })).room s m ([.ref (a 1), .int p0] : List Value).toArray below meth c s.heap [] 0 0 (MQ below (vp_Si (fun r => True)) ([.ref (a 1), .int p0] : List Value).toArray s 0 0 (fun _ => False)) (F0 m 2 ls []) := by
    intro d
    induction d with
    | zero => intro v_6  ls hI hM; exfalso; exact absurd hM (Nat.not_lt_zero _)
    | succ d ih_13 =>
      intro v_6 ls hI hM hl
      have hI_14 := hI
      refine lv_iload_n hx hb dX7_wordEnd_2 rfl (lv_at hl 0 rfl) ?_
      refine lv_aload_n hx hb dX7_wordEnd_3 rfl (lv_at hl 1 rfl) ?_
      refine va_get (D := (dC, dI)) (ci := 5) (v := .int tl) (C := RX5) (T := TX5) (N := 2) hx hb ht iX5 hown hK hP 0 rfl rfl 1 (by decide) (ht _ w_140) (fun _ h9 => h9) rfl dX7_wordEnd_4 ?_
      refine lv_icmp_ge (tgt := 27) hx hb dX7_wordEnd_7 (by decide) (fun c_15 => ?_) (fun c_15 => ?_)
      · (try simp only [i_lt, i_le, i_eq] at c_15)
        refine lv_iload_n hx hb dX7_wordEnd_27 rfl (lv_at hl 0 rfl) ?_
        exact W.iret (v := v_6) hx hb hr (fun t ht hW => ⟨v_6, rfl, trivial, ht⟩) (fun q h => absurd h List.not_mem_nil) dX7_wordEnd_28
      · (try simp only [i_lt, i_le, i_eq] at c_15)
        refine lv_aload_n hx hb dX7_wordEnd_10 rfl (lv_at hl 1 rfl) ?_
        refine lv_iload_n hx hb dX7_wordEnd_11 rfl (lv_at hl 0 rfl) ?_
        have hPc := hP.sub (ws' := [((a 1), .inr (5, [.ref (a 15), .int tl])), ((a 15), .inl (cB, 500, .inl tb))]) [0, 1] rfl
        refine vp_callSi (W.runV (As := [.int v_6]) (rest := []) ⟨hx, hb, hml, hown, ht⟩ (s_X5_at l dC dI cB cI cJ cZ cL a tl tb v_6 (by first | assumption | omega | decide | (simp only [T0, T1, T2, T3, Tm1]; omega))) (cwV 1 ht (gV w_444 w_445 w_446 w_106 w_447) rfl rfl rfl (by decide +kernel) ⟨Nat.le_of_ble_eq_true rfl, Nat.le_of_ble_eq_true rfl⟩) (pVSn hN hK hPc (ci := 5) (q0 := 0) rfl rfl) rfl rfl hl.1 rfl (lv_room (Nat.le_of_ble_eq_true rfl)) dX7_wordEnd_12 ⟨Nat.le_of_ble_eq_true rfl, Nat.le_of_ble_eq_true rfl⟩) (fun r_16 hw => ?_)
        clear hPc
        clear hw
        have hPc := hP.sub (ws' := []) [] rfl
        refine vp_callSi (W.runS (As := [.int r_16]) (rest := []) ⟨hx, hb, hml, hown, ht⟩ (s_X7_isLetter l dC dI cB cI cJ cZ cL r_16) (va_cwS 1 ht (gQ w_448 w_449 w_107 w_450) rfl rfl rfl (by decide +kernel) ⟨Nat.le_of_ble_eq_true rfl, Nat.le_of_ble_eq_true rfl⟩) (pSSn hN hK hPc) rfl rfl hl.1 rfl (lv_room (Nat.le_of_ble_eq_true rfl)) dX7_wordEnd_15 ⟨Nat.le_of_ble_eq_true rfl, Nat.le_of_ble_eq_true rfl⟩) (fun r_17 hw => ?_)
        clear hPc
        clear hw
        refine lv_if_eq (tgt := 27) hx hb dX7_wordEnd_18 (by decide) (fun c_18 => ?_) (fun c_18 => ?_)
        · (try simp only [i_lt, i_le, i_eq, T0] at c_18)
          refine lv_iload_n hx hb dX7_wordEnd_27 rfl (lv_at hl 0 rfl) ?_
          exact W.iret (v := v_6) hx hb hr (fun t ht hW => ⟨v_6, rfl, trivial, ht⟩) (fun q h => absurd h List.not_mem_nil) dX7_wordEnd_28
        · (try simp only [i_lt, i_le, i_eq, T0] at c_18)
          obtain ⟨y_19, ey_19⟩ : ∃ z : Int32, z = v_6 + 1 := ⟨_, rfl⟩
          have ty_19 := iaddF ey_19
          simp only [T1] at ty_19
          refine lv_iinc (v := y_19) (lv' := [(2, .int y_19), (0, .ref (a 1)), (1, .int p0)]) hx hb dX7_wordEnd_21 hl (k := 0) rfl (by rw [ey_19]; rfl) (by decide) rfl (fun ls hl => ?_)
          clear ey_19
          refine lv_goto (tgt := 2) hx hb dX7_wordEnd_24 (by decide) ?_
          exact ih_13 y_19 _ (by first | omega | assumption | decide | exact LK_0 | exact OM_0 | exact CE_0 | exact SZI_0 | exact CLR_0 | exact CP_0 | exact PV_0 | exact BV_0 (by assumption) (by omega) (by omega) | exact LK_mono (by assumption) (by omega) | exact OM_mono (by assumption) (by omega) | exact CE_mono (by assumption) (by omega) | exact CLR_mono (by assumption) (by omega) | exact CP_mono (by assumption) (by omega) | (have e0 := T0; have e1 := T1; have e2 := T2; have em1 := Tm1; omega)) (by omega) (lv_sub hl [0, 1, 2] rfl)
  exact lp_12 _ p0 _ (by first | omega | assumption | decide | exact LK_0 | exact OM_0 | exact CE_0 | exact SZI_0 | exact CLR_0 | exact CP_0 | exact PV_0 | exact BV_0 (by assumption) (by omega) (by omega) | exact LK_mono (by assumption) (by omega) | exact OM_mono (by assumption) (by omega) | exact CE_mono (by assumption) (by omega) | exact CLR_mono (by assumption) (by omega) | exact CP_mono (by assumption) (by omega) | (have e0 := T0; have e1 := T1; have e2 := T2; have em1 := Tm1; omega)) (Nat.lt_succ_self _) (lv_sub hl [0, 1, 2] rfl)
set_option maxHeartbeats 8000000 in
set_option maxRecDepth 100000 in
theorem s_X7_numberEnd (l : Launch) (dC : Nat → ClassId) (dI : Nat → Nat → Nat) (cB cI cJ cZ cL : ClassId) (a : Nat → Nat) (tl : Int32) (tb : Nat → Int32) (p0 : Int32) (htl : 0 ≤ Int32.toInt tl ∧ Int32.toInt tl ≤ 500) (hp0 : 0 ≤ Int32.toInt p0) : Met l yX7_numberEnd (wy yX7_numberEnd cX7_numberEnd 3 (some .int)) ({ frames := 1, cells := 0, slots := 0, locals := 40 }) (va_Pc [.ref (a 1), .int p0] (fun U => va_P (dC, dI) vwCl [((a 1), .inr (5, [.ref (a 15), .int tl])), ((a 15), .inl (cB, 500, .inl tb))] U.heap ∧ va_K (dC, dI) vwCl (tyL cB cI cJ cZ cL) U ∧ NW U)) (vp_Si (fun r => True)) 0 0 (fun _ => False) := by
  refine Met.ofW (cc := cX7_numberEnd) (maxL := 3) (ret := (some .int)) (by decide) rfl ?_
  intro p e s m args below meth c s₁ B hml hv
  obtain ⟨rfl, hP, hK, hN⟩ := hv
  have hx := B.exec
  have hb := B.bytes
  have hr := B.returns
  have ht : ∀ w ∈ lw_ok, w.before _ s = true := fun w h => atoms_spec (ws := wy yX7_numberEnd cX7_numberEnd 3 (some .int)) B.pre w (List.mem_cons_of_mem _ h)
  have hown : s.vm.findClass RX7 = some m.cls := findClass_of_methodNamed B.named
  have hlocks := B.notSynchronized
  have hl := lv_entry ([.ref (a 1), .int p0]) (n := 3) (Nat.le_of_ble_eq_true rfl)
  rw [lg_entry_eq]
  generalize (lg_sl ([.ref (a 1), .int p0]) ++ List.replicate (3 - (lg_sl ([.ref (a 1), .int p0])).length) Slot.unset).toArray = ls at hl ⊢
  have hl : lv_has ls 3 [(0, .ref (a 1)), (1, .int p0)] := hl
  have hP : va_P (dC, dI) vwCl [((a 1), .inr (5, [.ref (a 15), .int tl])), ((a 15), .inl (cB, 500, .inl tb))] s.heap := hP
  have rg_p0 := rgI p0
  refine lv_iload_n hx hb dX7_numberEnd_0 rfl (lv_at hl 1 rfl) ?_
  refine lv_istore_n (lv' := [(2, .int p0), (0, .ref (a 1)), (1, .int p0)]) hx hb dX7_numberEnd_1 rfl hl (by decide) rfl (fun ls hl => ?_)
  have lp_12 : ∀ (d : Nat) (v_6 : Int32) (ls : Array Slot), ((0 ≤ Int32.toInt v_6)) → ((2147483647 - Int32.toInt v_6).toNat < d) → lv_has ls 3 [(2, .int v_6), (0, .ref (a 1)), (1, .int p0)] → W p l e (headSpec (wy yX7_numberEnd cX7_numberEnd 3 (some .int)) ({ frames := 1, cells := 0, slots := 0, locals := 40 })).room s m ([.ref (a 1), .int p0] : List Value).toArray below meth c s.heap [] 0 0 (MQ below (vp_Si (fun r => True)) ([.ref (a 1), .int p0] : List Value).toArray s 0 0 (fun _ => False)) (F0 m 2 ls []) := by
    intro d
    induction d with
    | zero => intro v_6  ls hI hM; exfalso; exact absurd hM (Nat.not_lt_zero _)
    | succ d ih_13 =>
      intro v_6 ls hI hM hl
      have hI_14 := hI
      refine lv_iload_n hx hb dX7_numberEnd_2 rfl (lv_at hl 0 rfl) ?_
      refine lv_aload_n hx hb dX7_numberEnd_3 rfl (lv_at hl 1 rfl) ?_
      refine va_get (D := (dC, dI)) (ci := 5) (v := .int tl) (C := RX5) (T := TX5) (N := 2) hx hb ht iX5 hown hK hP 0 rfl rfl 1 (by decide) (ht _ w_140) (fun _ h9 => h9) rfl dX7_numberEnd_4 ?_
      refine lv_icmp_ge (tgt := 27) hx hb dX7_numberEnd_7 (by decide) (fun c_15 => ?_) (fun c_15 => ?_)
      · (try simp only [i_lt, i_le, i_eq] at c_15)
        refine lv_iload_n hx hb dX7_numberEnd_27 rfl (lv_at hl 0 rfl) ?_
        exact W.iret (v := v_6) hx hb hr (fun t ht hW => ⟨v_6, rfl, trivial, ht⟩) (fun q h => absurd h List.not_mem_nil) dX7_numberEnd_28
      · (try simp only [i_lt, i_le, i_eq] at c_15)
        refine lv_aload_n hx hb dX7_numberEnd_10 rfl (lv_at hl 1 rfl) ?_
        refine lv_iload_n hx hb dX7_numberEnd_11 rfl (lv_at hl 0 rfl) ?_
        have hPc := hP.sub (ws' := [((a 1), .inr (5, [.ref (a 15), .int tl])), ((a 15), .inl (cB, 500, .inl tb))]) [0, 1] rfl
        refine vp_callSi (W.runV (As := [.int v_6]) (rest := []) ⟨hx, hb, hml, hown, ht⟩ (s_X5_at l dC dI cB cI cJ cZ cL a tl tb v_6 (by first | assumption | omega | decide | (simp only [T0, T1, T2, T3, Tm1]; omega))) (cwV 1 ht (gV w_444 w_445 w_446 w_106 w_447) rfl rfl rfl (by decide +kernel) ⟨Nat.le_of_ble_eq_true rfl, Nat.le_of_ble_eq_true rfl⟩) (pVSn hN hK hPc (ci := 5) (q0 := 0) rfl rfl) rfl rfl hl.1 rfl (lv_room (Nat.le_of_ble_eq_true rfl)) dX7_numberEnd_12 ⟨Nat.le_of_ble_eq_true rfl, Nat.le_of_ble_eq_true rfl⟩) (fun r_16 hw => ?_)
        clear hPc
        clear hw
        have hPc := hP.sub (ws' := []) [] rfl
        refine vp_callSi (W.runS (As := [.int r_16]) (rest := []) ⟨hx, hb, hml, hown, ht⟩ (s_X7_isDigit l dC dI cB cI cJ cZ cL r_16) (va_cwS 1 ht (gQ w_524 w_525 w_107 w_526) rfl rfl rfl (by decide +kernel) ⟨Nat.le_of_ble_eq_true rfl, Nat.le_of_ble_eq_true rfl⟩) (pSSn hN hK hPc) rfl rfl hl.1 rfl (lv_room (Nat.le_of_ble_eq_true rfl)) dX7_numberEnd_15 ⟨Nat.le_of_ble_eq_true rfl, Nat.le_of_ble_eq_true rfl⟩) (fun r_17 hw => ?_)
        clear hPc
        clear hw
        refine lv_if_eq (tgt := 27) hx hb dX7_numberEnd_18 (by decide) (fun c_18 => ?_) (fun c_18 => ?_)
        · (try simp only [i_lt, i_le, i_eq, T0] at c_18)
          refine lv_iload_n hx hb dX7_numberEnd_27 rfl (lv_at hl 0 rfl) ?_
          exact W.iret (v := v_6) hx hb hr (fun t ht hW => ⟨v_6, rfl, trivial, ht⟩) (fun q h => absurd h List.not_mem_nil) dX7_numberEnd_28
        · (try simp only [i_lt, i_le, i_eq, T0] at c_18)
          obtain ⟨y_19, ey_19⟩ : ∃ z : Int32, z = v_6 + 1 := ⟨_, rfl⟩
          have ty_19 := iaddF ey_19
          simp only [T1] at ty_19
          refine lv_iinc (v := y_19) (lv' := [(2, .int y_19), (0, .ref (a 1)), (1, .int p0)]) hx hb dX7_numberEnd_21 hl (k := 0) rfl (by rw [ey_19]; rfl) (by decide) rfl (fun ls hl => ?_)
          clear ey_19
          refine lv_goto (tgt := 2) hx hb dX7_numberEnd_24 (by decide) ?_
          exact ih_13 y_19 _ (by first | omega | assumption | decide | exact LK_0 | exact OM_0 | exact CE_0 | exact SZI_0 | exact CLR_0 | exact CP_0 | exact PV_0 | exact BV_0 (by assumption) (by omega) (by omega) | exact LK_mono (by assumption) (by omega) | exact OM_mono (by assumption) (by omega) | exact CE_mono (by assumption) (by omega) | exact CLR_mono (by assumption) (by omega) | exact CP_mono (by assumption) (by omega) | (have e0 := T0; have e1 := T1; have e2 := T2; have em1 := Tm1; omega)) (by omega) (lv_sub hl [0, 1, 2] rfl)
  exact lp_12 _ p0 _ (by first | omega | assumption | decide | exact LK_0 | exact OM_0 | exact CE_0 | exact SZI_0 | exact CLR_0 | exact CP_0 | exact PV_0 | exact BV_0 (by assumption) (by omega) (by omega) | exact LK_mono (by assumption) (by omega) | exact OM_mono (by assumption) (by omega) | exact CE_mono (by assumption) (by omega) | exact CLR_mono (by assumption) (by omega) | exact CP_mono (by assumption) (by omega) | (have e0 := T0; have e1 := T1; have e2 := T2; have em1 := Tm1; omega)) (Nat.lt_succ_self _) (lv_sub hl [0, 1, 2] rfl)
set_option maxHeartbeats 8000000 in
set_option maxRecDepth 100000 in
theorem s_X7_valueOf (l : Launch) (dC : Nat → ClassId) (dI : Nat → Nat → Nat) (cB cI cJ cZ cL : ClassId) (a : Nat → Nat) (tl : Int32) (tb : Nat → Int32) (p0 : Int32) (p1 : Int32) (htl : 0 ≤ Int32.toInt tl ∧ Int32.toInt tl ≤ 500) (hp0 : 0 ≤ Int32.toInt p0) : Met l yX7_valueOf (wy yX7_valueOf cX7_valueOf 5 (some .int)) ({ frames := 1, cells := 0, slots := 0, locals := 40 }) (va_Pc [.ref (a 1), .int p0, .int p1] (fun U => va_P (dC, dI) vwCl [((a 1), .inr (5, [.ref (a 15), .int tl])), ((a 15), .inl (cB, 500, .inl tb))] U.heap ∧ va_K (dC, dI) vwCl (tyL cB cI cJ cZ cL) U ∧ NW U)) (vp_Si (fun r => True)) 0 0 (fun _ => False) := by
  refine Met.ofW (cc := cX7_valueOf) (maxL := 5) (ret := (some .int)) (by decide) rfl ?_
  intro p e s m args below meth c s₁ B hml hv
  obtain ⟨rfl, hP, hK, hN⟩ := hv
  have hx := B.exec
  have hb := B.bytes
  have hr := B.returns
  have ht : ∀ w ∈ lw_ok, w.before _ s = true := fun w h => atoms_spec (ws := wy yX7_valueOf cX7_valueOf 5 (some .int)) B.pre w (List.mem_cons_of_mem _ h)
  have hown : s.vm.findClass RX7 = some m.cls := findClass_of_methodNamed B.named
  have hlocks := B.notSynchronized
  have hl := lv_entry ([.ref (a 1), .int p0, .int p1]) (n := 5) (Nat.le_of_ble_eq_true rfl)
  rw [lg_entry_eq]
  generalize (lg_sl ([.ref (a 1), .int p0, .int p1]) ++ List.replicate (5 - (lg_sl ([.ref (a 1), .int p0, .int p1])).length) Slot.unset).toArray = ls at hl ⊢
  have hl : lv_has ls 5 [(0, .ref (a 1)), (1, .int p0), (2, .int p1)] := hl
  have hP : va_P (dC, dI) vwCl [((a 1), .inr (5, [.ref (a 15), .int tl])), ((a 15), .inl (cB, 500, .inl tb))] s.heap := hP
  have rg_p0 := rgI p0
  have rg_p1 := rgI p1
  refine lv_iconst (v := 0) hx hb dX7_valueOf_0 (by decide) ?_
  refine lv_istore_n (lv' := [(3, .int 0), (0, .ref (a 1)), (1, .int p0), (2, .int p1)]) hx hb dX7_valueOf_1 rfl hl (by decide) rfl (fun ls hl => ?_)
  refine lv_iload_n hx hb dX7_valueOf_2 rfl (lv_at hl 2 rfl) ?_
  refine lv_istore (lv' := [(4, .int p0), (3, .int 0), (0, .ref (a 1)), (1, .int p0), (2, .int p1)]) hx hb dX7_valueOf_3 hl (by decide) rfl (fun ls hl => ?_)
  have lp_17 : ∀ (d : Nat) (v_8 : Int32) (v_9 : Int32) (ls : Array Slot), ((0 ≤ Int32.toInt v_9)) → ((2147483647 - Int32.toInt v_9).toNat < d) → lv_has ls 5 [(4, .int v_9), (3, .int v_8), (0, .ref (a 1)), (1, .int p0), (2, .int p1)] → W p l e (headSpec (wy yX7_valueOf cX7_valueOf 5 (some .int)) ({ frames := 1, cells := 0, slots := 0, locals := 40 })).room s m ([.ref (a 1), .int p0, .int p1] : List Value).toArray below meth c s.heap [] 0 0 (MQ below (vp_Si (fun r => True)) ([.ref (a 1), .int p0, .int p1] : List Value).toArray s 0 0 (fun _ => False)) (F0 m 5 ls []) := by
    intro d
    induction d with
    | zero => intro v_8 v_9  ls hI hM; exfalso; exact absurd hM (Nat.not_lt_zero _)
    | succ d ih_18 =>
      intro v_8 v_9 ls hI hM hl
      have hI_19 := hI
      refine lv_iload hx hb dX7_valueOf_5 (lv_at hl 0 rfl) ?_
      refine lv_iload_n hx hb dX7_valueOf_7 rfl (lv_at hl 4 rfl) ?_
      refine lv_icmp_ge (tgt := 38) hx hb dX7_valueOf_8 (by decide) (fun c_20 => ?_) (fun c_20 => ?_)
      · (try simp only [i_lt, i_le, i_eq] at c_20)
        refine lv_iload_n hx hb dX7_valueOf_38 rfl (lv_at hl 1 rfl) ?_
        exact W.iret (v := v_8) hx hb hr (fun t ht hW => ⟨v_8, rfl, trivial, ht⟩) (fun q h => absurd h List.not_mem_nil) dX7_valueOf_39
      · (try simp only [i_lt, i_le, i_eq] at c_20)
        refine lv_sipush (v := 1000) hx hb dX7_valueOf_11 (by decide) ?_
        refine lv_bipush (v := 10) hx hb dX7_valueOf_14 (by decide) ?_
        refine lv_iload_n hx hb dX7_valueOf_16 rfl (lv_at hl 1 rfl) ?_
        refine lv_imul hx hb dX7_valueOf_17 ?_
        refine lv_topi (fun y_21 ey_21 => ?_)
        have ty_21 := imulF ey_21
        simp only [T10] at ty_21
        clear ey_21
        refine lv_aload_n hx hb dX7_valueOf_18 rfl (lv_at hl 2 rfl) ?_
        refine lv_iload hx hb dX7_valueOf_19 (lv_at hl 0 rfl) ?_
        have hPc := hP.sub (ws' := [((a 1), .inr (5, [.ref (a 15), .int tl])), ((a 15), .inl (cB, 500, .inl tb))]) [0, 1] rfl
        refine vp_callSi (W.runV (As := [.int v_9]) (rest := [.int y_21, .int 1000]) ⟨hx, hb, hml, hown, ht⟩ (s_X5_at l dC dI cB cI cJ cZ cL a tl tb v_9 (by first | assumption | omega | decide | (simp only [T0, T1, T2, T3, Tm1]; omega))) (cwV 1 ht (gV w_444 w_445 w_446 w_106 w_447) rfl rfl rfl (by decide +kernel) ⟨Nat.le_of_ble_eq_true rfl, Nat.le_of_ble_eq_true rfl⟩) (pVSn hN hK hPc (ci := 5) (q0 := 0) rfl rfl) rfl rfl hl.1 rfl (lv_room (Nat.le_of_ble_eq_true rfl)) dX7_valueOf_21 ⟨Nat.le_of_ble_eq_true rfl, Nat.le_of_ble_eq_true rfl⟩) (fun r_22 hw => ?_)
        clear hPc
        clear hw
        refine lv_iadd hx hb dX7_valueOf_24 ?_
        refine lv_topi (fun y_23 ey_23 => ?_)
        have ty_23 := iaddF ey_23
        clear ey_23
        refine lv_bipush (v := 48) hx hb dX7_valueOf_25 (by decide) ?_
        refine lv_isub hx hb dX7_valueOf_27 ?_
        refine lv_topi (fun y_24 ey_24 => ?_)
        have ty_24 := isubF ey_24
        simp only [T48] at ty_24
        clear ey_24
        refine va_mmin hx hb (by rw [hml]; exact hl.1.symm) hown (ht _ w_533) (ht _ w_534) (ht _ w_119) (ht _ w_mathmin) (Nat.le_of_ble_eq_true rfl) (Nat.le_of_ble_eq_true rfl) (Nat.le_of_ble_eq_true rfl) (Nat.le_of_ble_eq_true rfl) dX7_valueOf_28 ?_
        refine lv_topi (fun y_25 ey_25 => ?_)
        have ty_25 := mminF ey_25
        simp only [T1000] at ty_25
        clear ey_25
        refine lv_istore_n (lv' := [(3, .int y_25), (4, .int v_9), (0, .ref (a 1)), (1, .int p0), (2, .int p1)]) hx hb dX7_valueOf_31 rfl hl (by decide) rfl (fun ls hl => ?_)
        obtain ⟨y_26, ey_26⟩ : ∃ z : Int32, z = v_9 + 1 := ⟨_, rfl⟩
        have ty_26 := iaddF ey_26
        simp only [T1] at ty_26
        refine lv_iinc (v := y_26) (lv' := [(4, .int y_26), (3, .int y_25), (0, .ref (a 1)), (1, .int p0), (2, .int p1)]) hx hb dX7_valueOf_32 hl (k := 1) rfl (by rw [ey_26]; rfl) (by decide) rfl (fun ls hl => ?_)
        clear ey_26
        refine lv_goto (tgt := 5) hx hb dX7_valueOf_35 (by decide) ?_
        exact ih_18 y_25 y_26 _ (by first | omega | assumption | decide | exact LK_0 | exact OM_0 | exact CE_0 | exact SZI_0 | exact CLR_0 | exact CP_0 | exact PV_0 | exact BV_0 (by assumption) (by omega) (by omega) | exact LK_mono (by assumption) (by omega) | exact OM_mono (by assumption) (by omega) | exact CE_mono (by assumption) (by omega) | exact CLR_mono (by assumption) (by omega) | exact CP_mono (by assumption) (by omega) | (have e0 := T0; have e1 := T1; have e2 := T2; have em1 := Tm1; omega)) (by omega) (lv_sub hl [0, 1, 2, 3, 4] rfl)
  exact lp_17 _ 0 p0 _ (by first | omega | assumption | decide | exact LK_0 | exact OM_0 | exact CE_0 | exact SZI_0 | exact CLR_0 | exact CP_0 | exact PV_0 | exact BV_0 (by assumption) (by omega) (by omega) | exact LK_mono (by assumption) (by omega) | exact OM_mono (by assumption) (by omega) | exact CE_mono (by assumption) (by omega) | exact CLR_mono (by assumption) (by omega) | exact CP_mono (by assumption) (by omega) | (have e0 := T0; have e1 := T1; have e2 := T2; have em1 := Tm1; omega)) (Nat.lt_succ_self _) (lv_sub hl [0, 1, 2, 3, 4] rfl)
set_option maxHeartbeats 8000000 in
set_option maxRecDepth 100000 in
theorem s_X7_isWord (l : Launch) (dC : Nat → ClassId) (dI : Nat → Nat → Nat) (cB cI cJ cZ cL : ClassId) (a : Nat → Nat) (i : Nat) (adK : Nat → Nat) (adV : Nat → Nat) (tl : Int32) (tb : Nat → Int32) (p0 : Int32) (p1 : Int32) (htl : 0 ≤ Int32.toInt tl ∧ Int32.toInt tl ≤ 500) (hi : i < 9) : Met l yX7_isWord (wy yX7_isWord cX7_isWord 5 (some .boolean)) ({ frames := 4, cells := 0, slots := 0, locals := 160 }) (va_Pc [.ref (a 1), .int p0, .int p1, .ref (adK i)] (fun U => va_P (dC, dI) vwCl [((a 1), .inr (5, [.ref (a 15), .int tl])), ((a 15), .inl (cB, 500, .inl tb))] U.heap ∧ va_K (dC, dI) vwCl (tyL cB cI cJ cZ cL) U ∧ NW U ∧ SW adK adV (fun _ => False) U U.heap)) (vp_Si (fun r => True)) 0 0 (fun _ => False) := by
  refine Met.ofW (cc := cX7_isWord) (maxL := 5) (ret := (some .boolean)) (by decide) rfl ?_
  intro p e s m args below meth c s₁ B hml hv
  obtain ⟨rfl, hP, hK, hN, hV⟩ := hv
  have hx := B.exec
  have hb := B.bytes
  have hr := B.returns
  have ht : ∀ w ∈ lw_ok, w.before _ s = true := fun w h => atoms_spec (ws := wy yX7_isWord cX7_isWord 5 (some .boolean)) B.pre w (List.mem_cons_of_mem _ h)
  have hown : s.vm.findClass RX7 = some m.cls := findClass_of_methodNamed B.named
  have hlocks := B.notSynchronized
  have hl := lv_entry ([.ref (a 1), .int p0, .int p1, .ref (adK i)]) (n := 5) (Nat.le_of_ble_eq_true rfl)
  rw [lg_entry_eq]
  generalize (lg_sl ([.ref (a 1), .int p0, .int p1, .ref (adK i)]) ++ List.replicate (5 - (lg_sl ([.ref (a 1), .int p0, .int p1, .ref (adK i)])).length) Slot.unset).toArray = ls at hl ⊢
  have hl : lv_has ls 5 [(0, .ref (a 1)), (1, .int p0), (2, .int p1), (3, .ref (adK i))] := hl
  have hP : va_P (dC, dI) vwCl [((a 1), .inr (5, [.ref (a 15), .int tl])), ((a 15), .inl (cB, 500, .inl tb))] s.heap := hP
  have rg_p0 := rgI p0
  have rg_p1 := rgI p1
  have hi9 := (lenV_all i hi).2
  refine lv_iload_n hx hb dX7_isWord_0 rfl (lv_at hl 2 rfl) ?_
  refine lv_iload_n hx hb dX7_isWord_1 rfl (lv_at hl 1 rfl) ?_
  refine lv_isub hx hb dX7_isWord_2 ?_
  refine lv_topi (fun y_1 ey_1 => ?_)
  have ty_1 := isubF ey_1
  clear ey_1
  refine lv_aload_n hx hb dX7_isWord_3 rfl (lv_at hl 3 rfl) ?_
  have hPc := hP.sub (ws' := []) [] rfl
  refine vp_callSi (W.runV (As := []) (rest := [.int y_1]) ⟨hx, hb, hml, hown, ht⟩ (s_J0_length l dC dI cB cI cJ cZ cL i adK adV (by first | assumption | omega | decide | (simp only [T0, T1, T2, T3, Tm1]; omega))) (cwV 0 ht (gV w_461 w_462 w_463 w_115 w_464) rfl rfl rfl (by decide +kernel) ⟨Nat.le_of_ble_eq_true rfl, Nat.le_of_ble_eq_true rfl⟩) (pVSs hV hi hN hK hPc) rfl rfl hl.1 rfl (lv_room (Nat.le_of_ble_eq_true rfl)) dX7_isWord_4 ⟨Nat.le_of_ble_eq_true rfl, Nat.le_of_ble_eq_true rfl⟩) (fun r_2 hw => ?_)
  clear hPc
  (try dsimp only at hw)
  have hw_3 := hw
  clear hw
  refine lv_icmp_eq (tgt := 12) hx hb dX7_isWord_7 (by decide) (fun c_4 => ?_) (fun c_4 => ?_)
  · (try simp only [i_lt, i_le, i_eq] at c_4)
    refine lv_iconst (v := 0) hx hb dX7_isWord_12 (by decide) ?_
    refine lv_istore (lv' := [(4, .int 0), (0, .ref (a 1)), (1, .int p0), (2, .int p1), (3, .ref (adK i))]) hx hb dX7_isWord_13 hl (by decide) rfl (fun ls hl => ?_)
    have lp_21 : ∀ (d : Nat) (v_12 : Int32) (ls : Array Slot), ((0 ≤ Int32.toInt v_12 ∧ Int32.toInt v_12 ≤ 100)) → ((200 - Int32.toInt v_12).toNat < d) → lv_has ls 5 [(4, .int v_12), (0, .ref (a 1)), (1, .int p0), (2, .int p1), (3, .ref (adK i))] → W p l e (headSpec (wy yX7_isWord cX7_isWord 5 (some .boolean)) ({ frames := 4, cells := 0, slots := 0, locals := 160 })).room s m ([.ref (a 1), .int p0, .int p1, .ref (adK i)] : List Value).toArray below meth c s.heap [] 0 0 (MQ below (vp_Si (fun r => True)) ([.ref (a 1), .int p0, .int p1, .ref (adK i)] : List Value).toArray s 0 0 (fun _ => False)) (F0 m 15 ls []) := by
      intro d
      induction d with
      | zero => intro v_12  ls hI hM; exfalso; exact absurd hM (Nat.not_lt_zero _)
      | succ d ih_22 =>
        intro v_12 ls hI hM hl
        have hI_23 := hI
        refine lv_iload hx hb dX7_isWord_15 (lv_at hl 0 rfl) ?_
        refine lv_aload_n hx hb dX7_isWord_17 rfl (lv_at hl 4 rfl) ?_
        have hPc := hP.sub (ws' := []) [] rfl
        refine vp_callSi (W.runV (As := []) (rest := [.int v_12]) ⟨hx, hb, hml, hown, ht⟩ (s_J0_length l dC dI cB cI cJ cZ cL i adK adV (by first | assumption | omega | decide | (simp only [T0, T1, T2, T3, Tm1]; omega))) (cwV 0 ht (gV w_461 w_462 w_463 w_115 w_464) rfl rfl rfl (by decide +kernel) ⟨Nat.le_of_ble_eq_true rfl, Nat.le_of_ble_eq_true rfl⟩) (pVSs hV hi hN hK hPc) rfl rfl hl.1 rfl (lv_room (Nat.le_of_ble_eq_true rfl)) dX7_isWord_18 ⟨Nat.le_of_ble_eq_true rfl, Nat.le_of_ble_eq_true rfl⟩) (fun r_24 hw => ?_)
        clear hPc
        (try dsimp only at hw)
        have hw_25 := hw
        clear hw
        refine lv_icmp_ge (tgt := 49) hx hb dX7_isWord_21 (by decide) (fun c_26 => ?_) (fun c_26 => ?_)
        · (try simp only [i_lt, i_le, i_eq] at c_26)
          refine lv_iconst (v := 1) hx hb dX7_isWord_49 (by decide) ?_
          exact W.zret (v := 1) hx hb hr (rfl) (fun t ht hW => ⟨1, rfl, trivial, ht⟩) (fun q h => absurd h List.not_mem_nil) dX7_isWord_50
        · (try simp only [i_lt, i_le, i_eq] at c_26)
          refine lv_aload_n hx hb dX7_isWord_24 rfl (lv_at hl 1 rfl) ?_
          refine lv_iload_n hx hb dX7_isWord_25 rfl (lv_at hl 2 rfl) ?_
          refine lv_iload hx hb dX7_isWord_26 (lv_at hl 0 rfl) ?_
          refine lv_iadd hx hb dX7_isWord_28 ?_
          refine lv_topi (fun y_27 ey_27 => ?_)
          have ty_27 := iaddF ey_27
          clear ey_27
          have hPc := hP.sub (ws' := [((a 1), .inr (5, [.ref (a 15), .int tl])), ((a 15), .inl (cB, 500, .inl tb))]) [0, 1] rfl
          refine vp_callSi (W.runV (As := [.int y_27]) (rest := []) ⟨hx, hb, hml, hown, ht⟩ (s_X5_at l dC dI cB cI cJ cZ cL a tl tb y_27 (by first | assumption | omega | decide | (simp only [T0, T1, T2, T3, Tm1]; omega))) (cwV 1 ht (gV w_444 w_445 w_446 w_106 w_447) rfl rfl rfl (by decide +kernel) ⟨Nat.le_of_ble_eq_true rfl, Nat.le_of_ble_eq_true rfl⟩) (pVSn hN hK hPc (ci := 5) (q0 := 0) rfl rfl) rfl rfl hl.1 rfl (lv_room (Nat.le_of_ble_eq_true rfl)) dX7_isWord_29 ⟨Nat.le_of_ble_eq_true rfl, Nat.le_of_ble_eq_true rfl⟩) (fun r_28 hw => ?_)
          clear hPc
          clear hw
          refine lv_aload_n hx hb dX7_isWord_32 rfl (lv_at hl 4 rfl) ?_
          refine lv_iload hx hb dX7_isWord_33 (lv_at hl 0 rfl) ?_
          have hPc := hP.sub (ws' := []) [] rfl
          refine vp_callSi (W.runV (As := [.int v_12]) (rest := [.int r_28]) ⟨hx, hb, hml, hown, ht⟩ (s_J0_charAt l dC dI cB cI cJ cZ cL i adK adV v_12 (by first | assumption | omega | decide | (simp only [T0, T1, T2, T3, Tm1]; omega)) (by first | assumption | omega | decide | (simp only [T0, T1, T2, T3, Tm1]; omega)) (by first | assumption | omega | decide | (simp only [T0, T1, T2, T3, Tm1]; omega))) (cwV 1 ht (gV w_471 w_472 w_473 w_115 w_474) rfl rfl rfl (by decide +kernel) ⟨Nat.le_of_ble_eq_true rfl, Nat.le_of_ble_eq_true rfl⟩) (pVSs hV hi hN hK hPc) rfl rfl hl.1 rfl (lv_room (Nat.le_of_ble_eq_true rfl)) dX7_isWord_35 ⟨Nat.le_of_ble_eq_true rfl, Nat.le_of_ble_eq_true rfl⟩) (fun r_29 hw => ?_)
          clear hPc
          clear hw
          refine lv_icmp_eq (tgt := 43) hx hb dX7_isWord_38 (by decide) (fun c_30 => ?_) (fun c_30 => ?_)
          · (try simp only [i_lt, i_le, i_eq] at c_30)
            obtain ⟨y_31, ey_31⟩ : ∃ z : Int32, z = v_12 + 1 := ⟨_, rfl⟩
            have ty_31 := iaddF ey_31
            simp only [T1] at ty_31
            refine lv_iinc (v := y_31) (lv' := [(4, .int y_31), (0, .ref (a 1)), (1, .int p0), (2, .int p1), (3, .ref (adK i))]) hx hb dX7_isWord_43 hl (k := 0) rfl (by rw [ey_31]; rfl) (by decide) rfl (fun ls hl => ?_)
            clear ey_31
            refine lv_goto (tgt := 15) hx hb dX7_isWord_46 (by decide) ?_
            exact ih_22 y_31 _ (by first | omega | assumption | decide | exact LK_0 | exact OM_0 | exact CE_0 | exact SZI_0 | exact CLR_0 | exact CP_0 | exact PV_0 | exact BV_0 (by assumption) (by omega) (by omega) | exact LK_mono (by assumption) (by omega) | exact OM_mono (by assumption) (by omega) | exact CE_mono (by assumption) (by omega) | exact CLR_mono (by assumption) (by omega) | exact CP_mono (by assumption) (by omega) | (have e0 := T0; have e1 := T1; have e2 := T2; have em1 := Tm1; omega)) (by omega) (lv_sub hl [0, 1, 2, 3, 4] rfl)
          · (try simp only [i_lt, i_le, i_eq] at c_30)
            refine lv_iconst (v := 0) hx hb dX7_isWord_41 (by decide) ?_
            exact W.zret (v := 0) hx hb hr (rfl) (fun t ht hW => ⟨0, rfl, trivial, ht⟩) (fun q h => absurd h List.not_mem_nil) dX7_isWord_42
    exact lp_21 _ 0 _ (by first | omega | assumption | decide | exact LK_0 | exact OM_0 | exact CE_0 | exact SZI_0 | exact CLR_0 | exact CP_0 | exact PV_0 | exact BV_0 (by assumption) (by omega) (by omega) | exact LK_mono (by assumption) (by omega) | exact OM_mono (by assumption) (by omega) | exact CE_mono (by assumption) (by omega) | exact CLR_mono (by assumption) (by omega) | exact CP_mono (by assumption) (by omega) | (have e0 := T0; have e1 := T1; have e2 := T2; have em1 := Tm1; omega)) (Nat.lt_succ_self _) (lv_sub hl [0, 1, 2, 3, 4] rfl)
  · (try simp only [i_lt, i_le, i_eq] at c_4)
    refine lv_iconst (v := 0) hx hb dX7_isWord_10 (by decide) ?_
    exact W.zret (v := 0) hx hb hr (rfl) (fun t ht hW => ⟨0, rfl, trivial, ht⟩) (fun q h => absurd h List.not_mem_nil) dX7_isWord_11
set_option maxHeartbeats 8000000 in
set_option maxRecDepth 100000 in
theorem s_X7_ifWord (l : Launch) (dC : Nat → ClassId) (dI : Nat → Nat → Nat) (cB cI cJ cZ cL : ClassId) (a : Nat → Nat) (i : Nat) (adK : Nat → Nat) (adV : Nat → Nat) (tl : Int32) (tb : Nat → Int32) (p0 : Int32) (p1 : Int32) (p2 : Int32) (htl : 0 ≤ Int32.toInt tl ∧ Int32.toInt tl ≤ 500) (hi : i < 9) : Met l yX7_ifWord (wy yX7_ifWord cX7_ifWord 5 (some .int)) ({ frames := 5, cells := 0, slots := 0, locals := 200 }) (va_Pc [.ref (a 1), .int p0, .int p1, .ref (adK i), .int p2] (fun U => va_P (dC, dI) vwCl [((a 1), .inr (5, [.ref (a 15), .int tl])), ((a 15), .inl (cB, 500, .inl tb))] U.heap ∧ va_K (dC, dI) vwCl (tyL cB cI cJ cZ cL) U ∧ NW U ∧ SW adK adV (fun _ => False) U U.heap)) (vp_Si (fun r => True)) 0 0 (fun _ => False) := by
  refine Met.ofW (cc := cX7_ifWord) (maxL := 5) (ret := (some .int)) (by decide) rfl ?_
  intro p e s m args below meth c s₁ B hml hv
  obtain ⟨rfl, hP, hK, hN, hV⟩ := hv
  have hx := B.exec
  have hb := B.bytes
  have hr := B.returns
  have ht : ∀ w ∈ lw_ok, w.before _ s = true := fun w h => atoms_spec (ws := wy yX7_ifWord cX7_ifWord 5 (some .int)) B.pre w (List.mem_cons_of_mem _ h)
  have hown : s.vm.findClass RX7 = some m.cls := findClass_of_methodNamed B.named
  have hlocks := B.notSynchronized
  have hl := lv_entry ([.ref (a 1), .int p0, .int p1, .ref (adK i), .int p2]) (n := 5) (Nat.le_of_ble_eq_true rfl)
  rw [lg_entry_eq]
  generalize (lg_sl ([.ref (a 1), .int p0, .int p1, .ref (adK i), .int p2]) ++ List.replicate (5 - (lg_sl ([.ref (a 1), .int p0, .int p1, .ref (adK i), .int p2])).length) Slot.unset).toArray = ls at hl ⊢
  have hl : lv_has ls 5 [(0, .ref (a 1)), (1, .int p0), (2, .int p1), (3, .ref (adK i)), (4, .int p2)] := hl
  have hP : va_P (dC, dI) vwCl [((a 1), .inr (5, [.ref (a 15), .int tl])), ((a 15), .inl (cB, 500, .inl tb))] s.heap := hP
  have rg_p0 := rgI p0
  have rg_p1 := rgI p1
  have rg_p2 := rgI p2
  refine lv_aload_n hx hb dX7_ifWord_0 rfl (lv_at hl 0 rfl) ?_
  refine lv_iload_n hx hb dX7_ifWord_1 rfl (lv_at hl 1 rfl) ?_
  refine lv_iload_n hx hb dX7_ifWord_2 rfl (lv_at hl 2 rfl) ?_
  refine lv_aload_n hx hb dX7_ifWord_3 rfl (lv_at hl 3 rfl) ?_
  have hPc := hP.sub (ws' := [((a 1), .inr (5, [.ref (a 15), .int tl])), ((a 15), .inl (cB, 500, .inl tb))]) [0, 1] rfl
  refine vp_callSi (W.runS (As := [.ref (a 1), .int p0, .int p1, .ref (adK i)]) (rest := []) ⟨hx, hb, hml, hown, ht⟩ (s_X7_isWord l dC dI cB cI cJ cZ cL a i adK adV tl tb p0 p1 (by first | assumption | omega | decide | (simp only [T0, T1, T2, T3, Tm1]; omega)) (by first | assumption | omega | decide | (simp only [T0, T1, T2, T3, Tm1]; omega))) (va_cwS 4 ht (gQ w_458 w_459 w_107 w_460) rfl rfl rfl (by decide +kernel) ⟨Nat.le_of_ble_eq_true rfl, Nat.le_of_ble_eq_true rfl⟩) (pSSs hV hN hK hPc) rfl rfl hl.1 rfl (lv_room (Nat.le_of_ble_eq_true rfl)) dX7_ifWord_4 ⟨Nat.le_of_ble_eq_true rfl, Nat.le_of_ble_eq_true rfl⟩) (fun r_1 hw => ?_)
  clear hPc
  clear hw
  refine lv_if_eq (tgt := 15) hx hb dX7_ifWord_7 (by decide) (fun c_2 => ?_) (fun c_2 => ?_)
  · (try simp only [i_lt, i_le, i_eq, T0] at c_2)
    refine lv_iconst (v := 3) hx hb dX7_ifWord_15 (by decide) ?_
    exact W.iret (v := 3) hx hb hr (fun t ht hW => ⟨3, rfl, trivial, ht⟩) (fun q h => absurd h List.not_mem_nil) dX7_ifWord_16
  · (try simp only [i_lt, i_le, i_eq, T0] at c_2)
    refine lv_iload hx hb dX7_ifWord_10 (lv_at hl 4 rfl) ?_
    refine lv_goto (tgt := 16) hx hb dX7_ifWord_12 (by decide) ?_
    exact W.iret (v := p2) hx hb hr (fun t ht hW => ⟨p2, rfl, trivial, ht⟩) (fun q h => absurd h List.not_mem_nil) dX7_ifWord_16
set_option maxHeartbeats 8000000 in
set_option maxRecDepth 100000 in
theorem s_X7_wordKind (l : Launch) (dC : Nat → ClassId) (dI : Nat → Nat → Nat) (cB cI cJ cZ cL : ClassId) (a : Nat → Nat) (adK : Nat → Nat) (adV : Nat → Nat) (tl : Int32) (tb : Nat → Int32) (p0 : Int32) (p1 : Int32) (htl : 0 ≤ Int32.toInt tl ∧ Int32.toInt tl ≤ 500) : Met l yX7_wordKind (wy yX7_wordKind cX7_wordKind 3 (some .int)) ({ frames := 6, cells := 0, slots := 0, locals := 240 }) (va_Pc [.ref (a 1), .int p0, .int p1] (fun U => va_P (dC, dI) vwCl [((a 1), .inr (5, [.ref (a 15), .int tl])), ((a 15), .inl (cB, 500, .inl tb))] U.heap ∧ va_K (dC, dI) vwCl (tyL cB cI cJ cZ cL) U ∧ NW U ∧ SW adK adV (fun _ => False) U U.heap)) (vp_Si (fun r => True)) 0 0 (fun _ => False) := by
  refine Met.ofW (cc := cX7_wordKind) (maxL := 3) (ret := (some .int)) (by decide) rfl ?_
  intro p e s m args below meth c s₁ B hml hv
  obtain ⟨rfl, hP, hK, hN, hV⟩ := hv
  have hx := B.exec
  have hb := B.bytes
  have hr := B.returns
  have ht : ∀ w ∈ lw_ok, w.before _ s = true := fun w h => atoms_spec (ws := wy yX7_wordKind cX7_wordKind 3 (some .int)) B.pre w (List.mem_cons_of_mem _ h)
  have hown : s.vm.findClass RX7 = some m.cls := findClass_of_methodNamed B.named
  have hlocks := B.notSynchronized
  have hl := lv_entry ([.ref (a 1), .int p0, .int p1]) (n := 3) (Nat.le_of_ble_eq_true rfl)
  rw [lg_entry_eq]
  generalize (lg_sl ([.ref (a 1), .int p0, .int p1]) ++ List.replicate (3 - (lg_sl ([.ref (a 1), .int p0, .int p1])).length) Slot.unset).toArray = ls at hl ⊢
  have hl : lv_has ls 3 [(0, .ref (a 1)), (1, .int p0), (2, .int p1)] := hl
  have hP : va_P (dC, dI) vwCl [((a 1), .inr (5, [.ref (a 15), .int tl])), ((a 15), .inl (cB, 500, .inl tb))] s.heap := hP
  have rg_p0 := rgI p0
  have rg_p1 := rgI p1
  refine lv_aload_n hx hb dX7_wordKind_0 rfl (lv_at hl 0 rfl) ?_
  refine lv_iload_n hx hb dX7_wordKind_1 rfl (lv_at hl 1 rfl) ?_
  have hPc := hP.sub (ws' := [((a 1), .inr (5, [.ref (a 15), .int tl])), ((a 15), .inl (cB, 500, .inl tb))]) [0, 1] rfl
  refine vp_callSi (W.runV (As := [.int p0]) (rest := []) ⟨hx, hb, hml, hown, ht⟩ (s_X5_at l dC dI cB cI cJ cZ cL a tl tb p0 (by first | assumption | omega | decide | (simp only [T0, T1, T2, T3, Tm1]; omega))) (cwV 1 ht (gV w_444 w_445 w_446 w_106 w_447) rfl rfl rfl (by decide +kernel) ⟨Nat.le_of_ble_eq_true rfl, Nat.le_of_ble_eq_true rfl⟩) (pVSn hN hK hPc (ci := 5) (q0 := 0) rfl rfl) rfl rfl hl.1 rfl (lv_room (Nat.le_of_ble_eq_true rfl)) dX7_wordKind_2 ⟨Nat.le_of_ble_eq_true rfl, Nat.le_of_ble_eq_true rfl⟩) (fun r_1 hw => ?_)
  clear hPc
  clear hw
  by_cases c_2 : r_1 = 100
  · refine lv_topi (fun y_3 ey_3 => ?_)
    obtain rfl : y_3 = 100 := ey_3.trans c_2
    refine lv_tableIn (off := 121) (tgt := 126) hx hb dX7_wordKind_5 (by decide) (by decide) (by decide) (by decide) ?_
    simp only [i_eq, T100] at c_2
    refine lv_aload_n hx hb dX7_wordKind_126 rfl (lv_at hl 0 rfl) ?_
    refine lv_iload_n hx hb dX7_wordKind_127 rfl (lv_at hl 1 rfl) ?_
    refine lv_iload_n hx hb dX7_wordKind_128 rfl (lv_at hl 2 rfl) ?_
    refine va_ldcS hx hb hown hV.r2 dX7_wordKind_129 ?_
    refine lv_iconst (v := 5) hx hb dX7_wordKind_131 (by decide) ?_
    have hPc := hP.sub (ws' := [((a 1), .inr (5, [.ref (a 15), .int tl])), ((a 15), .inl (cB, 500, .inl tb))]) [0, 1] rfl
    refine vp_callSi (W.runS (As := [.ref (a 1), .int p0, .int p1, .ref (adK 2), .int 5]) (rest := []) ⟨hx, hb, hml, hown, ht⟩ (s_X7_ifWord l dC dI cB cI cJ cZ cL a 2 adK adV tl tb p0 p1 5 (by first | assumption | omega | decide | (simp only [T0, T1, T2, T3, Tm1]; omega)) (by first | assumption | omega | decide | (simp only [T0, T1, T2, T3, Tm1]; omega))) (va_cwS 5 ht (gQ w_510 w_511 w_107 w_512) rfl rfl rfl (by decide +kernel) ⟨Nat.le_of_ble_eq_true rfl, Nat.le_of_ble_eq_true rfl⟩) (pSSs hV hN hK hPc) rfl rfl hl.1 rfl (lv_room (Nat.le_of_ble_eq_true rfl)) dX7_wordKind_132 ⟨Nat.le_of_ble_eq_true rfl, Nat.le_of_ble_eq_true rfl⟩) (fun r_4 hw => ?_)
    clear hPc
    clear hw
    exact W.iret (v := r_4) hx hb hr (fun t ht hW => ⟨r_4, rfl, trivial, ht⟩) (fun q h => absurd h List.not_mem_nil) dX7_wordKind_135
  simp only [i_eq, T100] at c_2
  by_cases c_5 : r_1 = 101
  · refine lv_topi (fun y_6 ey_6 => ?_)
    obtain rfl : y_6 = 101 := ey_6.trans c_5
    refine lv_tableIn (off := 202) (tgt := 207) hx hb dX7_wordKind_5 (by decide) (by decide) (by decide) (by decide) ?_
    simp only [i_eq, T101] at c_5
    refine lv_iconst (v := 3) hx hb dX7_wordKind_207 (by decide) ?_
    exact W.iret (v := 3) hx hb hr (fun t ht hW => ⟨3, rfl, trivial, ht⟩) (fun q h => absurd h List.not_mem_nil) dX7_wordKind_208
  simp only [i_eq, T101] at c_5
  by_cases c_7 : r_1 = 102
  · refine lv_topi (fun y_8 ey_8 => ?_)
    obtain rfl : y_8 = 102 := ey_8.trans c_7
    refine lv_tableIn (off := 202) (tgt := 207) hx hb dX7_wordKind_5 (by decide) (by decide) (by decide) (by decide) ?_
    simp only [i_eq, T102] at c_7
    refine lv_iconst (v := 3) hx hb dX7_wordKind_207 (by decide) ?_
    exact W.iret (v := 3) hx hb hr (fun t ht hW => ⟨3, rfl, trivial, ht⟩) (fun q h => absurd h List.not_mem_nil) dX7_wordKind_208
  simp only [i_eq, T102] at c_7
  by_cases c_9 : r_1 = 103
  · refine lv_topi (fun y_10 ey_10 => ?_)
    obtain rfl : y_10 = 103 := ey_10.trans c_9
    refine lv_tableIn (off := 202) (tgt := 207) hx hb dX7_wordKind_5 (by decide) (by decide) (by decide) (by decide) ?_
    simp only [i_eq, T103] at c_9
    refine lv_iconst (v := 3) hx hb dX7_wordKind_207 (by decide) ?_
    exact W.iret (v := 3) hx hb hr (fun t ht hW => ⟨3, rfl, trivial, ht⟩) (fun q h => absurd h List.not_mem_nil) dX7_wordKind_208
  simp only [i_eq, T103] at c_9
  by_cases c_11 : r_1 = 104
  · refine lv_topi (fun y_12 ey_12 => ?_)
    obtain rfl : y_12 = 104 := ey_12.trans c_11
    refine lv_tableIn (off := 202) (tgt := 207) hx hb dX7_wordKind_5 (by decide) (by decide) (by decide) (by decide) ?_
    simp only [i_eq, T104] at c_11
    refine lv_iconst (v := 3) hx hb dX7_wordKind_207 (by decide) ?_
    exact W.iret (v := 3) hx hb hr (fun t ht hW => ⟨3, rfl, trivial, ht⟩) (fun q h => absurd h List.not_mem_nil) dX7_wordKind_208
  simp only [i_eq, T104] at c_11
  by_cases c_13 : r_1 = 105
  · refine lv_topi (fun y_14 ey_14 => ?_)
    obtain rfl : y_14 = 105 := ey_14.trans c_13
    refine lv_tableIn (off := 202) (tgt := 207) hx hb dX7_wordKind_5 (by decide) (by decide) (by decide) (by decide) ?_
    simp only [i_eq, T105] at c_13
    refine lv_iconst (v := 3) hx hb dX7_wordKind_207 (by decide) ?_
    exact W.iret (v := 3) hx hb hr (fun t ht hW => ⟨3, rfl, trivial, ht⟩) (fun q h => absurd h List.not_mem_nil) dX7_wordKind_208
  simp only [i_eq, T105] at c_13
  by_cases c_15 : r_1 = 106
  · refine lv_topi (fun y_16 ey_16 => ?_)
    obtain rfl : y_16 = 106 := ey_16.trans c_15
    refine lv_tableIn (off := 202) (tgt := 207) hx hb dX7_wordKind_5 (by decide) (by decide) (by decide) (by decide) ?_
    simp only [i_eq, T106] at c_15
    refine lv_iconst (v := 3) hx hb dX7_wordKind_207 (by decide) ?_
    exact W.iret (v := 3) hx hb hr (fun t ht hW => ⟨3, rfl, trivial, ht⟩) (fun q h => absurd h List.not_mem_nil) dX7_wordKind_208
  simp only [i_eq, T106] at c_15
  by_cases c_17 : r_1 = 107
  · refine lv_topi (fun y_18 ey_18 => ?_)
    obtain rfl : y_18 = 107 := ey_18.trans c_17
    refine lv_tableIn (off := 202) (tgt := 207) hx hb dX7_wordKind_5 (by decide) (by decide) (by decide) (by decide) ?_
    simp only [i_eq, T107] at c_17
    refine lv_iconst (v := 3) hx hb dX7_wordKind_207 (by decide) ?_
    exact W.iret (v := 3) hx hb hr (fun t ht hW => ⟨3, rfl, trivial, ht⟩) (fun q h => absurd h List.not_mem_nil) dX7_wordKind_208
  simp only [i_eq, T107] at c_17
  by_cases c_19 : r_1 = 108
  · refine lv_topi (fun y_20 ey_20 => ?_)
    obtain rfl : y_20 = 108 := ey_20.trans c_19
    refine lv_tableIn (off := 131) (tgt := 136) hx hb dX7_wordKind_5 (by decide) (by decide) (by decide) (by decide) ?_
    simp only [i_eq, T108] at c_19
    refine lv_aload_n hx hb dX7_wordKind_136 rfl (lv_at hl 0 rfl) ?_
    refine lv_iload_n hx hb dX7_wordKind_137 rfl (lv_at hl 1 rfl) ?_
    refine lv_iload_n hx hb dX7_wordKind_138 rfl (lv_at hl 2 rfl) ?_
    refine va_ldcS hx hb hown hV.r3 dX7_wordKind_139 ?_
    have hPc := hP.sub (ws' := [((a 1), .inr (5, [.ref (a 15), .int tl])), ((a 15), .inl (cB, 500, .inl tb))]) [0, 1] rfl
    refine vp_callSi (W.runS (As := [.ref (a 1), .int p0, .int p1, .ref (adK 3)]) (rest := []) ⟨hx, hb, hml, hown, ht⟩ (s_X7_isWord l dC dI cB cI cJ cZ cL a 3 adK adV tl tb p0 p1 (by first | assumption | omega | decide | (simp only [T0, T1, T2, T3, Tm1]; omega)) (by first | assumption | omega | decide | (simp only [T0, T1, T2, T3, Tm1]; omega))) (va_cwS 4 ht (gQ w_458 w_459 w_107 w_460) rfl rfl rfl (by decide +kernel) ⟨Nat.le_of_ble_eq_true rfl, Nat.le_of_ble_eq_true rfl⟩) (pSSs hV hN hK hPc) rfl rfl hl.1 rfl (lv_room (Nat.le_of_ble_eq_true rfl)) dX7_wordKind_141 ⟨Nat.le_of_ble_eq_true rfl, Nat.le_of_ble_eq_true rfl⟩) (fun r_21 hw => ?_)
    clear hPc
    clear hw
    refine lv_if_eq (tgt := 152) hx hb dX7_wordKind_144 (by decide) (fun c_22 => ?_) (fun c_22 => ?_)
    · (try simp only [i_lt, i_le, i_eq, T0] at c_22)
      refine lv_aload_n hx hb dX7_wordKind_152 rfl (lv_at hl 0 rfl) ?_
      refine lv_iload_n hx hb dX7_wordKind_153 rfl (lv_at hl 1 rfl) ?_
      refine lv_iload_n hx hb dX7_wordKind_154 rfl (lv_at hl 2 rfl) ?_
      refine va_ldcS hx hb hown hV.r4 dX7_wordKind_155 ?_
      refine lv_bipush (v := 10) hx hb dX7_wordKind_157 (by decide) ?_
      have hPc := hP.sub (ws' := [((a 1), .inr (5, [.ref (a 15), .int tl])), ((a 15), .inl (cB, 500, .inl tb))]) [0, 1] rfl
      refine vp_callSi (W.runS (As := [.ref (a 1), .int p0, .int p1, .ref (adK 4), .int 10]) (rest := []) ⟨hx, hb, hml, hown, ht⟩ (s_X7_ifWord l dC dI cB cI cJ cZ cL a 4 adK adV tl tb p0 p1 10 (by first | assumption | omega | decide | (simp only [T0, T1, T2, T3, Tm1]; omega)) (by first | assumption | omega | decide | (simp only [T0, T1, T2, T3, Tm1]; omega))) (va_cwS 5 ht (gQ w_510 w_511 w_107 w_512) rfl rfl rfl (by decide +kernel) ⟨Nat.le_of_ble_eq_true rfl, Nat.le_of_ble_eq_true rfl⟩) (pSSs hV hN hK hPc) rfl rfl hl.1 rfl (lv_room (Nat.le_of_ble_eq_true rfl)) dX7_wordKind_159 ⟨Nat.le_of_ble_eq_true rfl, Nat.le_of_ble_eq_true rfl⟩) (fun r_23 hw => ?_)
      clear hPc
      clear hw
      exact W.iret (v := r_23) hx hb hr (fun t ht hW => ⟨r_23, rfl, trivial, ht⟩) (fun q h => absurd h List.not_mem_nil) dX7_wordKind_162
    · (try simp only [i_lt, i_le, i_eq, T0] at c_22)
      refine lv_bipush (v := 6) hx hb dX7_wordKind_147 (by decide) ?_
      refine lv_goto (tgt := 162) hx hb dX7_wordKind_149 (by decide) ?_
      exact W.iret (v := 6) hx hb hr (fun t ht hW => ⟨6, rfl, trivial, ht⟩) (fun q h => absurd h List.not_mem_nil) dX7_wordKind_162
  simp only [i_eq, T108] at c_19
  by_cases c_24 : r_1 = 109
  · refine lv_topi (fun y_25 ey_25 => ?_)
    obtain rfl : y_25 = 109 := ey_25.trans c_24
    refine lv_tableIn (off := 202) (tgt := 207) hx hb dX7_wordKind_5 (by decide) (by decide) (by decide) (by decide) ?_
    simp only [i_eq, T109] at c_24
    refine lv_iconst (v := 3) hx hb dX7_wordKind_207 (by decide) ?_
    exact W.iret (v := 3) hx hb hr (fun t ht hW => ⟨3, rfl, trivial, ht⟩) (fun q h => absurd h List.not_mem_nil) dX7_wordKind_208
  simp only [i_eq, T109] at c_24
  by_cases c_26 : r_1 = 110
  · refine lv_topi (fun y_27 ey_27 => ?_)
    obtain rfl : y_27 = 110 := ey_27.trans c_26
    refine lv_tableIn (off := 191) (tgt := 196) hx hb dX7_wordKind_5 (by decide) (by decide) (by decide) (by decide) ?_
    simp only [i_eq, T110] at c_26
    refine lv_aload_n hx hb dX7_wordKind_196 rfl (lv_at hl 0 rfl) ?_
    refine lv_iload_n hx hb dX7_wordKind_197 rfl (lv_at hl 1 rfl) ?_
    refine lv_iload_n hx hb dX7_wordKind_198 rfl (lv_at hl 2 rfl) ?_
    refine va_ldcS hx hb hown hV.r8 dX7_wordKind_199 ?_
    refine lv_bipush (v := 11) hx hb dX7_wordKind_201 (by decide) ?_
    have hPc := hP.sub (ws' := [((a 1), .inr (5, [.ref (a 15), .int tl])), ((a 15), .inl (cB, 500, .inl tb))]) [0, 1] rfl
    refine vp_callSi (W.runS (As := [.ref (a 1), .int p0, .int p1, .ref (adK 8), .int 11]) (rest := []) ⟨hx, hb, hml, hown, ht⟩ (s_X7_ifWord l dC dI cB cI cJ cZ cL a 8 adK adV tl tb p0 p1 11 (by first | assumption | omega | decide | (simp only [T0, T1, T2, T3, Tm1]; omega)) (by first | assumption | omega | decide | (simp only [T0, T1, T2, T3, Tm1]; omega))) (va_cwS 5 ht (gQ w_510 w_511 w_107 w_512) rfl rfl rfl (by decide +kernel) ⟨Nat.le_of_ble_eq_true rfl, Nat.le_of_ble_eq_true rfl⟩) (pSSs hV hN hK hPc) rfl rfl hl.1 rfl (lv_room (Nat.le_of_ble_eq_true rfl)) dX7_wordKind_203 ⟨Nat.le_of_ble_eq_true rfl, Nat.le_of_ble_eq_true rfl⟩) (fun r_28 hw => ?_)
    clear hPc
    clear hw
    exact W.iret (v := r_28) hx hb hr (fun t ht hW => ⟨r_28, rfl, trivial, ht⟩) (fun q h => absurd h List.not_mem_nil) dX7_wordKind_206
  simp only [i_eq, T110] at c_26
  by_cases c_29 : r_1 = 111
  · refine lv_topi (fun y_30 ey_30 => ?_)
    obtain rfl : y_30 = 111 := ey_30.trans c_29
    refine lv_tableIn (off := 158) (tgt := 163) hx hb dX7_wordKind_5 (by decide) (by decide) (by decide) (by decide) ?_
    simp only [i_eq, T111] at c_29
    refine lv_aload_n hx hb dX7_wordKind_163 rfl (lv_at hl 0 rfl) ?_
    refine lv_iload_n hx hb dX7_wordKind_164 rfl (lv_at hl 1 rfl) ?_
    refine lv_iload_n hx hb dX7_wordKind_165 rfl (lv_at hl 2 rfl) ?_
    refine va_ldcS hx hb hown hV.r5 dX7_wordKind_166 ?_
    refine lv_bipush (v := 7) hx hb dX7_wordKind_168 (by decide) ?_
    have hPc := hP.sub (ws' := [((a 1), .inr (5, [.ref (a 15), .int tl])), ((a 15), .inl (cB, 500, .inl tb))]) [0, 1] rfl
    refine vp_callSi (W.runS (As := [.ref (a 1), .int p0, .int p1, .ref (adK 5), .int 7]) (rest := []) ⟨hx, hb, hml, hown, ht⟩ (s_X7_ifWord l dC dI cB cI cJ cZ cL a 5 adK adV tl tb p0 p1 7 (by first | assumption | omega | decide | (simp only [T0, T1, T2, T3, Tm1]; omega)) (by first | assumption | omega | decide | (simp only [T0, T1, T2, T3, Tm1]; omega))) (va_cwS 5 ht (gQ w_510 w_511 w_107 w_512) rfl rfl rfl (by decide +kernel) ⟨Nat.le_of_ble_eq_true rfl, Nat.le_of_ble_eq_true rfl⟩) (pSSs hV hN hK hPc) rfl rfl hl.1 rfl (lv_room (Nat.le_of_ble_eq_true rfl)) dX7_wordKind_170 ⟨Nat.le_of_ble_eq_true rfl, Nat.le_of_ble_eq_true rfl⟩) (fun r_31 hw => ?_)
    clear hPc
    clear hw
    exact W.iret (v := r_31) hx hb hr (fun t ht hW => ⟨r_31, rfl, trivial, ht⟩) (fun q h => absurd h List.not_mem_nil) dX7_wordKind_173
  simp only [i_eq, T111] at c_29
  by_cases c_32 : r_1 = 112
  · refine lv_topi (fun y_33 ey_33 => ?_)
    obtain rfl : y_33 = 112 := ey_33.trans c_32
    refine lv_tableIn (off := 202) (tgt := 207) hx hb dX7_wordKind_5 (by decide) (by decide) (by decide) (by decide) ?_
    simp only [i_eq, T112] at c_32
    refine lv_iconst (v := 3) hx hb dX7_wordKind_207 (by decide) ?_
    exact W.iret (v := 3) hx hb hr (fun t ht hW => ⟨3, rfl, trivial, ht⟩) (fun q h => absurd h List.not_mem_nil) dX7_wordKind_208
  simp only [i_eq, T112] at c_32
  by_cases c_34 : r_1 = 113
  · refine lv_topi (fun y_35 ey_35 => ?_)
    obtain rfl : y_35 = 113 := ey_35.trans c_34
    refine lv_tableIn (off := 202) (tgt := 207) hx hb dX7_wordKind_5 (by decide) (by decide) (by decide) (by decide) ?_
    simp only [i_eq, T113] at c_34
    refine lv_iconst (v := 3) hx hb dX7_wordKind_207 (by decide) ?_
    exact W.iret (v := 3) hx hb hr (fun t ht hW => ⟨3, rfl, trivial, ht⟩) (fun q h => absurd h List.not_mem_nil) dX7_wordKind_208
  simp only [i_eq, T113] at c_34
  by_cases c_36 : r_1 = 114
  · refine lv_topi (fun y_37 ey_37 => ?_)
    obtain rfl : y_37 = 114 := ey_37.trans c_36
    refine lv_tableIn (off := 202) (tgt := 207) hx hb dX7_wordKind_5 (by decide) (by decide) (by decide) (by decide) ?_
    simp only [i_eq, T114] at c_36
    refine lv_iconst (v := 3) hx hb dX7_wordKind_207 (by decide) ?_
    exact W.iret (v := 3) hx hb hr (fun t ht hW => ⟨3, rfl, trivial, ht⟩) (fun q h => absurd h List.not_mem_nil) dX7_wordKind_208
  simp only [i_eq, T114] at c_36
  by_cases c_38 : r_1 = 115
  · refine lv_topi (fun y_39 ey_39 => ?_)
    obtain rfl : y_39 = 115 := ey_39.trans c_38
    refine lv_tableIn (off := 180) (tgt := 185) hx hb dX7_wordKind_5 (by decide) (by decide) (by decide) (by decide) ?_
    simp only [i_eq, T115] at c_38
    refine lv_aload_n hx hb dX7_wordKind_185 rfl (lv_at hl 0 rfl) ?_
    refine lv_iload_n hx hb dX7_wordKind_186 rfl (lv_at hl 1 rfl) ?_
    refine lv_iload_n hx hb dX7_wordKind_187 rfl (lv_at hl 2 rfl) ?_
    refine va_ldcS hx hb hown hV.r7 dX7_wordKind_188 ?_
    refine lv_bipush (v := 9) hx hb dX7_wordKind_190 (by decide) ?_
    have hPc := hP.sub (ws' := [((a 1), .inr (5, [.ref (a 15), .int tl])), ((a 15), .inl (cB, 500, .inl tb))]) [0, 1] rfl
    refine vp_callSi (W.runS (As := [.ref (a 1), .int p0, .int p1, .ref (adK 7), .int 9]) (rest := []) ⟨hx, hb, hml, hown, ht⟩ (s_X7_ifWord l dC dI cB cI cJ cZ cL a 7 adK adV tl tb p0 p1 9 (by first | assumption | omega | decide | (simp only [T0, T1, T2, T3, Tm1]; omega)) (by first | assumption | omega | decide | (simp only [T0, T1, T2, T3, Tm1]; omega))) (va_cwS 5 ht (gQ w_510 w_511 w_107 w_512) rfl rfl rfl (by decide +kernel) ⟨Nat.le_of_ble_eq_true rfl, Nat.le_of_ble_eq_true rfl⟩) (pSSs hV hN hK hPc) rfl rfl hl.1 rfl (lv_room (Nat.le_of_ble_eq_true rfl)) dX7_wordKind_192 ⟨Nat.le_of_ble_eq_true rfl, Nat.le_of_ble_eq_true rfl⟩) (fun r_40 hw => ?_)
    clear hPc
    clear hw
    exact W.iret (v := r_40) hx hb hr (fun t ht hW => ⟨r_40, rfl, trivial, ht⟩) (fun q h => absurd h List.not_mem_nil) dX7_wordKind_195
  simp only [i_eq, T115] at c_38
  by_cases c_41 : r_1 = 116
  · refine lv_topi (fun y_42 ey_42 => ?_)
    obtain rfl : y_42 = 116 := ey_42.trans c_41
    refine lv_tableIn (off := 202) (tgt := 207) hx hb dX7_wordKind_5 (by decide) (by decide) (by decide) (by decide) ?_
    simp only [i_eq, T116] at c_41
    refine lv_iconst (v := 3) hx hb dX7_wordKind_207 (by decide) ?_
    exact W.iret (v := 3) hx hb hr (fun t ht hW => ⟨3, rfl, trivial, ht⟩) (fun q h => absurd h List.not_mem_nil) dX7_wordKind_208
  simp only [i_eq, T116] at c_41
  by_cases c_43 : r_1 = 117
  · refine lv_topi (fun y_44 ey_44 => ?_)
    obtain rfl : y_44 = 117 := ey_44.trans c_43
    refine lv_tableIn (off := 202) (tgt := 207) hx hb dX7_wordKind_5 (by decide) (by decide) (by decide) (by decide) ?_
    simp only [i_eq, T117] at c_43
    refine lv_iconst (v := 3) hx hb dX7_wordKind_207 (by decide) ?_
    exact W.iret (v := 3) hx hb hr (fun t ht hW => ⟨3, rfl, trivial, ht⟩) (fun q h => absurd h List.not_mem_nil) dX7_wordKind_208
  simp only [i_eq, T117] at c_43
  by_cases c_45 : r_1 = 118
  · refine lv_topi (fun y_46 ey_46 => ?_)
    obtain rfl : y_46 = 118 := ey_46.trans c_45
    refine lv_tableIn (off := 169) (tgt := 174) hx hb dX7_wordKind_5 (by decide) (by decide) (by decide) (by decide) ?_
    simp only [i_eq, T118] at c_45
    refine lv_aload_n hx hb dX7_wordKind_174 rfl (lv_at hl 0 rfl) ?_
    refine lv_iload_n hx hb dX7_wordKind_175 rfl (lv_at hl 1 rfl) ?_
    refine lv_iload_n hx hb dX7_wordKind_176 rfl (lv_at hl 2 rfl) ?_
    refine va_ldcS hx hb hown hV.r6 dX7_wordKind_177 ?_
    refine lv_bipush (v := 8) hx hb dX7_wordKind_179 (by decide) ?_
    have hPc := hP.sub (ws' := [((a 1), .inr (5, [.ref (a 15), .int tl])), ((a 15), .inl (cB, 500, .inl tb))]) [0, 1] rfl
    refine vp_callSi (W.runS (As := [.ref (a 1), .int p0, .int p1, .ref (adK 6), .int 8]) (rest := []) ⟨hx, hb, hml, hown, ht⟩ (s_X7_ifWord l dC dI cB cI cJ cZ cL a 6 adK adV tl tb p0 p1 8 (by first | assumption | omega | decide | (simp only [T0, T1, T2, T3, Tm1]; omega)) (by first | assumption | omega | decide | (simp only [T0, T1, T2, T3, Tm1]; omega))) (va_cwS 5 ht (gQ w_510 w_511 w_107 w_512) rfl rfl rfl (by decide +kernel) ⟨Nat.le_of_ble_eq_true rfl, Nat.le_of_ble_eq_true rfl⟩) (pSSs hV hN hK hPc) rfl rfl hl.1 rfl (lv_room (Nat.le_of_ble_eq_true rfl)) dX7_wordKind_181 ⟨Nat.le_of_ble_eq_true rfl, Nat.le_of_ble_eq_true rfl⟩) (fun r_47 hw => ?_)
    clear hPc
    clear hw
    exact W.iret (v := r_47) hx hb hr (fun t ht hW => ⟨r_47, rfl, trivial, ht⟩) (fun q h => absurd h List.not_mem_nil) dX7_wordKind_184
  simp only [i_eq, T118] at c_45
  by_cases c_48 : r_1 = 119
  · refine lv_topi (fun y_49 ey_49 => ?_)
    obtain rfl : y_49 = 119 := ey_49.trans c_48
    refine lv_tableIn (off := 95) (tgt := 100) hx hb dX7_wordKind_5 (by decide) (by decide) (by decide) (by decide) ?_
    simp only [i_eq, T119] at c_48
    refine lv_aload_n hx hb dX7_wordKind_100 rfl (lv_at hl 0 rfl) ?_
    refine lv_iload_n hx hb dX7_wordKind_101 rfl (lv_at hl 1 rfl) ?_
    refine lv_iload_n hx hb dX7_wordKind_102 rfl (lv_at hl 2 rfl) ?_
    refine va_ldcS hx hb hown hV.r0 dX7_wordKind_103 ?_
    have hPc := hP.sub (ws' := [((a 1), .inr (5, [.ref (a 15), .int tl])), ((a 15), .inl (cB, 500, .inl tb))]) [0, 1] rfl
    refine vp_callSi (W.runS (As := [.ref (a 1), .int p0, .int p1, .ref (adK 0)]) (rest := []) ⟨hx, hb, hml, hown, ht⟩ (s_X7_isWord l dC dI cB cI cJ cZ cL a 0 adK adV tl tb p0 p1 (by first | assumption | omega | decide | (simp only [T0, T1, T2, T3, Tm1]; omega)) (by first | assumption | omega | decide | (simp only [T0, T1, T2, T3, Tm1]; omega))) (va_cwS 4 ht (gQ w_458 w_459 w_107 w_460) rfl rfl rfl (by decide +kernel) ⟨Nat.le_of_ble_eq_true rfl, Nat.le_of_ble_eq_true rfl⟩) (pSSs hV hN hK hPc) rfl rfl hl.1 rfl (lv_room (Nat.le_of_ble_eq_true rfl)) dX7_wordKind_105 ⟨Nat.le_of_ble_eq_true rfl, Nat.le_of_ble_eq_true rfl⟩) (fun r_50 hw => ?_)
    clear hPc
    clear hw
    refine lv_if_eq (tgt := 115) hx hb dX7_wordKind_108 (by decide) (fun c_51 => ?_) (fun c_51 => ?_)
    · (try simp only [i_lt, i_le, i_eq, T0] at c_51)
      refine lv_aload_n hx hb dX7_wordKind_115 rfl (lv_at hl 0 rfl) ?_
      refine lv_iload_n hx hb dX7_wordKind_116 rfl (lv_at hl 1 rfl) ?_
      refine lv_iload_n hx hb dX7_wordKind_117 rfl (lv_at hl 2 rfl) ?_
      refine va_ldcS hx hb hown hV.r1 dX7_wordKind_118 ?_
      refine lv_bipush (v := 12) hx hb dX7_wordKind_120 (by decide) ?_
      have hPc := hP.sub (ws' := [((a 1), .inr (5, [.ref (a 15), .int tl])), ((a 15), .inl (cB, 500, .inl tb))]) [0, 1] rfl
      refine vp_callSi (W.runS (As := [.ref (a 1), .int p0, .int p1, .ref (adK 1), .int 12]) (rest := []) ⟨hx, hb, hml, hown, ht⟩ (s_X7_ifWord l dC dI cB cI cJ cZ cL a 1 adK adV tl tb p0 p1 12 (by first | assumption | omega | decide | (simp only [T0, T1, T2, T3, Tm1]; omega)) (by first | assumption | omega | decide | (simp only [T0, T1, T2, T3, Tm1]; omega))) (va_cwS 5 ht (gQ w_510 w_511 w_107 w_512) rfl rfl rfl (by decide +kernel) ⟨Nat.le_of_ble_eq_true rfl, Nat.le_of_ble_eq_true rfl⟩) (pSSs hV hN hK hPc) rfl rfl hl.1 rfl (lv_room (Nat.le_of_ble_eq_true rfl)) dX7_wordKind_122 ⟨Nat.le_of_ble_eq_true rfl, Nat.le_of_ble_eq_true rfl⟩) (fun r_52 hw => ?_)
      clear hPc
      clear hw
      exact W.iret (v := r_52) hx hb hr (fun t ht hW => ⟨r_52, rfl, trivial, ht⟩) (fun q h => absurd h List.not_mem_nil) dX7_wordKind_125
    · (try simp only [i_lt, i_le, i_eq, T0] at c_51)
      refine lv_iconst (v := 4) hx hb dX7_wordKind_111 (by decide) ?_
      refine lv_goto (tgt := 125) hx hb dX7_wordKind_112 (by decide) ?_
      exact W.iret (v := 4) hx hb hr (fun t ht hW => ⟨4, rfl, trivial, ht⟩) (fun q h => absurd h List.not_mem_nil) dX7_wordKind_125
  simp only [i_eq, T119] at c_48
  refine lv_tableOut (tgt := 207) hx hb dX7_wordKind_5 (by omega) (by decide) ?_
  refine lv_iconst (v := 3) hx hb dX7_wordKind_207 (by decide) ?_
  exact W.iret (v := 3) hx hb hr (fun t ht hW => ⟨3, rfl, trivial, ht⟩) (fun q h => absurd h List.not_mem_nil) dX7_wordKind_208
set_option maxHeartbeats 8000000 in
set_option maxRecDepth 100000 in
theorem s_X7_add (l : Launch) (dC : Nat → ClassId) (dI : Nat → Nat → Nat) (cB cI cJ cZ cL : ClassId) (sz : Nat) (a : Nat → Nat) (ks : Int32) (kk : Nat → Int32) (kp : Nat → Int32) (kv : Nat → Int32) (p0 : Int32) (p1 : Int32) (p2 : Int32) (hks : 0 ≤ Int32.toInt ks ∧ Int32.toInt ks ≤ 501) : Met l yX7_add (wy yX7_add cX7_add 4 none) ({ frames := 0, cells := 0, slots := 0, locals := 0 }) (va_Pc [.ref (a 2), .int p0, .int p1, .int p2] (fun U => U.heap.size = sz ∧ va_P (dC, dI) vwCl [((a 2), .inr (7, [.ref (a 16), .ref (a 17), .ref (a 18), .int ks])), ((a 16), .inl (cI, 501, .inl kk)), ((a 17), .inl (cI, 501, .inl kp)), ((a 18), .inl (cI, 501, .inl kv))] U.heap ∧ va_K (dC, dI) vwCl (tyL cB cI cJ cZ cL) U ∧ va_D (fun _ => True) [((a 2), .inr (7, [.ref (a 16), .ref (a 17), .ref (a 18), .int ks])), ((a 16), .inl (cI, 501, .inl kk)), ((a 17), .inl (cI, 501, .inl kp)), ((a 18), .inl (cI, 501, .inl kv))] ∧ NW U)) (va_Qv (fun u => (0 ≤ Int32.toInt u.1) ∧ (Int32.toInt u.1 ≤ 501)) (fun (u : (Int32) × (Nat → Int32) × (Nat → Int32) × (Nat → Int32)) t => va_P (dC, dI) vwCl [((a 2), .inr (7, [.ref (a 16), .ref (a 17), .ref (a 18), .int u.1])), ((a 16), .inl (cI, 501, .inl u.2.1)), ((a 17), .inl (cI, 501, .inl u.2.2.1)), ((a 18), .inl (cI, 501, .inl u.2.2.2))] t.heap ∧ va_D (va_A [((a 2), .inr (7, [.ref (a 16), .ref (a 17), .ref (a 18), .int ks])), ((a 16), .inl (cI, 501, .inl kk)), ((a 17), .inl (cI, 501, .inl kp)), ((a 18), .inl (cI, 501, .inl kv))] sz) [((a 2), .inr (7, [.ref (a 16), .ref (a 17), .ref (a 18), .int u.1])), ((a 16), .inl (cI, 501, .inl u.2.1)), ((a 17), .inl (cI, 501, .inl u.2.2.1)), ((a 18), .inl (cI, 501, .inl u.2.2.2))]) (va_A [((a 2), .inr (7, [.ref (a 16), .ref (a 17), .ref (a 18), .int ks])), ((a 16), .inl (cI, 501, .inl kk)), ((a 17), .inl (cI, 501, .inl kp)), ((a 18), .inl (cI, 501, .inl kv))] sz)) 0 0 (va_A [((a 2), .inr (7, [.ref (a 16), .ref (a 17), .ref (a 18), .int ks])), ((a 16), .inl (cI, 501, .inl kk)), ((a 17), .inl (cI, 501, .inl kp)), ((a 18), .inl (cI, 501, .inl kv))] sz) := by
  refine Met.ofW (cc := cX7_add) (maxL := 4) (ret := none) (by decide) rfl ?_
  intro p e s m args below meth c s₁ B hml hv
  obtain ⟨rfl, hsz, hP, hK, hD0, hN⟩ := hv
  have hx := B.exec
  have hb := B.bytes
  have hr := B.returns
  have ht : ∀ w ∈ lw_ok, w.before _ s = true := fun w h => atoms_spec (ws := wy yX7_add cX7_add 4 none) B.pre w (List.mem_cons_of_mem _ h)
  have hown : s.vm.findClass RX7 = some m.cls := findClass_of_methodNamed B.named
  have hlocks := B.notSynchronized
  subst hsz
  have hD := hD0.self (sz := s.heap.size)
  generalize hAe : va_A [((a 2), .inr (7, [.ref (a 16), .ref (a 17), .ref (a 18), .int ks])), ((a 16), .inl (cI, 501, .inl kk)), ((a 17), .inl (cI, 501, .inl kp)), ((a 18), .inl (cI, 501, .inl kv))] s.heap.size = A at hD ⊢
  have hA : ∀ q : Nat, s.heap.size ≤ q → A q := fun q h => by rw [← hAe]; exact Or.inr h
  have hS : va_S A s.heap s.heap [] := va_S.rf
  clear hAe hD0
  have hl := lv_entry ([.ref (a 2), .int p0, .int p1, .int p2]) (n := 4) (Nat.le_of_ble_eq_true rfl)
  rw [lg_entry_eq]
  generalize (lg_sl ([.ref (a 2), .int p0, .int p1, .int p2]) ++ List.replicate (4 - (lg_sl ([.ref (a 2), .int p0, .int p1, .int p2])).length) Slot.unset).toArray = ls at hl ⊢
  have hl : lv_has ls 4 [(0, .ref (a 2)), (1, .int p0), (2, .int p1), (3, .int p2)] := hl
  have hP : va_P (dC, dI) vwCl [((a 2), .inr (7, [.ref (a 16), .ref (a 17), .ref (a 18), .int ks])), ((a 16), .inl (cI, 501, .inl kk)), ((a 17), .inl (cI, 501, .inl kp)), ((a 18), .inl (cI, 501, .inl kv))] s.heap := hP
  have hD : va_D A [((a 2), .inr (7, [.ref (a 16), .ref (a 17), .ref (a 18), .int ks])), ((a 16), .inl (cI, 501, .inl kk)), ((a 17), .inl (cI, 501, .inl kp)), ((a 18), .inl (cI, 501, .inl kv))] := hD
  have rg_p0 := rgI p0
  have rg_p1 := rgI p1
  have rg_p2 := rgI p2
  refine lv_aload_n hx hb dX7_add_0 rfl (lv_at hl 0 rfl) ?_
  refine va_get (D := (dC, dI)) (ci := 7) (v := .int ks) (C := RX7) (T := TX7) (N := 4) hx hb ht iX7 hown hK hP 0 rfl rfl 3 (by decide) (ht _ w_159) (fun _ h9 => h9) rfl dX7_add_1 ?_
  refine lv_aload_n hx hb dX7_add_4 rfl (lv_at hl 0 rfl) ?_
  refine va_get (D := (dC, dI)) (ci := 7) (v := .ref (a 16)) (C := RX7) (T := TX7) (N := 4) hx hb ht iX7 hown hK hP 0 rfl rfl 0 (by decide) (ht _ w_153) (fun _ h9 => h9) rfl dX7_add_5 ?_
  refine va_alen (v := 501) hx hb hK hP 1 1 rfl rfl (by first | decide | (show Int32.ofNat 501 = 501; decide)) dX7_add_8 ?_
  refine lv_icmp_ge (tgt := 52) hx hb dX7_add_9 (by decide) (fun c_1 => ?_) (fun c_1 => ?_)
  · (try simp only [i_lt, i_le, i_eq, T501] at c_1)
    have hP9 := hP.sub (ws' := [((a 2), .inr (7, [.ref (a 16), .ref (a 17), .ref (a 18), .int ks])), ((a 16), .inl (cI, 501, .inl kk)), ((a 17), .inl (cI, 501, .inl kp)), ((a 18), .inl (cI, 501, .inl kv))]) [0, 1, 2, 3] rfl
    have hD9 := hD.sub (ws' := [((a 2), .inr (7, [.ref (a 16), .ref (a 17), .ref (a 18), .int ks])), ((a 16), .inl (cI, 501, .inl kk)), ((a 17), .inl (cI, 501, .inl kp)), ((a 18), .inl (cI, 501, .inl kv))]) [0, 1, 2, 3] (by decide) rfl
    exact W.vret hx hb hr (fun t ht hW => ⟨⟨(ks, kk, kp, kv), rfl, ⟨(by first | omega | assumption | decide | exact LK_mono (by assumption) (by omega) | exact OM_mono (by assumption) (by omega) | exact CLR_mono (by assumption) (by omega) | (have e0 := T0; have e1 := T1; have e2 := T2; have e3 := T3; have em1 := Tm1; omega) | (dsimp only; done) | (dsimp only; first | omega | assumption | decide | exact LK_mono (by assumption) (by omega) | exact OM_mono (by assumption) (by omega) | exact CLR_mono (by assumption) (by omega) | (have e0 := T0; have e1 := T1; have e2 := T2; have e3 := T3; have em1 := Tm1; omega))), (by first | omega | assumption | decide | exact LK_mono (by assumption) (by omega) | exact OM_mono (by assumption) (by omega) | exact CLR_mono (by assumption) (by omega) | (have e0 := T0; have e1 := T1; have e2 := T2; have e3 := T3; have em1 := Tm1; omega) | (dsimp only; done) | (dsimp only; first | omega | assumption | decide | exact LK_mono (by assumption) (by omega) | exact OM_mono (by assumption) (by omega) | exact CLR_mono (by assumption) (by omega) | (have e0 := T0; have e1 := T1; have e2 := T2; have e3 := T3; have em1 := Tm1; omega)))⟩, ⟨by rw [ht]; exact hP9, hD9⟩⟩, hS.F ht⟩) hS.2.2 dX7_add_52
  · (try simp only [i_lt, i_le, i_eq, T501] at c_1)
    refine lv_aload_n hx hb dX7_add_12 rfl (lv_at hl 0 rfl) ?_
    refine va_get (D := (dC, dI)) (ci := 7) (v := .ref (a 16)) (C := RX7) (T := TX7) (N := 4) hx hb ht iX7 hown hK hP 0 rfl rfl 0 (by decide) (ht _ w_153) (fun _ h9 => h9) rfl dX7_add_13 ?_
    refine lv_aload_n hx hb dX7_add_16 rfl (lv_at hl 0 rfl) ?_
    refine va_get (D := (dC, dI)) (ci := 7) (v := .int ks) (C := RX7) (T := TX7) (N := 4) hx hb ht iX7 hown hK hP 0 rfl rfl 3 (by decide) (ht _ w_159) (fun _ h9 => h9) rfl dX7_add_17 ?_
    refine lv_iload_n hx hb dX7_add_20 rfl (lv_at hl 1 rfl) ?_
    refine va_iast hx hb hK hP hD hS 1 1 rfl rfl (vp_in_iff.mpr (by omega)) dX7_add_21 (fun H locs hP hD hS => ?_)
    obtain ⟨f_2, ef_2⟩ : ∃ z : Nat → Int32, z = upd kk (Int32.toNatClampNeg ks) p0 := ⟨_, rfl⟩
    rw [← ef_2] at hP hD
    clear ef_2
    have hP : va_P (dC, dI) vwCl [((a 2), .inr (7, [.ref (a 16), .ref (a 17), .ref (a 18), .int ks])), ((a 16), .inl (cI, 501, .inl f_2)), ((a 17), .inl (cI, 501, .inl kp)), ((a 18), .inl (cI, 501, .inl kv))] H := hP
    have hD : va_D A [((a 2), .inr (7, [.ref (a 16), .ref (a 17), .ref (a 18), .int ks])), ((a 16), .inl (cI, 501, .inl f_2)), ((a 17), .inl (cI, 501, .inl kp)), ((a 18), .inl (cI, 501, .inl kv))] := hD
    refine lv_aload_n hx hb dX7_add_22 rfl (lv_at hl 0 rfl) ?_
    refine va_get (D := (dC, dI)) (ci := 7) (v := .ref (a 17)) (C := RX7) (T := TX7) (N := 4) hx hb ht iX7 hown hK hP 0 rfl rfl 1 (by decide) (ht _ w_155) (fun _ h9 => h9) rfl dX7_add_23 ?_
    refine lv_aload_n hx hb dX7_add_26 rfl (lv_at hl 0 rfl) ?_
    refine va_get (D := (dC, dI)) (ci := 7) (v := .int ks) (C := RX7) (T := TX7) (N := 4) hx hb ht iX7 hown hK hP 0 rfl rfl 3 (by decide) (ht _ w_159) (fun _ h9 => h9) rfl dX7_add_27 ?_
    refine lv_iload_n hx hb dX7_add_30 rfl (lv_at hl 2 rfl) ?_
    refine va_iast hx hb hK hP hD hS 2 1 rfl rfl (vp_in_iff.mpr (by omega)) dX7_add_31 (fun H locs hP hD hS => ?_)
    obtain ⟨f_3, ef_3⟩ : ∃ z : Nat → Int32, z = upd kp (Int32.toNatClampNeg ks) p1 := ⟨_, rfl⟩
    rw [← ef_3] at hP hD
    clear ef_3
    have hP : va_P (dC, dI) vwCl [((a 2), .inr (7, [.ref (a 16), .ref (a 17), .ref (a 18), .int ks])), ((a 16), .inl (cI, 501, .inl f_2)), ((a 17), .inl (cI, 501, .inl f_3)), ((a 18), .inl (cI, 501, .inl kv))] H := hP
    have hD : va_D A [((a 2), .inr (7, [.ref (a 16), .ref (a 17), .ref (a 18), .int ks])), ((a 16), .inl (cI, 501, .inl f_2)), ((a 17), .inl (cI, 501, .inl f_3)), ((a 18), .inl (cI, 501, .inl kv))] := hD
    refine lv_aload_n hx hb dX7_add_32 rfl (lv_at hl 0 rfl) ?_
    refine va_get (D := (dC, dI)) (ci := 7) (v := .ref (a 18)) (C := RX7) (T := TX7) (N := 4) hx hb ht iX7 hown hK hP 0 rfl rfl 2 (by decide) (ht _ w_157) (fun _ h9 => h9) rfl dX7_add_33 ?_
    refine lv_aload_n hx hb dX7_add_36 rfl (lv_at hl 0 rfl) ?_
    refine va_get (D := (dC, dI)) (ci := 7) (v := .int ks) (C := RX7) (T := TX7) (N := 4) hx hb ht iX7 hown hK hP 0 rfl rfl 3 (by decide) (ht _ w_159) (fun _ h9 => h9) rfl dX7_add_37 ?_
    refine lv_iload_n hx hb dX7_add_40 rfl (lv_at hl 3 rfl) ?_
    refine va_iast hx hb hK hP hD hS 3 1 rfl rfl (vp_in_iff.mpr (by omega)) dX7_add_41 (fun H locs hP hD hS => ?_)
    obtain ⟨f_4, ef_4⟩ : ∃ z : Nat → Int32, z = upd kv (Int32.toNatClampNeg ks) p2 := ⟨_, rfl⟩
    rw [← ef_4] at hP hD
    clear ef_4
    have hP : va_P (dC, dI) vwCl [((a 2), .inr (7, [.ref (a 16), .ref (a 17), .ref (a 18), .int ks])), ((a 16), .inl (cI, 501, .inl f_2)), ((a 17), .inl (cI, 501, .inl f_3)), ((a 18), .inl (cI, 501, .inl f_4))] H := hP
    have hD : va_D A [((a 2), .inr (7, [.ref (a 16), .ref (a 17), .ref (a 18), .int ks])), ((a 16), .inl (cI, 501, .inl f_2)), ((a 17), .inl (cI, 501, .inl f_3)), ((a 18), .inl (cI, 501, .inl f_4))] := hD
    refine lv_aload_n hx hb dX7_add_42 rfl (lv_at hl 0 rfl) ?_
    refine lv_dup hx hb dX7_add_43 rfl ?_
    refine va_get (D := (dC, dI)) (ci := 7) (v := .int ks) (C := RX7) (T := TX7) (N := 4) hx hb ht iX7 hown hK hP 0 rfl rfl 3 (by decide) (ht _ w_159) (fun _ h9 => h9) rfl dX7_add_44 ?_
    refine lv_iconst (v := 1) hx hb dX7_add_47 (by decide) ?_
    refine lv_iadd hx hb dX7_add_48 ?_
    refine lv_topi (fun y_5 ey_5 => ?_)
    have ty_5 := iaddF ey_5
    simp only [T1] at ty_5
    clear ey_5
    refine va_put (D := (dC, dI)) (ci := 7) (v := .int y_5) (ty := .int) (C := RX7) (T := TX7) (N := 4) hx hb ht iX7 tyX7 tyX7_ok nmX7 hown hK hP hD hS 0 rfl rfl 3 (by decide) (ht _ w_159) (fun _ h9 => h9) rfl (by decide +kernel) rfl rfl (Nat.le_of_ble_eq_true rfl) dX7_add_49 (fun H locs hP hD hS => ?_)
    have hP : va_P (dC, dI) vwCl [((a 2), .inr (7, [.ref (a 16), .ref (a 17), .ref (a 18), .int y_5])), ((a 16), .inl (cI, 501, .inl f_2)), ((a 17), .inl (cI, 501, .inl f_3)), ((a 18), .inl (cI, 501, .inl f_4))] H := hP
    have hD : va_D A [((a 2), .inr (7, [.ref (a 16), .ref (a 17), .ref (a 18), .int y_5])), ((a 16), .inl (cI, 501, .inl f_2)), ((a 17), .inl (cI, 501, .inl f_3)), ((a 18), .inl (cI, 501, .inl f_4))] := hD
    have hP9 := hP.sub (ws' := [((a 2), .inr (7, [.ref (a 16), .ref (a 17), .ref (a 18), .int y_5])), ((a 16), .inl (cI, 501, .inl f_2)), ((a 17), .inl (cI, 501, .inl f_3)), ((a 18), .inl (cI, 501, .inl f_4))]) [0, 1, 2, 3] rfl
    have hD9 := hD.sub (ws' := [((a 2), .inr (7, [.ref (a 16), .ref (a 17), .ref (a 18), .int y_5])), ((a 16), .inl (cI, 501, .inl f_2)), ((a 17), .inl (cI, 501, .inl f_3)), ((a 18), .inl (cI, 501, .inl f_4))]) [0, 1, 2, 3] (by decide) rfl
    exact W.vret hx hb hr (fun t ht hW => ⟨⟨(y_5, f_2, f_3, f_4), rfl, ⟨(by first | omega | assumption | decide | exact LK_mono (by assumption) (by omega) | exact OM_mono (by assumption) (by omega) | exact CLR_mono (by assumption) (by omega) | (have e0 := T0; have e1 := T1; have e2 := T2; have e3 := T3; have em1 := Tm1; omega) | (dsimp only; done) | (dsimp only; first | omega | assumption | decide | exact LK_mono (by assumption) (by omega) | exact OM_mono (by assumption) (by omega) | exact CLR_mono (by assumption) (by omega) | (have e0 := T0; have e1 := T1; have e2 := T2; have e3 := T3; have em1 := Tm1; omega))), (by first | omega | assumption | decide | exact LK_mono (by assumption) (by omega) | exact OM_mono (by assumption) (by omega) | exact CLR_mono (by assumption) (by omega) | (have e0 := T0; have e1 := T1; have e2 := T2; have e3 := T3; have em1 := Tm1; omega) | (dsimp only; done) | (dsimp only; first | omega | assumption | decide | exact LK_mono (by assumption) (by omega) | exact OM_mono (by assumption) (by omega) | exact CLR_mono (by assumption) (by omega) | (have e0 := T0; have e1 := T1; have e2 := T2; have e3 := T3; have em1 := Tm1; omega)))⟩, ⟨by rw [ht]; exact hP9, hD9⟩⟩, hS.F ht⟩) hS.2.2 dX7_add_52
set_option maxHeartbeats 8000000 in
set_option maxRecDepth 100000 in
theorem s_X7_scan (l : Launch) (dC : Nat → ClassId) (dI : Nat → Nat → Nat) (cB cI cJ cZ cL : ClassId) (sz : Nat) (a : Nat → Nat) (adK : Nat → Nat) (adV : Nat → Nat) (ks : Int32) (tl : Int32) (tb : Nat → Int32) (kk : Nat → Int32) (kp : Nat → Int32) (kv : Nat → Int32)  (htl : 0 ≤ Int32.toInt tl ∧ Int32.toInt tl ≤ 500) : Met l yX7_scan (wy yX7_scan cX7_scan 5 none) ({ frames := 7, cells := 0, slots := 0, locals := 280 }) (va_Pc [.ref (a 2), .ref (a 1)] (fun U => U.heap.size = sz ∧ va_P (dC, dI) vwCl [((a 2), .inr (7, [.ref (a 16), .ref (a 17), .ref (a 18), .int ks])), ((a 1), .inr (5, [.ref (a 15), .int tl])), ((a 15), .inl (cB, 500, .inl tb)), ((a 16), .inl (cI, 501, .inl kk)), ((a 17), .inl (cI, 501, .inl kp)), ((a 18), .inl (cI, 501, .inl kv))] U.heap ∧ va_K (dC, dI) vwCl (tyL cB cI cJ cZ cL) U ∧ va_D (fun _ => True) [((a 2), .inr (7, [.ref (a 16), .ref (a 17), .ref (a 18), .int ks])), ((a 1), .inr (5, [.ref (a 15), .int tl])), ((a 15), .inl (cB, 500, .inl tb)), ((a 16), .inl (cI, 501, .inl kk)), ((a 17), .inl (cI, 501, .inl kp)), ((a 18), .inl (cI, 501, .inl kv))] ∧ NW U ∧ SW adK adV (va_A [((a 2), .inr (7, [.ref (a 16), .ref (a 17), .ref (a 18), .int ks])), ((a 1), .inr (5, [.ref (a 15), .int tl])), ((a 15), .inl (cB, 500, .inl tb)), ((a 16), .inl (cI, 501, .inl kk)), ((a 17), .inl (cI, 501, .inl kp)), ((a 18), .inl (cI, 501, .inl kv))] sz) U U.heap)) (va_Qv (fun u => (0 ≤ Int32.toInt u.1) ∧ (Int32.toInt u.1 ≤ 501)) (fun (u : (Int32) × (Nat → Int32) × (Nat → Int32) × (Nat → Int32)) t => va_P (dC, dI) vwCl [((a 2), .inr (7, [.ref (a 16), .ref (a 17), .ref (a 18), .int u.1])), ((a 1), .inr (5, [.ref (a 15), .int tl])), ((a 15), .inl (cB, 500, .inl tb)), ((a 16), .inl (cI, 501, .inl u.2.1)), ((a 17), .inl (cI, 501, .inl u.2.2.1)), ((a 18), .inl (cI, 501, .inl u.2.2.2))] t.heap ∧ va_D (va_A [((a 2), .inr (7, [.ref (a 16), .ref (a 17), .ref (a 18), .int ks])), ((a 1), .inr (5, [.ref (a 15), .int tl])), ((a 15), .inl (cB, 500, .inl tb)), ((a 16), .inl (cI, 501, .inl kk)), ((a 17), .inl (cI, 501, .inl kp)), ((a 18), .inl (cI, 501, .inl kv))] sz) [((a 2), .inr (7, [.ref (a 16), .ref (a 17), .ref (a 18), .int u.1])), ((a 1), .inr (5, [.ref (a 15), .int tl])), ((a 15), .inl (cB, 500, .inl tb)), ((a 16), .inl (cI, 501, .inl u.2.1)), ((a 17), .inl (cI, 501, .inl u.2.2.1)), ((a 18), .inl (cI, 501, .inl u.2.2.2))]) (va_A [((a 2), .inr (7, [.ref (a 16), .ref (a 17), .ref (a 18), .int ks])), ((a 1), .inr (5, [.ref (a 15), .int tl])), ((a 15), .inl (cB, 500, .inl tb)), ((a 16), .inl (cI, 501, .inl kk)), ((a 17), .inl (cI, 501, .inl kp)), ((a 18), .inl (cI, 501, .inl kv))] sz)) 0 0 (va_A [((a 2), .inr (7, [.ref (a 16), .ref (a 17), .ref (a 18), .int ks])), ((a 1), .inr (5, [.ref (a 15), .int tl])), ((a 15), .inl (cB, 500, .inl tb)), ((a 16), .inl (cI, 501, .inl kk)), ((a 17), .inl (cI, 501, .inl kp)), ((a 18), .inl (cI, 501, .inl kv))] sz) := by
  refine Met.ofW (cc := cX7_scan) (maxL := 5) (ret := none) (by decide) rfl ?_
  intro p e s m args below meth c s₁ B hml hv
  obtain ⟨rfl, hsz, hP, hK, hD0, hN, hV⟩ := hv
  have hx := B.exec
  have hb := B.bytes
  have hr := B.returns
  have ht : ∀ w ∈ lw_ok, w.before _ s = true := fun w h => atoms_spec (ws := wy yX7_scan cX7_scan 5 none) B.pre w (List.mem_cons_of_mem _ h)
  have hown : s.vm.findClass RX7 = some m.cls := findClass_of_methodNamed B.named
  have hlocks := B.notSynchronized
  subst hsz
  have hD := hD0.self (sz := s.heap.size)
  generalize hAe : va_A [((a 2), .inr (7, [.ref (a 16), .ref (a 17), .ref (a 18), .int ks])), ((a 1), .inr (5, [.ref (a 15), .int tl])), ((a 15), .inl (cB, 500, .inl tb)), ((a 16), .inl (cI, 501, .inl kk)), ((a 17), .inl (cI, 501, .inl kp)), ((a 18), .inl (cI, 501, .inl kv))] s.heap.size = A at hD hV ⊢
  have hA : ∀ q : Nat, s.heap.size ≤ q → A q := fun q h => by rw [← hAe]; exact Or.inr h
  have hS : va_S A s.heap s.heap [] := va_S.rf
  clear hAe hD0
  have hl := lv_entry ([.ref (a 2), .ref (a 1)]) (n := 5) (Nat.le_of_ble_eq_true rfl)
  rw [lg_entry_eq]
  generalize (lg_sl ([.ref (a 2), .ref (a 1)]) ++ List.replicate (5 - (lg_sl ([.ref (a 2), .ref (a 1)])).length) Slot.unset).toArray = ls at hl ⊢
  have hl : lv_has ls 5 [(0, .ref (a 2)), (1, .ref (a 1))] := hl
  have hP : va_P (dC, dI) vwCl [((a 2), .inr (7, [.ref (a 16), .ref (a 17), .ref (a 18), .int ks])), ((a 1), .inr (5, [.ref (a 15), .int tl])), ((a 15), .inl (cB, 500, .inl tb)), ((a 16), .inl (cI, 501, .inl kk)), ((a 17), .inl (cI, 501, .inl kp)), ((a 18), .inl (cI, 501, .inl kv))] s.heap := hP
  have hD : va_D A [((a 2), .inr (7, [.ref (a 16), .ref (a 17), .ref (a 18), .int ks])), ((a 1), .inr (5, [.ref (a 15), .int tl])), ((a 15), .inl (cB, 500, .inl tb)), ((a 16), .inl (cI, 501, .inl kk)), ((a 17), .inl (cI, 501, .inl kp)), ((a 18), .inl (cI, 501, .inl kv))] := hD
  refine lv_aload_n hx hb dX7_scan_0 rfl (lv_at hl 0 rfl) ?_
  refine lv_iconst (v := 0) hx hb dX7_scan_1 (by decide) ?_
  refine va_put (D := (dC, dI)) (ci := 7) (v := .int 0) (ty := .int) (C := RX7) (T := TX7) (N := 4) hx hb ht iX7 tyX7 tyX7_ok nmX7 hown hK hP hD hS 0 rfl rfl 3 (by decide) (ht _ w_159) (fun _ h9 => h9) rfl (by decide +kernel) rfl rfl (Nat.le_of_ble_eq_true rfl) dX7_scan_2 (fun H locs hP hD hS => ?_)
  have hP : va_P (dC, dI) vwCl [((a 2), .inr (7, [.ref (a 16), .ref (a 17), .ref (a 18), .int 0])), ((a 1), .inr (5, [.ref (a 15), .int tl])), ((a 15), .inl (cB, 500, .inl tb)), ((a 16), .inl (cI, 501, .inl kk)), ((a 17), .inl (cI, 501, .inl kp)), ((a 18), .inl (cI, 501, .inl kv))] H := hP
  have hD : va_D A [((a 2), .inr (7, [.ref (a 16), .ref (a 17), .ref (a 18), .int 0])), ((a 1), .inr (5, [.ref (a 15), .int tl])), ((a 15), .inl (cB, 500, .inl tb)), ((a 16), .inl (cI, 501, .inl kk)), ((a 17), .inl (cI, 501, .inl kp)), ((a 18), .inl (cI, 501, .inl kv))] := hD
  refine lv_iconst (v := 0) hx hb dX7_scan_5 (by decide) ?_
  refine lv_istore_n (lv' := [(2, .int 0), (0, .ref (a 2)), (1, .ref (a 1))]) hx hb dX7_scan_6 rfl hl (by decide) rfl (fun ls hl => ?_)
  have lp_124 : ∀ (d : Nat) (v_60 : Int32) (wv_61 : Nat → Int32) (wv_62 : Nat → Int32) (wv_63 : Nat → Int32) (wv_64 : Int32) (H : Heap) (locs : List Loc) (ls : Array Slot), ((0 ≤ Int32.toInt v_60) ∧ (0 ≤ Int32.toInt wv_64) ∧ (Int32.toInt wv_64 ≤ 501)) → ((2147483647 - Int32.toInt v_60).toNat < d) → va_P (dC, dI) vwCl [((a 2), .inr (7, [.ref (a 16), .ref (a 17), .ref (a 18), .int wv_64])), ((a 1), .inr (5, [.ref (a 15), .int tl])), ((a 15), .inl (cB, 500, .inl tb)), ((a 16), .inl (cI, 501, .inl wv_61)), ((a 17), .inl (cI, 501, .inl wv_62)), ((a 18), .inl (cI, 501, .inl wv_63))] H → va_D A [((a 2), .inr (7, [.ref (a 16), .ref (a 17), .ref (a 18), .int wv_64])), ((a 1), .inr (5, [.ref (a 15), .int tl])), ((a 15), .inl (cB, 500, .inl tb)), ((a 16), .inl (cI, 501, .inl wv_61)), ((a 17), .inl (cI, 501, .inl wv_62)), ((a 18), .inl (cI, 501, .inl wv_63))] → va_S A s.heap H locs → lv_has ls 5 [(2, .int v_60), (0, .ref (a 2)), (1, .ref (a 1))] → W p l e (headSpec (wy yX7_scan cX7_scan 5 none) ({ frames := 7, cells := 0, slots := 0, locals := 280 })).room s m ([.ref (a 2), .ref (a 1)] : List Value).toArray below meth c H locs 0 0 (MQ below (va_Qv (fun u => (0 ≤ Int32.toInt u.1) ∧ (Int32.toInt u.1 ≤ 501)) (fun (u : (Int32) × (Nat → Int32) × (Nat → Int32) × (Nat → Int32)) t => va_P (dC, dI) vwCl [((a 2), .inr (7, [.ref (a 16), .ref (a 17), .ref (a 18), .int u.1])), ((a 1), .inr (5, [.ref (a 15), .int tl])), ((a 15), .inl (cB, 500, .inl tb)), ((a 16), .inl (cI, 501, .inl u.2.1)), ((a 17), .inl (cI, 501, .inl u.2.2.1)), ((a 18), .inl (cI, 501, .inl u.2.2.2))] t.heap ∧ va_D A [((a 2), .inr (7, [.ref (a 16), .ref (a 17), .ref (a 18), .int u.1])), ((a 1), .inr (5, [.ref (a 15), .int tl])), ((a 15), .inl (cB, 500, .inl tb)), ((a 16), .inl (cI, 501, .inl u.2.1)), ((a 17), .inl (cI, 501, .inl u.2.2.1)), ((a 18), .inl (cI, 501, .inl u.2.2.2))]) A) ([.ref (a 2), .ref (a 1)] : List Value).toArray s 0 0 A) (F0 m 7 ls []) := by
    intro d
    induction d with
    | zero => intro v_60 wv_61 wv_62 wv_63 wv_64 H locs ls hI hM; exfalso; exact absurd hM (Nat.not_lt_zero _)
    | succ d ih_125 =>
      intro v_60 wv_61 wv_62 wv_63 wv_64 H locs ls hI hM hP hD hS hl
      obtain ⟨hI_126, hI_127, hI_128⟩ := hI
      refine lv_iload_n hx hb dX7_scan_7 rfl (lv_at hl 0 rfl) ?_
      refine lv_aload_n hx hb dX7_scan_8 rfl (lv_at hl 2 rfl) ?_
      refine va_get (D := (dC, dI)) (ci := 5) (v := .int tl) (C := RX5) (T := TX5) (N := 2) hx hb ht iX5 hown hK hP 1 rfl rfl 1 (by decide) (ht _ w_140) (fun _ h9 => h9) rfl dX7_scan_9 ?_
      refine lv_icmp_ge (tgt := 122) hx hb dX7_scan_12 (by decide) (fun c_129 => ?_) (fun c_129 => ?_)
      · (try simp only [i_lt, i_le, i_eq] at c_129)
        refine lv_aload_n hx hb dX7_scan_122 rfl (lv_at hl 1 rfl) ?_
        refine lv_iconst (v := 0) hx hb dX7_scan_123 (by decide) ?_
        refine lv_aload_n hx hb dX7_scan_124 rfl (lv_at hl 2 rfl) ?_
        refine va_get (D := (dC, dI)) (ci := 5) (v := .int tl) (C := RX5) (T := TX5) (N := 2) hx hb ht iX5 hown hK hP 1 rfl rfl 1 (by decide) (ht _ w_140) (fun _ h9 => h9) rfl dX7_scan_125 ?_
        refine lv_iconst (v := 0) hx hb dX7_scan_128 (by decide) ?_
        have hPc := hP.sub (ws' := [((a 2), .inr (7, [.ref (a 16), .ref (a 17), .ref (a 18), .int wv_64])), ((a 16), .inl (cI, 501, .inl wv_61)), ((a 17), .inl (cI, 501, .inl wv_62)), ((a 18), .inl (cI, 501, .inl wv_63))]) [0, 3, 4, 5] rfl
        have hDc := hD.sub (ws' := [((a 2), .inr (7, [.ref (a 16), .ref (a 17), .ref (a 18), .int wv_64])), ((a 16), .inl (cI, 501, .inl wv_61)), ((a 17), .inl (cI, 501, .inl wv_62)), ((a 18), .inl (cI, 501, .inl wv_63))]) [0, 3, 4, 5] (by decide) rfl
        have hFc := va_free (wc := [((a 2), .inr (7, [.ref (a 16), .ref (a 17), .ref (a 18), .int wv_64])), ((a 16), .inl (cI, 501, .inl wv_61)), ((a 17), .inl (cI, 501, .inl wv_62)), ((a 18), .inl (cI, 501, .inl wv_63))]) hD hS hA [0, 3, 4, 5] rfl
        refine va_callv (va_runV (As := [.int 0, .int tl, .int 0]) (rest := []) ⟨hx, hb, hml, hown, ht⟩ (s_X7_add l dC dI cB cI cJ cZ cL H.size a wv_64 wv_61 wv_62 wv_63 0 tl 0 (by first | assumption | omega | decide | (simp only [T0, T1, T2, T3, Tm1]; omega))) (cwV 3 ht (gV w_520 w_522 w_0 w_107 w_523) rfl rfl rfl (by decide +kernel) ⟨Nat.le_of_ble_eq_true rfl, Nat.le_of_ble_eq_true rfl⟩) (pVQn hN hK hPc hDc (ci := 7) (q0 := 0) rfl rfl) rfl rfl hl.1 rfl (lv_room (Nat.le_of_ble_eq_true rfl)) dX7_scan_129 ⟨Nat.le_of_ble_eq_true rfl, Nat.le_of_ble_eq_true rfl⟩) hS (fun q _ h => hFc q h) hFc (fun u_131 t1 H1 locs ht1 hvm hw hB hz1 hk1 hS => ?_)
        obtain ⟨z_132, z_133, z_134, z_135⟩ := u_131
        obtain ⟨hP1, hD1⟩ := hB
        rw [ht1] at hP1
        obtain ⟨hP, hD⟩ := va_join (wr := [((a 1), .inr (5, [.ref (a 15), .int tl])), ((a 15), .inl (cB, 500, .inl tb))]) (w1 := [((a 2), .inr (7, [.ref (a 16), .ref (a 17), .ref (a 18), .int z_132])), ((a 16), .inl (cI, 501, .inl z_133)), ((a 17), .inl (cI, 501, .inl z_134)), ((a 18), .inl (cI, 501, .inl z_135))]) hP hD [0, 3, 4, 5] [1, 2] rfl rfl (by decide) (by decide) hk1 hFc hP1 hD1
        clear hFc hDc hPc hP1 hD1 hz1 hk1 hvm
        generalize H1 = H at hP hS ⊢
        have hP : va_P (dC, dI) vwCl [((a 1), .inr (5, [.ref (a 15), .int tl])), ((a 15), .inl (cB, 500, .inl tb)), ((a 2), .inr (7, [.ref (a 16), .ref (a 17), .ref (a 18), .int z_132])), ((a 16), .inl (cI, 501, .inl z_133)), ((a 17), .inl (cI, 501, .inl z_134)), ((a 18), .inl (cI, 501, .inl z_135))] H := hP
        have hD : va_D A [((a 1), .inr (5, [.ref (a 15), .int tl])), ((a 15), .inl (cB, 500, .inl tb)), ((a 2), .inr (7, [.ref (a 16), .ref (a 17), .ref (a 18), .int z_132])), ((a 16), .inl (cI, 501, .inl z_133)), ((a 17), .inl (cI, 501, .inl z_134)), ((a 18), .inl (cI, 501, .inl z_135))] := hD
        (try dsimp only at hw)
        have hw_136 := hw
        clear hw
        obtain ⟨hw_136_0, hw_136_1⟩ := hw_136
        (try simp only [T0] at hw_136_0 hw_136_1)
        have hP9 := hP.sub (ws' := [((a 2), .inr (7, [.ref (a 16), .ref (a 17), .ref (a 18), .int z_132])), ((a 1), .inr (5, [.ref (a 15), .int tl])), ((a 15), .inl (cB, 500, .inl tb)), ((a 16), .inl (cI, 501, .inl z_133)), ((a 17), .inl (cI, 501, .inl z_134)), ((a 18), .inl (cI, 501, .inl z_135))]) [2, 0, 1, 3, 4, 5] rfl
        have hD9 := hD.sub (ws' := [((a 2), .inr (7, [.ref (a 16), .ref (a 17), .ref (a 18), .int z_132])), ((a 1), .inr (5, [.ref (a 15), .int tl])), ((a 15), .inl (cB, 500, .inl tb)), ((a 16), .inl (cI, 501, .inl z_133)), ((a 17), .inl (cI, 501, .inl z_134)), ((a 18), .inl (cI, 501, .inl z_135))]) [2, 0, 1, 3, 4, 5] (by decide) rfl
        exact W.vret hx hb hr (fun t ht hW => ⟨⟨(z_132, z_133, z_134, z_135), rfl, ⟨(by first | omega | assumption | decide | exact LK_mono (by assumption) (by omega) | exact OM_mono (by assumption) (by omega) | exact CLR_mono (by assumption) (by omega) | (have e0 := T0; have e1 := T1; have e2 := T2; have e3 := T3; have em1 := Tm1; omega) | (dsimp only; done) | (dsimp only; first | omega | assumption | decide | exact LK_mono (by assumption) (by omega) | exact OM_mono (by assumption) (by omega) | exact CLR_mono (by assumption) (by omega) | (have e0 := T0; have e1 := T1; have e2 := T2; have e3 := T3; have em1 := Tm1; omega))), (by first | omega | assumption | decide | exact LK_mono (by assumption) (by omega) | exact OM_mono (by assumption) (by omega) | exact CLR_mono (by assumption) (by omega) | (have e0 := T0; have e1 := T1; have e2 := T2; have e3 := T3; have em1 := Tm1; omega) | (dsimp only; done) | (dsimp only; first | omega | assumption | decide | exact LK_mono (by assumption) (by omega) | exact OM_mono (by assumption) (by omega) | exact CLR_mono (by assumption) (by omega) | (have e0 := T0; have e1 := T1; have e2 := T2; have e3 := T3; have em1 := Tm1; omega)))⟩, ⟨by rw [ht]; exact hP9, hD9⟩⟩, hS.F ht⟩) hS.2.2 dX7_scan_132
      · (try simp only [i_lt, i_le, i_eq] at c_129)
        refine lv_aload_n hx hb dX7_scan_15 rfl (lv_at hl 2 rfl) ?_
        refine lv_iload_n hx hb dX7_scan_16 rfl (lv_at hl 0 rfl) ?_
        have hPc := hP.sub (ws' := [((a 1), .inr (5, [.ref (a 15), .int tl])), ((a 15), .inl (cB, 500, .inl tb))]) [1, 2] rfl
        refine vp_callSi (W.runV (As := [.int v_60]) (rest := []) ⟨hx, hb, hml, hown, ht⟩ (s_X5_at l dC dI cB cI cJ cZ cL a tl tb v_60 (by first | assumption | omega | decide | (simp only [T0, T1, T2, T3, Tm1]; omega))) (cwV 1 ht (gV w_444 w_445 w_446 w_106 w_447) rfl rfl rfl (by decide +kernel) ⟨Nat.le_of_ble_eq_true rfl, Nat.le_of_ble_eq_true rfl⟩) (pVSn hN hK hPc (ci := 5) (q0 := 0) rfl rfl) rfl rfl hl.1 rfl (lv_room (Nat.le_of_ble_eq_true rfl)) dX7_scan_17 ⟨Nat.le_of_ble_eq_true rfl, Nat.le_of_ble_eq_true rfl⟩) (fun r_137 hw => ?_)
        clear hPc
        clear hw
        refine lv_istore_n (lv' := [(3, .int r_137), (2, .int v_60), (0, .ref (a 2)), (1, .ref (a 1))]) hx hb dX7_scan_20 rfl hl (by decide) rfl (fun ls hl => ?_)
        refine lv_iload_n hx hb dX7_scan_21 rfl (lv_at hl 1 rfl) ?_
        refine lv_iconst (v := 1) hx hb dX7_scan_22 (by decide) ?_
        refine lv_iadd hx hb dX7_scan_23 ?_
        refine lv_topi (fun y_138 ey_138 => ?_)
        have ty_138 := iaddF ey_138
        simp only [T1] at ty_138
        clear ey_138
        refine lv_istore (lv' := [(4, .int y_138), (3, .int r_137), (2, .int v_60), (0, .ref (a 2)), (1, .ref (a 1))]) hx hb dX7_scan_24 hl (by decide) rfl (fun ls hl => ?_)
        refine lv_iload_n hx hb dX7_scan_26 rfl (lv_at hl 1 rfl) ?_
        have hPc := hP.sub (ws' := []) [] rfl
        refine vp_callSi (W.runS (As := [.int r_137]) (rest := []) ⟨hx, hb, hml, hown, ht⟩ (s_X7_isLetter l dC dI cB cI cJ cZ cL r_137) (va_cwS 1 ht (gQ w_448 w_449 w_107 w_450) rfl rfl rfl (by decide +kernel) ⟨Nat.le_of_ble_eq_true rfl, Nat.le_of_ble_eq_true rfl⟩) (pSSn hN hK hPc) rfl rfl hl.1 rfl (lv_room (Nat.le_of_ble_eq_true rfl)) dX7_scan_27 ⟨Nat.le_of_ble_eq_true rfl, Nat.le_of_ble_eq_true rfl⟩) (fun r_139 hw => ?_)
        clear hPc
        clear hw
        refine lv_if_eq (tgt := 56) hx hb dX7_scan_30 (by decide) (fun c_140 => ?_) (fun c_140 => ?_)
        · (try simp only [i_lt, i_le, i_eq, T0] at c_140)
          refine lv_iload_n hx hb dX7_scan_56 rfl (lv_at hl 1 rfl) ?_
          have hPc := hP.sub (ws' := []) [] rfl
          refine vp_callSi (W.runS (As := [.int r_137]) (rest := []) ⟨hx, hb, hml, hown, ht⟩ (s_X7_isDigit l dC dI cB cI cJ cZ cL r_137) (va_cwS 1 ht (gQ w_524 w_525 w_107 w_526) rfl rfl rfl (by decide +kernel) ⟨Nat.le_of_ble_eq_true rfl, Nat.le_of_ble_eq_true rfl⟩) (pSSn hN hK hPc) rfl rfl hl.1 rfl (lv_room (Nat.le_of_ble_eq_true rfl)) dX7_scan_57 ⟨Nat.le_of_ble_eq_true rfl, Nat.le_of_ble_eq_true rfl⟩) (fun r_141 hw => ?_)
          clear hPc
          clear hw
          refine lv_if_eq (tgt := 86) hx hb dX7_scan_60 (by decide) (fun c_142 => ?_) (fun c_142 => ?_)
          · (try simp only [i_lt, i_le, i_eq, T0] at c_142)
            refine lv_iload_n hx hb dX7_scan_86 rfl (lv_at hl 1 rfl) ?_
            have hPc := hP.sub (ws' := []) [] rfl
            refine vp_callSi (W.runS (As := [.int r_137]) (rest := []) ⟨hx, hb, hml, hown, ht⟩ (s_X7_isBlank l dC dI cB cI cJ cZ cL r_137) (va_cwS 1 ht (gQ w_536 w_537 w_107 w_538) rfl rfl rfl (by decide +kernel) ⟨Nat.le_of_ble_eq_true rfl, Nat.le_of_ble_eq_true rfl⟩) (pSSn hN hK hPc) rfl rfl hl.1 rfl (lv_room (Nat.le_of_ble_eq_true rfl)) dX7_scan_87 ⟨Nat.le_of_ble_eq_true rfl, Nat.le_of_ble_eq_true rfl⟩) (fun r_143 hw => ?_)
            clear hPc
            clear hw
            refine lv_if_ne (tgt := 110) hx hb dX7_scan_90 (by decide) (fun c_144 => ?_) (fun c_144 => ?_)
            · (try simp only [i_lt, i_le, i_eq, T0] at c_144)
              refine lv_iload hx hb dX7_scan_110 (lv_at hl 0 rfl) ?_
              refine lv_iload_n hx hb dX7_scan_112 rfl (lv_at hl 2 rfl) ?_
              refine lv_iconst (v := 1) hx hb dX7_scan_113 (by decide) ?_
              refine lv_iadd hx hb dX7_scan_114 ?_
              refine lv_topi (fun y_145 ey_145 => ?_)
              have ty_145 := iaddF ey_145
              simp only [T1] at ty_145
              clear ey_145
              refine va_mmax hx hb (by rw [hml]; exact hl.1.symm) hown (ht _ w_539) (ht _ w_540) (ht _ w_119) (ht _ w_mathmax) (Nat.le_of_ble_eq_true rfl) (Nat.le_of_ble_eq_true rfl) (Nat.le_of_ble_eq_true rfl) (Nat.le_of_ble_eq_true rfl) dX7_scan_115 ?_
              refine lv_topi (fun y_146 ey_146 => ?_)
              have ty_146 := mmaxF ey_146
              clear ey_146
              refine lv_istore_n (lv' := [(2, .int y_146), (4, .int y_138), (3, .int r_137), (0, .ref (a 2)), (1, .ref (a 1))]) hx hb dX7_scan_118 rfl hl (by decide) rfl (fun ls hl => ?_)
              refine lv_goto (tgt := 7) hx hb dX7_scan_119 (by decide) ?_
              exact ih_125 y_146 wv_61 wv_62 wv_63 wv_64 _ _ _ ⟨(by first | omega | assumption | decide | exact LK_0 | exact OM_0 | exact CE_0 | exact SZI_0 | exact CLR_0 | exact CP_0 | exact PV_0 | exact BV_0 (by assumption) (by omega) (by omega) | exact LK_mono (by assumption) (by omega) | exact OM_mono (by assumption) (by omega) | exact CE_mono (by assumption) (by omega) | exact CLR_mono (by assumption) (by omega) | exact CP_mono (by assumption) (by omega) | (have e0 := T0; have e1 := T1; have e2 := T2; have em1 := Tm1; omega)), (by first | omega | assumption | decide | exact LK_0 | exact OM_0 | exact CE_0 | exact SZI_0 | exact CLR_0 | exact CP_0 | exact PV_0 | exact BV_0 (by assumption) (by omega) (by omega) | exact LK_mono (by assumption) (by omega) | exact OM_mono (by assumption) (by omega) | exact CE_mono (by assumption) (by omega) | exact CLR_mono (by assumption) (by omega) | exact CP_mono (by assumption) (by omega) | (have e0 := T0; have e1 := T1; have e2 := T2; have em1 := Tm1; omega)), (by first | omega | assumption | decide | exact LK_0 | exact OM_0 | exact CE_0 | exact SZI_0 | exact CLR_0 | exact CP_0 | exact PV_0 | exact BV_0 (by assumption) (by omega) (by omega) | exact LK_mono (by assumption) (by omega) | exact OM_mono (by assumption) (by omega) | exact CE_mono (by assumption) (by omega) | exact CLR_mono (by assumption) (by omega) | exact CP_mono (by assumption) (by omega) | (have e0 := T0; have e1 := T1; have e2 := T2; have em1 := Tm1; omega))⟩ (by omega) (hP.sub (ws' := [((a 2), .inr (7, [.ref (a 16), .ref (a 17), .ref (a 18), .int wv_64])), ((a 1), .inr (5, [.ref (a 15), .int tl])), ((a 15), .inl (cB, 500, .inl tb)), ((a 16), .inl (cI, 501, .inl wv_61)), ((a 17), .inl (cI, 501, .inl wv_62)), ((a 18), .inl (cI, 501, .inl wv_63))]) [0, 1, 2, 3, 4, 5] rfl) (hD.sub (ws' := [((a 2), .inr (7, [.ref (a 16), .ref (a 17), .ref (a 18), .int wv_64])), ((a 1), .inr (5, [.ref (a 15), .int tl])), ((a 15), .inl (cB, 500, .inl tb)), ((a 16), .inl (cI, 501, .inl wv_61)), ((a 17), .inl (cI, 501, .inl wv_62)), ((a 18), .inl (cI, 501, .inl wv_63))]) [0, 1, 2, 3, 4, 5] (by decide) rfl) hS (lv_sub hl [0, 3, 4] rfl)
            · (try simp only [i_lt, i_le, i_eq, T0] at c_144)
              refine lv_aload_n hx hb dX7_scan_93 rfl (lv_at hl 3 rfl) ?_
              refine lv_iload_n hx hb dX7_scan_94 rfl (lv_at hl 1 rfl) ?_
              refine lv_bipush (v := 59) hx hb dX7_scan_95 (by decide) ?_
              refine lv_icmp_ne (tgt := 104) hx hb dX7_scan_97 (by decide) (fun c_147 => ?_) (fun c_147 => ?_)
              · (try simp only [i_lt, i_le, i_eq, T59] at c_147)
                refine lv_iconst (v := 3) hx hb dX7_scan_104 (by decide) ?_
                refine lv_iload_n hx hb dX7_scan_105 rfl (lv_at hl 2 rfl) ?_
                refine lv_iconst (v := 0) hx hb dX7_scan_106 (by decide) ?_
                have hPc := hP.sub (ws' := [((a 2), .inr (7, [.ref (a 16), .ref (a 17), .ref (a 18), .int wv_64])), ((a 16), .inl (cI, 501, .inl wv_61)), ((a 17), .inl (cI, 501, .inl wv_62)), ((a 18), .inl (cI, 501, .inl wv_63))]) [0, 3, 4, 5] rfl
                have hDc := hD.sub (ws' := [((a 2), .inr (7, [.ref (a 16), .ref (a 17), .ref (a 18), .int wv_64])), ((a 16), .inl (cI, 501, .inl wv_61)), ((a 17), .inl (cI, 501, .inl wv_62)), ((a 18), .inl (cI, 501, .inl wv_63))]) [0, 3, 4, 5] (by decide) rfl
                have hFc := va_free (wc := [((a 2), .inr (7, [.ref (a 16), .ref (a 17), .ref (a 18), .int wv_64])), ((a 16), .inl (cI, 501, .inl wv_61)), ((a 17), .inl (cI, 501, .inl wv_62)), ((a 18), .inl (cI, 501, .inl wv_63))]) hD hS hA [0, 3, 4, 5] rfl
                refine va_callv (va_runV (As := [.int 3, .int v_60, .int 0]) (rest := []) ⟨hx, hb, hml, hown, ht⟩ (s_X7_add l dC dI cB cI cJ cZ cL H.size a wv_64 wv_61 wv_62 wv_63 3 v_60 0 (by first | assumption | omega | decide | (simp only [T0, T1, T2, T3, Tm1]; omega))) (cwV 3 ht (gV w_520 w_522 w_0 w_107 w_523) rfl rfl rfl (by decide +kernel) ⟨Nat.le_of_ble_eq_true rfl, Nat.le_of_ble_eq_true rfl⟩) (pVQn hN hK hPc hDc (ci := 7) (q0 := 0) rfl rfl) rfl rfl hl.1 rfl (lv_room (Nat.le_of_ble_eq_true rfl)) dX7_scan_107 ⟨Nat.le_of_ble_eq_true rfl, Nat.le_of_ble_eq_true rfl⟩) hS (fun q _ h => hFc q h) hFc (fun u_149 t1 H1 locs ht1 hvm hw hB hz1 hk1 hS => ?_)
                obtain ⟨z_150, z_151, z_152, z_153⟩ := u_149
                obtain ⟨hP1, hD1⟩ := hB
                rw [ht1] at hP1
                obtain ⟨hP, hD⟩ := va_join (wr := [((a 1), .inr (5, [.ref (a 15), .int tl])), ((a 15), .inl (cB, 500, .inl tb))]) (w1 := [((a 2), .inr (7, [.ref (a 16), .ref (a 17), .ref (a 18), .int z_150])), ((a 16), .inl (cI, 501, .inl z_151)), ((a 17), .inl (cI, 501, .inl z_152)), ((a 18), .inl (cI, 501, .inl z_153))]) hP hD [0, 3, 4, 5] [1, 2] rfl rfl (by decide) (by decide) hk1 hFc hP1 hD1
                clear hFc hDc hPc hP1 hD1 hz1 hk1 hvm
                generalize H1 = H at hP hS ⊢
                have hP : va_P (dC, dI) vwCl [((a 1), .inr (5, [.ref (a 15), .int tl])), ((a 15), .inl (cB, 500, .inl tb)), ((a 2), .inr (7, [.ref (a 16), .ref (a 17), .ref (a 18), .int z_150])), ((a 16), .inl (cI, 501, .inl z_151)), ((a 17), .inl (cI, 501, .inl z_152)), ((a 18), .inl (cI, 501, .inl z_153))] H := hP
                have hD : va_D A [((a 1), .inr (5, [.ref (a 15), .int tl])), ((a 15), .inl (cB, 500, .inl tb)), ((a 2), .inr (7, [.ref (a 16), .ref (a 17), .ref (a 18), .int z_150])), ((a 16), .inl (cI, 501, .inl z_151)), ((a 17), .inl (cI, 501, .inl z_152)), ((a 18), .inl (cI, 501, .inl z_153))] := hD
                (try dsimp only at hw)
                have hw_154 := hw
                clear hw
                obtain ⟨hw_154_0, hw_154_1⟩ := hw_154
                (try simp only [T0, T3] at hw_154_0 hw_154_1)
                refine lv_iload hx hb dX7_scan_110 (lv_at hl 0 rfl) ?_
                refine lv_iload_n hx hb dX7_scan_112 rfl (lv_at hl 2 rfl) ?_
                refine lv_iconst (v := 1) hx hb dX7_scan_113 (by decide) ?_
                refine lv_iadd hx hb dX7_scan_114 ?_
                refine lv_topi (fun y_155 ey_155 => ?_)
                have ty_155 := iaddF ey_155
                simp only [T1] at ty_155
                clear ey_155
                refine va_mmax hx hb (by rw [hml]; exact hl.1.symm) hown (ht _ w_539) (ht _ w_540) (ht _ w_119) (ht _ w_mathmax) (Nat.le_of_ble_eq_true rfl) (Nat.le_of_ble_eq_true rfl) (Nat.le_of_ble_eq_true rfl) (Nat.le_of_ble_eq_true rfl) dX7_scan_115 ?_
                refine lv_topi (fun y_156 ey_156 => ?_)
                have ty_156 := mmaxF ey_156
                clear ey_156
                refine lv_istore_n (lv' := [(2, .int y_156), (4, .int y_138), (3, .int r_137), (0, .ref (a 2)), (1, .ref (a 1))]) hx hb dX7_scan_118 rfl hl (by decide) rfl (fun ls hl => ?_)
                refine lv_goto (tgt := 7) hx hb dX7_scan_119 (by decide) ?_
                exact ih_125 y_156 z_151 z_152 z_153 z_150 _ _ _ ⟨(by first | omega | assumption | decide | exact LK_0 | exact OM_0 | exact CE_0 | exact SZI_0 | exact CLR_0 | exact CP_0 | exact PV_0 | exact BV_0 (by assumption) (by omega) (by omega) | exact LK_mono (by assumption) (by omega) | exact OM_mono (by assumption) (by omega) | exact CE_mono (by assumption) (by omega) | exact CLR_mono (by assumption) (by omega) | exact CP_mono (by assumption) (by omega) | (have e0 := T0; have e1 := T1; have e2 := T2; have em1 := Tm1; omega)), (by first | omega | assumption | decide | exact LK_0 | exact OM_0 | exact CE_0 | exact SZI_0 | exact CLR_0 | exact CP_0 | exact PV_0 | exact BV_0 (by assumption) (by omega) (by omega) | exact LK_mono (by assumption) (by omega) | exact OM_mono (by assumption) (by omega) | exact CE_mono (by assumption) (by omega) | exact CLR_mono (by assumption) (by omega) | exact CP_mono (by assumption) (by omega) | (have e0 := T0; have e1 := T1; have e2 := T2; have em1 := Tm1; omega)), (by first | omega | assumption | decide | exact LK_0 | exact OM_0 | exact CE_0 | exact SZI_0 | exact CLR_0 | exact CP_0 | exact PV_0 | exact BV_0 (by assumption) (by omega) (by omega) | exact LK_mono (by assumption) (by omega) | exact OM_mono (by assumption) (by omega) | exact CE_mono (by assumption) (by omega) | exact CLR_mono (by assumption) (by omega) | exact CP_mono (by assumption) (by omega) | (have e0 := T0; have e1 := T1; have e2 := T2; have em1 := Tm1; omega))⟩ (by omega) (hP.sub (ws' := [((a 2), .inr (7, [.ref (a 16), .ref (a 17), .ref (a 18), .int z_150])), ((a 1), .inr (5, [.ref (a 15), .int tl])), ((a 15), .inl (cB, 500, .inl tb)), ((a 16), .inl (cI, 501, .inl z_151)), ((a 17), .inl (cI, 501, .inl z_152)), ((a 18), .inl (cI, 501, .inl z_153))]) [2, 0, 1, 3, 4, 5] rfl) (hD.sub (ws' := [((a 2), .inr (7, [.ref (a 16), .ref (a 17), .ref (a 18), .int z_150])), ((a 1), .inr (5, [.ref (a 15), .int tl])), ((a 15), .inl (cB, 500, .inl tb)), ((a 16), .inl (cI, 501, .inl z_151)), ((a 17), .inl (cI, 501, .inl z_152)), ((a 18), .inl (cI, 501, .inl z_153))]) [2, 0, 1, 3, 4, 5] (by decide) rfl) hS (lv_sub hl [0, 3, 4] rfl)
              · (try simp only [i_lt, i_le, i_eq, T59] at c_147)
                refine lv_iconst (v := 2) hx hb dX7_scan_100 (by decide) ?_
                refine lv_goto (tgt := 105) hx hb dX7_scan_101 (by decide) ?_
                refine lv_iload_n hx hb dX7_scan_105 rfl (lv_at hl 2 rfl) ?_
                refine lv_iconst (v := 0) hx hb dX7_scan_106 (by decide) ?_
                have hPc := hP.sub (ws' := [((a 2), .inr (7, [.ref (a 16), .ref (a 17), .ref (a 18), .int wv_64])), ((a 16), .inl (cI, 501, .inl wv_61)), ((a 17), .inl (cI, 501, .inl wv_62)), ((a 18), .inl (cI, 501, .inl wv_63))]) [0, 3, 4, 5] rfl
                have hDc := hD.sub (ws' := [((a 2), .inr (7, [.ref (a 16), .ref (a 17), .ref (a 18), .int wv_64])), ((a 16), .inl (cI, 501, .inl wv_61)), ((a 17), .inl (cI, 501, .inl wv_62)), ((a 18), .inl (cI, 501, .inl wv_63))]) [0, 3, 4, 5] (by decide) rfl
                have hFc := va_free (wc := [((a 2), .inr (7, [.ref (a 16), .ref (a 17), .ref (a 18), .int wv_64])), ((a 16), .inl (cI, 501, .inl wv_61)), ((a 17), .inl (cI, 501, .inl wv_62)), ((a 18), .inl (cI, 501, .inl wv_63))]) hD hS hA [0, 3, 4, 5] rfl
                refine va_callv (va_runV (As := [.int 2, .int v_60, .int 0]) (rest := []) ⟨hx, hb, hml, hown, ht⟩ (s_X7_add l dC dI cB cI cJ cZ cL H.size a wv_64 wv_61 wv_62 wv_63 2 v_60 0 (by first | assumption | omega | decide | (simp only [T0, T1, T2, T3, Tm1]; omega))) (cwV 3 ht (gV w_520 w_522 w_0 w_107 w_523) rfl rfl rfl (by decide +kernel) ⟨Nat.le_of_ble_eq_true rfl, Nat.le_of_ble_eq_true rfl⟩) (pVQn hN hK hPc hDc (ci := 7) (q0 := 0) rfl rfl) rfl rfl hl.1 rfl (lv_room (Nat.le_of_ble_eq_true rfl)) dX7_scan_107 ⟨Nat.le_of_ble_eq_true rfl, Nat.le_of_ble_eq_true rfl⟩) hS (fun q _ h => hFc q h) hFc (fun u_158 t1 H1 locs ht1 hvm hw hB hz1 hk1 hS => ?_)
                obtain ⟨z_159, z_160, z_161, z_162⟩ := u_158
                obtain ⟨hP1, hD1⟩ := hB
                rw [ht1] at hP1
                obtain ⟨hP, hD⟩ := va_join (wr := [((a 1), .inr (5, [.ref (a 15), .int tl])), ((a 15), .inl (cB, 500, .inl tb))]) (w1 := [((a 2), .inr (7, [.ref (a 16), .ref (a 17), .ref (a 18), .int z_159])), ((a 16), .inl (cI, 501, .inl z_160)), ((a 17), .inl (cI, 501, .inl z_161)), ((a 18), .inl (cI, 501, .inl z_162))]) hP hD [0, 3, 4, 5] [1, 2] rfl rfl (by decide) (by decide) hk1 hFc hP1 hD1
                clear hFc hDc hPc hP1 hD1 hz1 hk1 hvm
                generalize H1 = H at hP hS ⊢
                have hP : va_P (dC, dI) vwCl [((a 1), .inr (5, [.ref (a 15), .int tl])), ((a 15), .inl (cB, 500, .inl tb)), ((a 2), .inr (7, [.ref (a 16), .ref (a 17), .ref (a 18), .int z_159])), ((a 16), .inl (cI, 501, .inl z_160)), ((a 17), .inl (cI, 501, .inl z_161)), ((a 18), .inl (cI, 501, .inl z_162))] H := hP
                have hD : va_D A [((a 1), .inr (5, [.ref (a 15), .int tl])), ((a 15), .inl (cB, 500, .inl tb)), ((a 2), .inr (7, [.ref (a 16), .ref (a 17), .ref (a 18), .int z_159])), ((a 16), .inl (cI, 501, .inl z_160)), ((a 17), .inl (cI, 501, .inl z_161)), ((a 18), .inl (cI, 501, .inl z_162))] := hD
                (try dsimp only at hw)
                have hw_163 := hw
                clear hw
                obtain ⟨hw_163_0, hw_163_1⟩ := hw_163
                (try simp only [T0, T2] at hw_163_0 hw_163_1)
                refine lv_iload hx hb dX7_scan_110 (lv_at hl 0 rfl) ?_
                refine lv_iload_n hx hb dX7_scan_112 rfl (lv_at hl 2 rfl) ?_
                refine lv_iconst (v := 1) hx hb dX7_scan_113 (by decide) ?_
                refine lv_iadd hx hb dX7_scan_114 ?_
                refine lv_topi (fun y_164 ey_164 => ?_)
                have ty_164 := iaddF ey_164
                simp only [T1] at ty_164
                clear ey_164
                refine va_mmax hx hb (by rw [hml]; exact hl.1.symm) hown (ht _ w_539) (ht _ w_540) (ht _ w_119) (ht _ w_mathmax) (Nat.le_of_ble_eq_true rfl) (Nat.le_of_ble_eq_true rfl) (Nat.le_of_ble_eq_true rfl) (Nat.le_of_ble_eq_true rfl) dX7_scan_115 ?_
                refine lv_topi (fun y_165 ey_165 => ?_)
                have ty_165 := mmaxF ey_165
                clear ey_165
                refine lv_istore_n (lv' := [(2, .int y_165), (4, .int y_138), (3, .int r_137), (0, .ref (a 2)), (1, .ref (a 1))]) hx hb dX7_scan_118 rfl hl (by decide) rfl (fun ls hl => ?_)
                refine lv_goto (tgt := 7) hx hb dX7_scan_119 (by decide) ?_
                exact ih_125 y_165 z_160 z_161 z_162 z_159 _ _ _ ⟨(by first | omega | assumption | decide | exact LK_0 | exact OM_0 | exact CE_0 | exact SZI_0 | exact CLR_0 | exact CP_0 | exact PV_0 | exact BV_0 (by assumption) (by omega) (by omega) | exact LK_mono (by assumption) (by omega) | exact OM_mono (by assumption) (by omega) | exact CE_mono (by assumption) (by omega) | exact CLR_mono (by assumption) (by omega) | exact CP_mono (by assumption) (by omega) | (have e0 := T0; have e1 := T1; have e2 := T2; have em1 := Tm1; omega)), (by first | omega | assumption | decide | exact LK_0 | exact OM_0 | exact CE_0 | exact SZI_0 | exact CLR_0 | exact CP_0 | exact PV_0 | exact BV_0 (by assumption) (by omega) (by omega) | exact LK_mono (by assumption) (by omega) | exact OM_mono (by assumption) (by omega) | exact CE_mono (by assumption) (by omega) | exact CLR_mono (by assumption) (by omega) | exact CP_mono (by assumption) (by omega) | (have e0 := T0; have e1 := T1; have e2 := T2; have em1 := Tm1; omega)), (by first | omega | assumption | decide | exact LK_0 | exact OM_0 | exact CE_0 | exact SZI_0 | exact CLR_0 | exact CP_0 | exact PV_0 | exact BV_0 (by assumption) (by omega) (by omega) | exact LK_mono (by assumption) (by omega) | exact OM_mono (by assumption) (by omega) | exact CE_mono (by assumption) (by omega) | exact CLR_mono (by assumption) (by omega) | exact CP_mono (by assumption) (by omega) | (have e0 := T0; have e1 := T1; have e2 := T2; have em1 := Tm1; omega))⟩ (by omega) (hP.sub (ws' := [((a 2), .inr (7, [.ref (a 16), .ref (a 17), .ref (a 18), .int z_159])), ((a 1), .inr (5, [.ref (a 15), .int tl])), ((a 15), .inl (cB, 500, .inl tb)), ((a 16), .inl (cI, 501, .inl z_160)), ((a 17), .inl (cI, 501, .inl z_161)), ((a 18), .inl (cI, 501, .inl z_162))]) [2, 0, 1, 3, 4, 5] rfl) (hD.sub (ws' := [((a 2), .inr (7, [.ref (a 16), .ref (a 17), .ref (a 18), .int z_159])), ((a 1), .inr (5, [.ref (a 15), .int tl])), ((a 15), .inl (cB, 500, .inl tb)), ((a 16), .inl (cI, 501, .inl z_160)), ((a 17), .inl (cI, 501, .inl z_161)), ((a 18), .inl (cI, 501, .inl z_162))]) [2, 0, 1, 3, 4, 5] (by decide) rfl) hS (lv_sub hl [0, 3, 4] rfl)
          · (try simp only [i_lt, i_le, i_eq, T0] at c_142)
            refine lv_aload_n hx hb dX7_scan_63 rfl (lv_at hl 4 rfl) ?_
            refine lv_iload_n hx hb dX7_scan_64 rfl (lv_at hl 2 rfl) ?_
            have hPc := hP.sub (ws' := [((a 1), .inr (5, [.ref (a 15), .int tl])), ((a 15), .inl (cB, 500, .inl tb))]) [1, 2] rfl
            refine vp_callSi (W.runS (As := [.ref (a 1), .int v_60]) (rest := []) ⟨hx, hb, hml, hown, ht⟩ (s_X7_numberEnd l dC dI cB cI cJ cZ cL a tl tb v_60 (by first | assumption | omega | decide | (simp only [T0, T1, T2, T3, Tm1]; omega)) (by first | assumption | omega | decide | (simp only [T0, T1, T2, T3, Tm1]; omega))) (va_cwS 2 ht (gQ w_527 w_528 w_107 w_529) rfl rfl rfl (by decide +kernel) ⟨Nat.le_of_ble_eq_true rfl, Nat.le_of_ble_eq_true rfl⟩) (pSSn hN hK hPc) rfl rfl hl.1 rfl (lv_room (Nat.le_of_ble_eq_true rfl)) dX7_scan_65 ⟨Nat.le_of_ble_eq_true rfl, Nat.le_of_ble_eq_true rfl⟩) (fun r_166 hw => ?_)
            clear hPc
            clear hw
            refine lv_istore (lv' := [(4, .int r_166), (3, .int r_137), (2, .int v_60), (0, .ref (a 2)), (1, .ref (a 1))]) hx hb dX7_scan_68 hl (by decide) rfl (fun ls hl => ?_)
            refine lv_aload_n hx hb dX7_scan_70 rfl (lv_at hl 3 rfl) ?_
            refine lv_iconst (v := 1) hx hb dX7_scan_71 (by decide) ?_
            refine lv_iload_n hx hb dX7_scan_72 rfl (lv_at hl 2 rfl) ?_
            refine lv_aload_n hx hb dX7_scan_73 rfl (lv_at hl 4 rfl) ?_
            refine lv_iload_n hx hb dX7_scan_74 rfl (lv_at hl 2 rfl) ?_
            refine lv_iload hx hb dX7_scan_75 (lv_at hl 0 rfl) ?_
            have hPc := hP.sub (ws' := [((a 1), .inr (5, [.ref (a 15), .int tl])), ((a 15), .inl (cB, 500, .inl tb))]) [1, 2] rfl
            refine vp_callSi (W.runS (As := [.ref (a 1), .int v_60, .int r_166]) (rest := [.int v_60, .int 1, .ref (a 2)]) ⟨hx, hb, hml, hown, ht⟩ (s_X7_valueOf l dC dI cB cI cJ cZ cL a tl tb v_60 r_166 (by first | assumption | omega | decide | (simp only [T0, T1, T2, T3, Tm1]; omega)) (by first | assumption | omega | decide | (simp only [T0, T1, T2, T3, Tm1]; omega))) (va_cwS 3 ht (gQ w_530 w_531 w_107 w_532) rfl rfl rfl (by decide +kernel) ⟨Nat.le_of_ble_eq_true rfl, Nat.le_of_ble_eq_true rfl⟩) (pSSn hN hK hPc) rfl rfl hl.1 rfl (lv_room (Nat.le_of_ble_eq_true rfl)) dX7_scan_77 ⟨Nat.le_of_ble_eq_true rfl, Nat.le_of_ble_eq_true rfl⟩) (fun r_167 hw => ?_)
            clear hPc
            clear hw
            have hPc := hP.sub (ws' := [((a 2), .inr (7, [.ref (a 16), .ref (a 17), .ref (a 18), .int wv_64])), ((a 16), .inl (cI, 501, .inl wv_61)), ((a 17), .inl (cI, 501, .inl wv_62)), ((a 18), .inl (cI, 501, .inl wv_63))]) [0, 3, 4, 5] rfl
            have hDc := hD.sub (ws' := [((a 2), .inr (7, [.ref (a 16), .ref (a 17), .ref (a 18), .int wv_64])), ((a 16), .inl (cI, 501, .inl wv_61)), ((a 17), .inl (cI, 501, .inl wv_62)), ((a 18), .inl (cI, 501, .inl wv_63))]) [0, 3, 4, 5] (by decide) rfl
            have hFc := va_free (wc := [((a 2), .inr (7, [.ref (a 16), .ref (a 17), .ref (a 18), .int wv_64])), ((a 16), .inl (cI, 501, .inl wv_61)), ((a 17), .inl (cI, 501, .inl wv_62)), ((a 18), .inl (cI, 501, .inl wv_63))]) hD hS hA [0, 3, 4, 5] rfl
            refine va_callv (va_runV (As := [.int 1, .int v_60, .int r_167]) (rest := []) ⟨hx, hb, hml, hown, ht⟩ (s_X7_add l dC dI cB cI cJ cZ cL H.size a wv_64 wv_61 wv_62 wv_63 1 v_60 r_167 (by first | assumption | omega | decide | (simp only [T0, T1, T2, T3, Tm1]; omega))) (cwV 3 ht (gV w_520 w_522 w_0 w_107 w_523) rfl rfl rfl (by decide +kernel) ⟨Nat.le_of_ble_eq_true rfl, Nat.le_of_ble_eq_true rfl⟩) (pVQn hN hK hPc hDc (ci := 7) (q0 := 0) rfl rfl) rfl rfl hl.1 rfl (lv_room (Nat.le_of_ble_eq_true rfl)) dX7_scan_80 ⟨Nat.le_of_ble_eq_true rfl, Nat.le_of_ble_eq_true rfl⟩) hS (fun q _ h => hFc q h) hFc (fun u_169 t1 H1 locs ht1 hvm hw hB hz1 hk1 hS => ?_)
            obtain ⟨z_170, z_171, z_172, z_173⟩ := u_169
            obtain ⟨hP1, hD1⟩ := hB
            rw [ht1] at hP1
            obtain ⟨hP, hD⟩ := va_join (wr := [((a 1), .inr (5, [.ref (a 15), .int tl])), ((a 15), .inl (cB, 500, .inl tb))]) (w1 := [((a 2), .inr (7, [.ref (a 16), .ref (a 17), .ref (a 18), .int z_170])), ((a 16), .inl (cI, 501, .inl z_171)), ((a 17), .inl (cI, 501, .inl z_172)), ((a 18), .inl (cI, 501, .inl z_173))]) hP hD [0, 3, 4, 5] [1, 2] rfl rfl (by decide) (by decide) hk1 hFc hP1 hD1
            clear hFc hDc hPc hP1 hD1 hz1 hk1 hvm
            generalize H1 = H at hP hS ⊢
            have hP : va_P (dC, dI) vwCl [((a 1), .inr (5, [.ref (a 15), .int tl])), ((a 15), .inl (cB, 500, .inl tb)), ((a 2), .inr (7, [.ref (a 16), .ref (a 17), .ref (a 18), .int z_170])), ((a 16), .inl (cI, 501, .inl z_171)), ((a 17), .inl (cI, 501, .inl z_172)), ((a 18), .inl (cI, 501, .inl z_173))] H := hP
            have hD : va_D A [((a 1), .inr (5, [.ref (a 15), .int tl])), ((a 15), .inl (cB, 500, .inl tb)), ((a 2), .inr (7, [.ref (a 16), .ref (a 17), .ref (a 18), .int z_170])), ((a 16), .inl (cI, 501, .inl z_171)), ((a 17), .inl (cI, 501, .inl z_172)), ((a 18), .inl (cI, 501, .inl z_173))] := hD
            (try dsimp only at hw)
            have hw_174 := hw
            clear hw
            obtain ⟨hw_174_0, hw_174_1⟩ := hw_174
            (try simp only [T1] at hw_174_0 hw_174_1)
            refine lv_goto (tgt := 110) hx hb dX7_scan_83 (by decide) ?_
            refine lv_iload hx hb dX7_scan_110 (lv_at hl 0 rfl) ?_
            refine lv_iload_n hx hb dX7_scan_112 rfl (lv_at hl 2 rfl) ?_
            refine lv_iconst (v := 1) hx hb dX7_scan_113 (by decide) ?_
            refine lv_iadd hx hb dX7_scan_114 ?_
            refine lv_topi (fun y_175 ey_175 => ?_)
            have ty_175 := iaddF ey_175
            simp only [T1] at ty_175
            clear ey_175
            refine va_mmax hx hb (by rw [hml]; exact hl.1.symm) hown (ht _ w_539) (ht _ w_540) (ht _ w_119) (ht _ w_mathmax) (Nat.le_of_ble_eq_true rfl) (Nat.le_of_ble_eq_true rfl) (Nat.le_of_ble_eq_true rfl) (Nat.le_of_ble_eq_true rfl) dX7_scan_115 ?_
            refine lv_topi (fun y_176 ey_176 => ?_)
            have ty_176 := mmaxF ey_176
            clear ey_176
            refine lv_istore_n (lv' := [(2, .int y_176), (4, .int r_166), (3, .int r_137), (0, .ref (a 2)), (1, .ref (a 1))]) hx hb dX7_scan_118 rfl hl (by decide) rfl (fun ls hl => ?_)
            refine lv_goto (tgt := 7) hx hb dX7_scan_119 (by decide) ?_
            exact ih_125 y_176 z_171 z_172 z_173 z_170 _ _ _ ⟨(by first | omega | assumption | decide | exact LK_0 | exact OM_0 | exact CE_0 | exact SZI_0 | exact CLR_0 | exact CP_0 | exact PV_0 | exact BV_0 (by assumption) (by omega) (by omega) | exact LK_mono (by assumption) (by omega) | exact OM_mono (by assumption) (by omega) | exact CE_mono (by assumption) (by omega) | exact CLR_mono (by assumption) (by omega) | exact CP_mono (by assumption) (by omega) | (have e0 := T0; have e1 := T1; have e2 := T2; have em1 := Tm1; omega)), (by first | omega | assumption | decide | exact LK_0 | exact OM_0 | exact CE_0 | exact SZI_0 | exact CLR_0 | exact CP_0 | exact PV_0 | exact BV_0 (by assumption) (by omega) (by omega) | exact LK_mono (by assumption) (by omega) | exact OM_mono (by assumption) (by omega) | exact CE_mono (by assumption) (by omega) | exact CLR_mono (by assumption) (by omega) | exact CP_mono (by assumption) (by omega) | (have e0 := T0; have e1 := T1; have e2 := T2; have em1 := Tm1; omega)), (by first | omega | assumption | decide | exact LK_0 | exact OM_0 | exact CE_0 | exact SZI_0 | exact CLR_0 | exact CP_0 | exact PV_0 | exact BV_0 (by assumption) (by omega) (by omega) | exact LK_mono (by assumption) (by omega) | exact OM_mono (by assumption) (by omega) | exact CE_mono (by assumption) (by omega) | exact CLR_mono (by assumption) (by omega) | exact CP_mono (by assumption) (by omega) | (have e0 := T0; have e1 := T1; have e2 := T2; have em1 := Tm1; omega))⟩ (by omega) (hP.sub (ws' := [((a 2), .inr (7, [.ref (a 16), .ref (a 17), .ref (a 18), .int z_170])), ((a 1), .inr (5, [.ref (a 15), .int tl])), ((a 15), .inl (cB, 500, .inl tb)), ((a 16), .inl (cI, 501, .inl z_171)), ((a 17), .inl (cI, 501, .inl z_172)), ((a 18), .inl (cI, 501, .inl z_173))]) [2, 0, 1, 3, 4, 5] rfl) (hD.sub (ws' := [((a 2), .inr (7, [.ref (a 16), .ref (a 17), .ref (a 18), .int z_170])), ((a 1), .inr (5, [.ref (a 15), .int tl])), ((a 15), .inl (cB, 500, .inl tb)), ((a 16), .inl (cI, 501, .inl z_171)), ((a 17), .inl (cI, 501, .inl z_172)), ((a 18), .inl (cI, 501, .inl z_173))]) [2, 0, 1, 3, 4, 5] (by decide) rfl) hS (lv_sub hl [0, 3, 4] rfl)
        · (try simp only [i_lt, i_le, i_eq, T0] at c_140)
          refine lv_aload_n hx hb dX7_scan_33 rfl (lv_at hl 4 rfl) ?_
          refine lv_iload_n hx hb dX7_scan_34 rfl (lv_at hl 2 rfl) ?_
          have hPc := hP.sub (ws' := [((a 1), .inr (5, [.ref (a 15), .int tl])), ((a 15), .inl (cB, 500, .inl tb))]) [1, 2] rfl
          refine vp_callSi (W.runS (As := [.ref (a 1), .int v_60]) (rest := []) ⟨hx, hb, hml, hown, ht⟩ (s_X7_wordEnd l dC dI cB cI cJ cZ cL a tl tb v_60 (by first | assumption | omega | decide | (simp only [T0, T1, T2, T3, Tm1]; omega)) (by first | assumption | omega | decide | (simp only [T0, T1, T2, T3, Tm1]; omega))) (va_cwS 2 ht (gQ w_451 w_452 w_107 w_453) rfl rfl rfl (by decide +kernel) ⟨Nat.le_of_ble_eq_true rfl, Nat.le_of_ble_eq_true rfl⟩) (pSSn hN hK hPc) rfl rfl hl.1 rfl (lv_room (Nat.le_of_ble_eq_true rfl)) dX7_scan_35 ⟨Nat.le_of_ble_eq_true rfl, Nat.le_of_ble_eq_true rfl⟩) (fun r_177 hw => ?_)
          clear hPc
          clear hw
          refine lv_istore (lv' := [(4, .int r_177), (3, .int r_137), (2, .int v_60), (0, .ref (a 2)), (1, .ref (a 1))]) hx hb dX7_scan_38 hl (by decide) rfl (fun ls hl => ?_)
          refine lv_aload_n hx hb dX7_scan_40 rfl (lv_at hl 3 rfl) ?_
          refine lv_aload_n hx hb dX7_scan_41 rfl (lv_at hl 4 rfl) ?_
          refine lv_iload_n hx hb dX7_scan_42 rfl (lv_at hl 2 rfl) ?_
          refine lv_iload hx hb dX7_scan_43 (lv_at hl 0 rfl) ?_
          have hPc := hP.sub (ws' := [((a 1), .inr (5, [.ref (a 15), .int tl])), ((a 15), .inl (cB, 500, .inl tb))]) [1, 2] rfl
          refine vp_callSi (W.runS (As := [.ref (a 1), .int v_60, .int r_177]) (rest := [.ref (a 2)]) ⟨hx, hb, hml, hown, ht⟩ (s_X7_wordKind l dC dI cB cI cJ cZ cL a adK adV tl tb v_60 r_177 (by first | assumption | omega | decide | (simp only [T0, T1, T2, T3, Tm1]; omega))) (va_cwS 3 ht (gQ w_454 w_455 w_107 w_456) rfl rfl rfl (by decide +kernel) ⟨Nat.le_of_ble_eq_true rfl, Nat.le_of_ble_eq_true rfl⟩) (pSSs ((hV.kept hS.2.1).narrow (fun _ h => h.elim)) hN hK hPc) rfl rfl hl.1 rfl (lv_room (Nat.le_of_ble_eq_true rfl)) dX7_scan_45 ⟨Nat.le_of_ble_eq_true rfl, Nat.le_of_ble_eq_true rfl⟩) (fun r_178 hw => ?_)
          clear hPc
          clear hw
          refine lv_iload_n hx hb dX7_scan_48 rfl (lv_at hl 2 rfl) ?_
          refine lv_iconst (v := 0) hx hb dX7_scan_49 (by decide) ?_
          have hPc := hP.sub (ws' := [((a 2), .inr (7, [.ref (a 16), .ref (a 17), .ref (a 18), .int wv_64])), ((a 16), .inl (cI, 501, .inl wv_61)), ((a 17), .inl (cI, 501, .inl wv_62)), ((a 18), .inl (cI, 501, .inl wv_63))]) [0, 3, 4, 5] rfl
          have hDc := hD.sub (ws' := [((a 2), .inr (7, [.ref (a 16), .ref (a 17), .ref (a 18), .int wv_64])), ((a 16), .inl (cI, 501, .inl wv_61)), ((a 17), .inl (cI, 501, .inl wv_62)), ((a 18), .inl (cI, 501, .inl wv_63))]) [0, 3, 4, 5] (by decide) rfl
          have hFc := va_free (wc := [((a 2), .inr (7, [.ref (a 16), .ref (a 17), .ref (a 18), .int wv_64])), ((a 16), .inl (cI, 501, .inl wv_61)), ((a 17), .inl (cI, 501, .inl wv_62)), ((a 18), .inl (cI, 501, .inl wv_63))]) hD hS hA [0, 3, 4, 5] rfl
          refine va_callv (va_runV (As := [.int r_178, .int v_60, .int 0]) (rest := []) ⟨hx, hb, hml, hown, ht⟩ (s_X7_add l dC dI cB cI cJ cZ cL H.size a wv_64 wv_61 wv_62 wv_63 r_178 v_60 0 (by first | assumption | omega | decide | (simp only [T0, T1, T2, T3, Tm1]; omega))) (cwV 3 ht (gV w_520 w_522 w_0 w_107 w_523) rfl rfl rfl (by decide +kernel) ⟨Nat.le_of_ble_eq_true rfl, Nat.le_of_ble_eq_true rfl⟩) (pVQn hN hK hPc hDc (ci := 7) (q0 := 0) rfl rfl) rfl rfl hl.1 rfl (lv_room (Nat.le_of_ble_eq_true rfl)) dX7_scan_50 ⟨Nat.le_of_ble_eq_true rfl, Nat.le_of_ble_eq_true rfl⟩) hS (fun q _ h => hFc q h) hFc (fun u_180 t1 H1 locs ht1 hvm hw hB hz1 hk1 hS => ?_)
          obtain ⟨z_181, z_182, z_183, z_184⟩ := u_180
          obtain ⟨hP1, hD1⟩ := hB
          rw [ht1] at hP1
          obtain ⟨hP, hD⟩ := va_join (wr := [((a 1), .inr (5, [.ref (a 15), .int tl])), ((a 15), .inl (cB, 500, .inl tb))]) (w1 := [((a 2), .inr (7, [.ref (a 16), .ref (a 17), .ref (a 18), .int z_181])), ((a 16), .inl (cI, 501, .inl z_182)), ((a 17), .inl (cI, 501, .inl z_183)), ((a 18), .inl (cI, 501, .inl z_184))]) hP hD [0, 3, 4, 5] [1, 2] rfl rfl (by decide) (by decide) hk1 hFc hP1 hD1
          clear hFc hDc hPc hP1 hD1 hz1 hk1 hvm
          generalize H1 = H at hP hS ⊢
          have hP : va_P (dC, dI) vwCl [((a 1), .inr (5, [.ref (a 15), .int tl])), ((a 15), .inl (cB, 500, .inl tb)), ((a 2), .inr (7, [.ref (a 16), .ref (a 17), .ref (a 18), .int z_181])), ((a 16), .inl (cI, 501, .inl z_182)), ((a 17), .inl (cI, 501, .inl z_183)), ((a 18), .inl (cI, 501, .inl z_184))] H := hP
          have hD : va_D A [((a 1), .inr (5, [.ref (a 15), .int tl])), ((a 15), .inl (cB, 500, .inl tb)), ((a 2), .inr (7, [.ref (a 16), .ref (a 17), .ref (a 18), .int z_181])), ((a 16), .inl (cI, 501, .inl z_182)), ((a 17), .inl (cI, 501, .inl z_183)), ((a 18), .inl (cI, 501, .inl z_184))] := hD
          (try dsimp only at hw)
          have hw_185 := hw
          clear hw
          obtain ⟨hw_185_0, hw_185_1⟩ := hw_185
          (try simp only [T0] at hw_185_0 hw_185_1)
          refine lv_goto (tgt := 110) hx hb dX7_scan_53 (by decide) ?_
          refine lv_iload hx hb dX7_scan_110 (lv_at hl 0 rfl) ?_
          refine lv_iload_n hx hb dX7_scan_112 rfl (lv_at hl 2 rfl) ?_
          refine lv_iconst (v := 1) hx hb dX7_scan_113 (by decide) ?_
          refine lv_iadd hx hb dX7_scan_114 ?_
          refine lv_topi (fun y_186 ey_186 => ?_)
          have ty_186 := iaddF ey_186
          simp only [T1] at ty_186
          clear ey_186
          refine va_mmax hx hb (by rw [hml]; exact hl.1.symm) hown (ht _ w_539) (ht _ w_540) (ht _ w_119) (ht _ w_mathmax) (Nat.le_of_ble_eq_true rfl) (Nat.le_of_ble_eq_true rfl) (Nat.le_of_ble_eq_true rfl) (Nat.le_of_ble_eq_true rfl) dX7_scan_115 ?_
          refine lv_topi (fun y_187 ey_187 => ?_)
          have ty_187 := mmaxF ey_187
          clear ey_187
          refine lv_istore_n (lv' := [(2, .int y_187), (4, .int r_177), (3, .int r_137), (0, .ref (a 2)), (1, .ref (a 1))]) hx hb dX7_scan_118 rfl hl (by decide) rfl (fun ls hl => ?_)
          refine lv_goto (tgt := 7) hx hb dX7_scan_119 (by decide) ?_
          exact ih_125 y_187 z_182 z_183 z_184 z_181 _ _ _ ⟨(by first | omega | assumption | decide | exact LK_0 | exact OM_0 | exact CE_0 | exact SZI_0 | exact CLR_0 | exact CP_0 | exact PV_0 | exact BV_0 (by assumption) (by omega) (by omega) | exact LK_mono (by assumption) (by omega) | exact OM_mono (by assumption) (by omega) | exact CE_mono (by assumption) (by omega) | exact CLR_mono (by assumption) (by omega) | exact CP_mono (by assumption) (by omega) | (have e0 := T0; have e1 := T1; have e2 := T2; have em1 := Tm1; omega)), (by first | omega | assumption | decide | exact LK_0 | exact OM_0 | exact CE_0 | exact SZI_0 | exact CLR_0 | exact CP_0 | exact PV_0 | exact BV_0 (by assumption) (by omega) (by omega) | exact LK_mono (by assumption) (by omega) | exact OM_mono (by assumption) (by omega) | exact CE_mono (by assumption) (by omega) | exact CLR_mono (by assumption) (by omega) | exact CP_mono (by assumption) (by omega) | (have e0 := T0; have e1 := T1; have e2 := T2; have em1 := Tm1; omega)), (by first | omega | assumption | decide | exact LK_0 | exact OM_0 | exact CE_0 | exact SZI_0 | exact CLR_0 | exact CP_0 | exact PV_0 | exact BV_0 (by assumption) (by omega) (by omega) | exact LK_mono (by assumption) (by omega) | exact OM_mono (by assumption) (by omega) | exact CE_mono (by assumption) (by omega) | exact CLR_mono (by assumption) (by omega) | exact CP_mono (by assumption) (by omega) | (have e0 := T0; have e1 := T1; have e2 := T2; have em1 := Tm1; omega))⟩ (by omega) (hP.sub (ws' := [((a 2), .inr (7, [.ref (a 16), .ref (a 17), .ref (a 18), .int z_181])), ((a 1), .inr (5, [.ref (a 15), .int tl])), ((a 15), .inl (cB, 500, .inl tb)), ((a 16), .inl (cI, 501, .inl z_182)), ((a 17), .inl (cI, 501, .inl z_183)), ((a 18), .inl (cI, 501, .inl z_184))]) [2, 0, 1, 3, 4, 5] rfl) (hD.sub (ws' := [((a 2), .inr (7, [.ref (a 16), .ref (a 17), .ref (a 18), .int z_181])), ((a 1), .inr (5, [.ref (a 15), .int tl])), ((a 15), .inl (cB, 500, .inl tb)), ((a 16), .inl (cI, 501, .inl z_182)), ((a 17), .inl (cI, 501, .inl z_183)), ((a 18), .inl (cI, 501, .inl z_184))]) [2, 0, 1, 3, 4, 5] (by decide) rfl) hS (lv_sub hl [0, 3, 4] rfl)
  exact lp_124 _ 0 kk kp kv 0 _ _ _ ⟨(by first | omega | assumption | decide | exact LK_0 | exact OM_0 | exact CE_0 | exact SZI_0 | exact CLR_0 | exact CP_0 | exact PV_0 | exact BV_0 (by assumption) (by omega) (by omega) | exact LK_mono (by assumption) (by omega) | exact OM_mono (by assumption) (by omega) | exact CE_mono (by assumption) (by omega) | exact CLR_mono (by assumption) (by omega) | exact CP_mono (by assumption) (by omega) | (have e0 := T0; have e1 := T1; have e2 := T2; have em1 := Tm1; omega)), (by first | omega | assumption | decide | exact LK_0 | exact OM_0 | exact CE_0 | exact SZI_0 | exact CLR_0 | exact CP_0 | exact PV_0 | exact BV_0 (by assumption) (by omega) (by omega) | exact LK_mono (by assumption) (by omega) | exact OM_mono (by assumption) (by omega) | exact CE_mono (by assumption) (by omega) | exact CLR_mono (by assumption) (by omega) | exact CP_mono (by assumption) (by omega) | (have e0 := T0; have e1 := T1; have e2 := T2; have em1 := Tm1; omega)), (by first | omega | assumption | decide | exact LK_0 | exact OM_0 | exact CE_0 | exact SZI_0 | exact CLR_0 | exact CP_0 | exact PV_0 | exact BV_0 (by assumption) (by omega) (by omega) | exact LK_mono (by assumption) (by omega) | exact OM_mono (by assumption) (by omega) | exact CE_mono (by assumption) (by omega) | exact CLR_mono (by assumption) (by omega) | exact CP_mono (by assumption) (by omega) | (have e0 := T0; have e1 := T1; have e2 := T2; have em1 := Tm1; omega))⟩ (Nat.lt_succ_self _) hP hD hS (lv_sub hl [0, 1, 2] rfl)
