set_option maxHeartbeats 8000000 in
set_option maxRecDepth 100000 in
theorem s_X9_isHearing (l : Launch) (dC : Nat → ClassId) (dI : Nat → Nat → Nat) (cB cI cJ cZ cL : ClassId) (g : Nat → Nat) (g_th : Int32) (g_tp : Int32) (g_so : Int32) (g_tk : Int32) (g_pl : Int32) (g_va : Int32) (g_wo : Int64) (g_bd : Int32) (g_bp : Int32) (g_fa : Int32) (g_fp : Int32) (g_lw : Int32) (g_we : Int32) (g_cu : Int32) (g_go : Int32) (g_ba : Int32) (g_jo : Int32) (g_bt : Int64) (g_sb : Int32) (g_ab : Int32) (g_al : Int32) (hs : Nat → Int32) (sp : Nat → Int32) (pa : Nat → Int64) (p0 : Int32) (h4 : 0 ≤ Int32.toInt (hs 4) ∧ Int32.toInt (hs 4) ≤ 5) (hk : 0 ≤ Int32.toInt p0 ∧ Int32.toInt p0 < Int32.toInt (hs 4)) : Met l yX9_isHearing (wy yX9_isHearing cX9_isHearing 3 (some .boolean)) ({ frames := 0, cells := 0, slots := 0, locals := 0 }) (va_Pc [.ref (g 0), .int p0] (fun U => va_P (dC, dI) vwCl [((g 0), .inr (9, [.int g_th, .ref (g 1), .ref (g 2), .ref (g 3), .ref (g 4), .ref (g 5), .int g_tp, .int g_so, .int g_tk, .int g_pl, .int g_va, .long g_wo, .int g_bd, .int g_bp, .int g_fa, .int g_fp, .ref (g 6), .ref (g 7), .ref (g 8), .ref (g 9), .ref (g 10), .ref (g 11), .int g_lw, .int g_we, .int g_cu, .int g_go, .int g_ba, .ref (g 12), .ref (g 13), .int g_jo, .ref (g 14), .ref (g 15), .long g_bt, .int g_sb, .int g_ab, .int g_al, .ref (g 16), .ref (g 17)])), ((g 7), .inl (cI, 35, .inl hs)), ((g 8), .inl (cI, 75, .inl sp)), ((g 14), .inl (cJ, 6, .inr (.inl pa)))] U.heap ∧ va_K (dC, dI) vwCl (tyL cB cI cJ cZ cL) U ∧ NW U)) (vp_Si (fun r => True)) 0 0 (fun _ => False) := by
  refine Met.ofW (cc := cX9_isHearing) (maxL := 3) (ret := (some .boolean)) (by decide) rfl ?_
  intro p e s m args below meth c s₁ B hml hv
  obtain ⟨rfl, hP, hK, hN⟩ := hv
  have hx := B.exec
  have hb := B.bytes
  have hr := B.returns
  have ht : ∀ w ∈ lw_ok, w.before _ s = true := fun w h => atoms_spec (ws := wy yX9_isHearing cX9_isHearing 3 (some .boolean)) B.pre w (List.mem_cons_of_mem _ h)
  have hown : s.vm.findClass RX9 = some m.cls := findClass_of_methodNamed B.named
  have hlocks := B.notSynchronized
  have hl := lv_entry ([.ref (g 0), .int p0]) (n := 3) (Nat.le_of_ble_eq_true rfl)
  rw [lg_entry_eq]
  generalize (lg_sl ([.ref (g 0), .int p0]) ++ List.replicate (3 - (lg_sl ([.ref (g 0), .int p0])).length) Slot.unset).toArray = ls at hl ⊢
  have hl : lv_has ls 3 [(0, .ref (g 0)), (1, .int p0)] := hl
  have hP : va_P (dC, dI) vwCl [((g 0), .inr (9, [.int g_th, .ref (g 1), .ref (g 2), .ref (g 3), .ref (g 4), .ref (g 5), .int g_tp, .int g_so, .int g_tk, .int g_pl, .int g_va, .long g_wo, .int g_bd, .int g_bp, .int g_fa, .int g_fp, .ref (g 6), .ref (g 7), .ref (g 8), .ref (g 9), .ref (g 10), .ref (g 11), .int g_lw, .int g_we, .int g_cu, .int g_go, .int g_ba, .ref (g 12), .ref (g 13), .int g_jo, .ref (g 14), .ref (g 15), .long g_bt, .int g_sb, .int g_ab, .int g_al, .ref (g 16), .ref (g 17)])), ((g 7), .inl (cI, 35, .inl hs)), ((g 8), .inl (cI, 75, .inl sp)), ((g 14), .inl (cJ, 6, .inr (.inl pa)))] s.heap := hP
  have rg_p0 := rgI p0
  refine lv_aload_n hx hb dX9_isHearing_0 rfl (lv_at hl 0 rfl) ?_
  refine va_get (D := (dC, dI)) (ci := 9) (v := .ref (g 8)) (C := RX9) (T := TX9) (N := 38) hx hb ht iX9 hown hK hP 0 rfl rfl 18 (by decide) (ht _ w_1280) (fun _ h9 => h9) rfl dX9_isHearing_1 ?_
  refine lv_iconst (v := 3) hx hb dX9_isHearing_4 (by decide) ?_
  refine lv_iload_n hx hb dX9_isHearing_5 rfl (lv_at hl 1 rfl) ?_
  refine lv_imul hx hb dX9_isHearing_6 ?_
  refine lv_topi (fun y_1 ey_1 => ?_)
  have ty_1 := imulF ey_1
  simp only [T3] at ty_1
  clear ey_1
  refine lv_iconst (v := 2) hx hb dX9_isHearing_7 (by decide) ?_
  refine lv_iadd hx hb dX9_isHearing_8 ?_
  refine lv_topi (fun y_2 ey_2 => ?_)
  have ty_2 := iaddF ey_2
  simp only [T2] at ty_2
  clear ey_2
  refine va_iald hx hb hK hP 2 1 rfl rfl (vp_in_iff.mpr (by omega)) dX9_isHearing_9 ?_
  refine lv_topi (fun y_3 ey_3 => ?_)
  refine lv_istore_n (lv' := [(2, .int y_3), (0, .ref (g 0)), (1, .int p0)]) hx hb dX9_isHearing_10 rfl hl (by decide) rfl (fun ls hl => ?_)
  refine lv_iload_n hx hb dX9_isHearing_11 rfl (lv_at hl 0 rfl) ?_
  refine lv_iconst (v := (-1)) hx hb dX9_isHearing_12 (by decide) ?_
  refine lv_icmp_ne (tgt := 18) hx hb dX9_isHearing_13 (by decide) (fun c_4 => ?_) (fun c_4 => ?_)
  · (try simp only [i_lt, i_le, i_eq, Tm1] at c_4)
    refine lv_iload_n hx hb dX9_isHearing_18 rfl (lv_at hl 2 rfl) ?_
    refine lv_aload_n hx hb dX9_isHearing_19 rfl (lv_at hl 1 rfl) ?_
    refine va_get (D := (dC, dI)) (ci := 9) (v := .int g_jo) (C := RX9) (T := TX9) (N := 38) hx hb ht iX9 hown hK hP 0 rfl rfl 29 (by decide) (ht _ w_1291) (fun _ h9 => h9) rfl dX9_isHearing_20 ?_
    refine lv_icmp_ge (tgt := 57) hx hb dX9_isHearing_23 (by decide) (fun c_5 => ?_) (fun c_5 => ?_)
    · (try simp only [i_lt, i_le, i_eq] at c_5)
      refine lv_iload_n hx hb dX9_isHearing_57 rfl (lv_at hl 0 rfl) ?_
      refine lv_if_ne (tgt := 65) hx hb dX9_isHearing_58 (by decide) (fun c_6 => ?_) (fun c_6 => ?_)
      · (try simp only [i_lt, i_le, i_eq, T0] at c_6)
        refine lv_iconst (v := 0) hx hb dX9_isHearing_65 (by decide) ?_
        exact W.zret (v := 0) hx hb hr (rfl) (fun t ht hW => ⟨0, rfl, trivial, ht⟩) (fun q h => absurd h List.not_mem_nil) dX9_isHearing_66
      · (try simp only [i_lt, i_le, i_eq, T0] at c_6)
        refine lv_iconst (v := 1) hx hb dX9_isHearing_61 (by decide) ?_
        refine lv_goto (tgt := 66) hx hb dX9_isHearing_62 (by decide) ?_
        exact W.zret (v := 1) hx hb hr (rfl) (fun t ht hW => ⟨1, rfl, trivial, ht⟩) (fun q h => absurd h List.not_mem_nil) dX9_isHearing_66
    · (try simp only [i_lt, i_le, i_eq] at c_5)
      refine lv_aload_n hx hb dX9_isHearing_26 rfl (lv_at hl 1 rfl) ?_
      refine va_get (D := (dC, dI)) (ci := 9) (v := .int g_ba) (C := RX9) (T := TX9) (N := 38) hx hb ht iX9 hown hK hP 0 rfl rfl 26 (by decide) (ht _ w_1288) (fun _ h9 => h9) rfl dX9_isHearing_27 ?_
      refine lv_i2l hx hb dX9_isHearing_30 rfl ?_
      refine lv_topl (fun y_7 ey_7 => ?_)
      have ty_7 := i2lF ey_7
      clear ey_7
      refine lv_aload_n hx hb dX9_isHearing_31 rfl (lv_at hl 1 rfl) ?_
      refine va_get (D := (dC, dI)) (ci := 9) (v := .ref (g 14)) (C := RX9) (T := TX9) (N := 38) hx hb ht iX9 hown hK hP 0 rfl rfl 30 (by decide) (ht _ w_1292) (fun _ h9 => h9) rfl dX9_isHearing_32 ?_
      refine lv_iload_n hx hb dX9_isHearing_35 rfl (lv_at hl 2 rfl) ?_
      refine va_lald hx hb hK hP 3 2 rfl rfl (vp_in_iff.mpr (by omega)) dX9_isHearing_36 ?_
      refine lv_topl (fun y_8 ey_8 => ?_)
      refine lv_lmul hx hb dX9_isHearing_37 ?_
      refine lv_topl (fun y_9 ey_9 => ?_)
      clear ey_9
      refine lv_iload_n hx hb dX9_isHearing_38 rfl (lv_at hl 0 rfl) ?_
      refine lv_i2l hx hb dX9_isHearing_39 rfl ?_
      refine lv_topl (fun y_10 ey_10 => ?_)
      have ty_10 := i2lF ey_10
      clear ey_10
      refine lv_aload_n hx hb dX9_isHearing_40 rfl (lv_at hl 1 rfl) ?_
      refine va_get (D := (dC, dI)) (ci := 9) (v := .long g_bt) (C := RX9) (T := TX9) (N := 38) hx hb ht iX9 hown hK hP 0 rfl rfl 32 (by decide) (ht _ w_1294) (fun _ h9 => h9) rfl dX9_isHearing_41 ?_
      refine lv_lmul hx hb dX9_isHearing_44 ?_
      refine lv_topl (fun y_11 ey_11 => ?_)
      clear ey_11
      refine W.lcmp hx hb dX9_isHearing_45 ?_
      refine lv_if_lt (tgt := 53) hx hb dX9_isHearing_46 (by decide) (fun c_12 => ?_) (fun c_12 => ?_)
      · simp only [lg_cmp_lt, lg_cmp_le, lg_cmp_gt, lg_cmp_ge, lg_cmp_eq] at c_12
        (try simp only [l_lt, l_le, l_eq] at c_12)
        refine lv_iconst (v := 0) hx hb dX9_isHearing_53 (by decide) ?_
        refine lv_goto (tgt := 66) hx hb dX9_isHearing_54 (by decide) ?_
        exact W.zret (v := 0) hx hb hr (rfl) (fun t ht hW => ⟨0, rfl, trivial, ht⟩) (fun q h => absurd h List.not_mem_nil) dX9_isHearing_66
      · simp only [lg_cmp_lt, lg_cmp_le, lg_cmp_gt, lg_cmp_ge, lg_cmp_eq] at c_12
        (try simp only [l_lt, l_le, l_eq] at c_12)
        refine lv_iconst (v := 1) hx hb dX9_isHearing_49 (by decide) ?_
        refine lv_goto (tgt := 66) hx hb dX9_isHearing_50 (by decide) ?_
        exact W.zret (v := 1) hx hb hr (rfl) (fun t ht hW => ⟨1, rfl, trivial, ht⟩) (fun q h => absurd h List.not_mem_nil) dX9_isHearing_66
  · (try simp only [i_lt, i_le, i_eq, Tm1] at c_4)
    refine lv_iconst (v := 0) hx hb dX9_isHearing_16 (by decide) ?_
    exact W.zret (v := 0) hx hb hr (rfl) (fun t ht hW => ⟨0, rfl, trivial, ht⟩) (fun q h => absurd h List.not_mem_nil) dX9_isHearing_17
set_option maxHeartbeats 8000000 in
set_option maxRecDepth 100000 in
theorem s_commonS (l : Launch) (dC : Nat → ClassId) (dI : Nat → Nat → Nat) (cB cI cJ cZ cL : ClassId) (f : Nat)  (p0 : Int64) (p1 : Int64) (hrec : ¬ Int64.toInt p1 = 0 → Met l yX9_common (wy yX9_common cX9_common 4 (some .long)) ({ frames := f, cells := 0, slots := 0, locals := 40 * f }) (va_Pc [.long p1, .long (p0 - p0 / p1 * p1)] (fun U => va_P (dC, dI) vwCl [] U.heap ∧ va_K (dC, dI) vwCl (tyL cB cI cJ cZ cL) U ∧ NW U)) (vp_Sl (fun r => ¬ (Int64.toInt p1 = 0 ∧ Int64.toInt (p0 - p0 / p1 * p1) = 0) → ¬ Int64.toInt r = 0)) 0 0 (fun _ => False)) : Met l yX9_common (wy yX9_common cX9_common 4 (some .long)) ({ frames := f + 1, cells := 0, slots := 0, locals := 40 * f + 40 }) (va_Pc [.long p0, .long p1] (fun U => va_P (dC, dI) vwCl [] U.heap ∧ va_K (dC, dI) vwCl (tyL cB cI cJ cZ cL) U ∧ NW U)) (vp_Sl (fun r => ¬ (Int64.toInt p0 = 0 ∧ Int64.toInt p1 = 0) → ¬ Int64.toInt r = 0)) 0 0 (fun _ => False) := by
  refine Met.ofW (cc := cX9_common) (maxL := 4) (ret := (some .long)) (by decide) rfl ?_
  intro p e s m args below meth c s₁ B hml hv
  obtain ⟨rfl, hP, hK, hN⟩ := hv
  have hx := B.exec
  have hb := B.bytes
  have hr := B.returns
  have ht : ∀ w ∈ lw_ok, w.before _ s = true := fun w h => atoms_spec (ws := wy yX9_common cX9_common 4 (some .long)) B.pre w (List.mem_cons_of_mem _ h)
  have hown : s.vm.findClass RX9 = some m.cls := findClass_of_methodNamed B.named
  have hlocks := B.notSynchronized
  have hl := lv_entry ([.long p0, .long p1]) (n := 4) (Nat.le_of_ble_eq_true rfl)
  rw [lg_entry_eq]
  generalize (lg_sl ([.long p0, .long p1]) ++ List.replicate (4 - (lg_sl ([.long p0, .long p1])).length) Slot.unset).toArray = ls at hl ⊢
  have hl : lv_has ls 4 [(0, .long p0), (2, .long p1)] := hl
  have hP : va_P (dC, dI) vwCl [] s.heap := hP
  refine lv_lload_n hx hb dX9_common_0 rfl (lv_at hl 1 rfl) ?_
  refine lv_lconst (v := 0) hx hb dX9_common_1 (by decide) ?_
  refine W.lcmp hx hb dX9_common_2 ?_
  refine lv_if_ne (tgt := 21) hx hb dX9_common_3 (by decide) (fun c_1 => ?_) (fun c_1 => ?_)
  · simp only [lg_cmp_lt, lg_cmp_le, lg_cmp_gt, lg_cmp_ge, lg_cmp_eq] at c_1
    (try simp only [l_lt, l_le, l_eq, L0] at c_1)
    refine lv_lload_n hx hb dX9_common_21 rfl (lv_at hl 1 rfl) ?_
    refine lv_lload_n hx hb dX9_common_22 rfl (lv_at hl 0 rfl) ?_
    refine lv_lload_n hx hb dX9_common_23 rfl (lv_at hl 1 rfl) ?_
    refine lv_lrem hx hb dX9_common_24 (by rw [l_eq]; simp only [L0]; omega) ?_
    refine lv_topl (fun y_2 ey_2 => ?_)
    have hPc := hP.sub (ws' := []) [] rfl
    refine vp_callSl (W.runS (As := [.long p1, .long y_2]) (rest := []) ⟨hx, hb, hml, hown, ht⟩ (by rw [ey_2]; exact hrec (by omega)) (va_cwS 2 ht (gQ w_1599 w_1600 w_114 w_1601) rfl rfl rfl (by decide +kernel) ⟨Nat.le_refl _, by show 8 + (4 + 11) + 40 * f ≤ 40 * f + 40; omega⟩) (pSSn hN hK hPc) rfl rfl hl.1 rfl (lv_room (Nat.le_of_ble_eq_true rfl)) dX9_common_25 ⟨Nat.le_of_ble_eq_true rfl, Nat.le_of_ble_eq_true rfl⟩) (fun r_3 hw => ?_)
    clear hPc
    (try dsimp only at hw)
    have hw_4 := hw
    clear hw
    rw [← ey_2] at hw_4
    exact W.lret (v := r_3) hx hb hr (fun t ht hW => ⟨r_3, rfl, (by intro hz; first | omega | (simp only [L0] at *; omega)), ht⟩) (fun q h => absurd h List.not_mem_nil) dX9_common_28
  · simp only [lg_cmp_lt, lg_cmp_le, lg_cmp_gt, lg_cmp_ge, lg_cmp_eq] at c_1
    (try simp only [l_lt, l_le, l_eq, L0] at c_1)
    refine lv_lload_n hx hb dX9_common_6 rfl (lv_at hl 0 rfl) ?_
    refine lv_lconst (v := 0) hx hb dX9_common_7 (by decide) ?_
    refine W.lcmp hx hb dX9_common_8 ?_
    refine lv_if_ge (tgt := 17) hx hb dX9_common_9 (by decide) (fun c_5 => ?_) (fun c_5 => ?_)
    · simp only [lg_cmp_lt, lg_cmp_le, lg_cmp_gt, lg_cmp_ge, lg_cmp_eq] at c_5
      (try simp only [l_lt, l_le, l_eq, L0] at c_5)
      refine lv_lload_n hx hb dX9_common_17 rfl (lv_at hl 0 rfl) ?_
      refine lv_goto (tgt := 28) hx hb dX9_common_18 (by decide) ?_
      exact W.lret (v := p0) hx hb hr (fun t ht hW => ⟨p0, rfl, (by intro hz; first | omega | (simp only [L0] at *; omega)), ht⟩) (fun q h => absurd h List.not_mem_nil) dX9_common_28
    · simp only [lg_cmp_lt, lg_cmp_le, lg_cmp_gt, lg_cmp_ge, lg_cmp_eq] at c_5
      (try simp only [l_lt, l_le, l_eq, L0] at c_5)
      refine lv_lload_n hx hb dX9_common_12 rfl (lv_at hl 0 rfl) ?_
      refine lv_lneg hx hb dX9_common_13 ?_
      refine lv_topl (fun y_6 ey_6 => ?_)
      refine lv_goto (tgt := 28) hx hb dX9_common_14 (by decide) ?_
      exact W.lret (v := y_6) hx hb hr (fun t ht hW => ⟨y_6, rfl, (by intro hz; have hg := lnegF ey_6; first | omega | (simp only [L0] at *; omega)), ht⟩) (fun q h => absurd h List.not_mem_nil) dX9_common_28
theorem tmod_half {a b n : Nat} (h : b < 2 * n) (ha : 0 < a) (hab : a < b) : b % a < n := by
  have h1 : b % a < a := Nat.mod_lt _ ha
  have h2 : b % a ≤ b - a := by rw [Nat.mod_eq_sub_mod (Nat.le_of_lt hab)]; exact Nat.mod_le _ _
  omega
theorem rem_eq {x y : Int64} : x - x / y * y = x % y := by
  apply Int64.toInt_inj.mp
  rw [Int64.toInt_sub, Int64.toInt_mul, Int64.toInt_div, Int64.toInt_mod, Int.bmod_mul_bmod, Int.sub_bmod_bmod]
  have e : x.toInt - x.toInt.tdiv y.toInt * y.toInt = x.toInt.tmod y.toInt := by
    rw [Int.tmod_def, Int.mul_comm]
  rw [e]
  have h1 := Int64.le_toInt x
  have h2 := Int64.toInt_lt x
  have h3 : (x.toInt.tmod y.toInt).natAbs = x.toInt.natAbs % y.toInt.natAbs := Int.natAbs_tmod _ _
  have h4 : x.toInt.natAbs % y.toInt.natAbs ≤ x.toInt.natAbs := Nat.mod_le _ _
  rcases Int.le_total 0 x.toInt with h | h
  · have h5 := Int.tmod_nonneg y.toInt h
    exact bmL (by omega) (by omega)
  · have h5 : x.toInt.tmod y.toInt ≤ 0 := by
      have h6 := Int.tmod_nonneg y.toInt (a := -x.toInt) (by omega)
      rw [Int.neg_tmod] at h6
      omega
    exact bmL (by omega) (by omega)
theorem rem_abs {x y : Int64} : (Int64.toInt (x % y)).natAbs = (Int64.toInt x).natAbs % (Int64.toInt y).natAbs := by
  rw [Int64.toInt_mod, Int.natAbs_tmod]
set_option maxHeartbeats 8000000 in
theorem common_P (l : Launch) (dC : Nat → ClassId) (dI : Nat → Nat → Nat) (cB cI cJ cZ cL : ClassId) (n : Nat) : ∀ a b : Int64, (Int64.toInt b).natAbs < 2 ^ n → Met l yX9_common (wy yX9_common cX9_common 4 (some .long)) ({ frames := 2 * n + 1, cells := 0, slots := 0, locals := 40 * (2 * n + 1) }) (va_Pc [.long a, .long b] (fun U => va_P (dC, dI) vwCl [] U.heap ∧ va_K (dC, dI) vwCl (tyL cB cI cJ cZ cL) U ∧ NW U)) (vp_Sl (fun r => ¬ (Int64.toInt a = 0 ∧ Int64.toInt b = 0) → ¬ Int64.toInt r = 0)) 0 0 (fun _ => False) := by
  induction n with
  | zero => intro a b h; exact s_commonS l dC dI cB cI cJ cZ cL 0 a b (fun hb => by exfalso; omega)
  | succ n ih =>
    intro a b h
    refine s_commonS l dC dI cB cI cJ cZ cL (2 * n + 2) a b (fun hb => ?_)
    rw [rem_eq]
    refine s_commonS l dC dI cB cI cJ cZ cL (2 * n + 1) b (a % b) (fun hr => ?_)
    rw [rem_eq]
    refine ih (a % b) (b % (a % b)) ?_
    have hA : (Int64.toInt (a % b)).natAbs < (Int64.toInt b).natAbs := by rw [rem_abs]; exact Nat.mod_lt _ (by omega)
    rw [rem_abs (x := b)]
    exact tmod_half (by rw [Nat.pow_succ] at h; omega) (by omega) hA
theorem s_X9_common (l : Launch) (dC : Nat → ClassId) (dI : Nat → Nat → Nat) (cB cI cJ cZ cL : ClassId) (p0 p1 : Int64) : Met l yX9_common (wy yX9_common cX9_common 4 (some .long)) ({ frames := 129, cells := 0, slots := 0, locals := 5160 }) (va_Pc [.long p0, .long p1] (fun U => va_P (dC, dI) vwCl [] U.heap ∧ va_K (dC, dI) vwCl (tyL cB cI cJ cZ cL) U ∧ NW U)) (vp_Sl (fun r => ¬ (Int64.toInt p0 = 0 ∧ Int64.toInt p1 = 0) → ¬ Int64.toInt r = 0)) 0 0 (fun _ => False) := by
  have h := common_P l dC dI cB cI cJ cZ cL 64 p0 p1 (by
    have h1 := Int64.toInt_lt p1
    have h2 := Int64.le_toInt p1
    omega)
  exact h
def TMP (p r : Int32) : Prop := Int32.toInt p ≤ 5 → (1 ≤ Int32.toInt r ∧ Int32.toInt r ≤ 120 ∧ (Int32.toInt p ≤ 4 → Int32.toInt r ≤ 24) ∧ (Int32.toInt p ≤ 3 → Int32.toInt r ≤ 6) ∧ (Int32.toInt p ≤ 2 → Int32.toInt r ≤ 2) ∧ (Int32.toInt p ≤ 1 → Int32.toInt r ≤ 1))
theorem TMP.rng {p r : Int32} (h : TMP p r) (hp : p.toInt ≤ 5) : 1 ≤ r.toInt ∧ r.toInt ≤ 120 := ⟨(h hp).1, (h hp).2.1⟩
set_option maxHeartbeats 8000000 in
set_option maxRecDepth 100000 in
theorem s_timesS (l : Launch) (dC : Nat → ClassId) (dI : Nat → Nat → Nat) (cB cI cJ cZ cL : ClassId) (f : Nat)  (p0 : Int32) (hrec : ¬ Int32.toInt p0 < 2 → Met l yX9_times (wy yX9_times cX9_times 1 (some .int)) ({ frames := f, cells := 0, slots := 0, locals := 40 * f }) (va_Pc [.int (p0 - 1)] (fun U => va_P (dC, dI) vwCl [] U.heap ∧ va_K (dC, dI) vwCl (tyL cB cI cJ cZ cL) U ∧ NW U)) (vp_Si (fun r => TMP (p0 - 1) r)) 0 0 (fun _ => False)) : Met l yX9_times (wy yX9_times cX9_times 1 (some .int)) ({ frames := f + 1, cells := 0, slots := 0, locals := 40 * f + 40 }) (va_Pc [.int p0] (fun U => va_P (dC, dI) vwCl [] U.heap ∧ va_K (dC, dI) vwCl (tyL cB cI cJ cZ cL) U ∧ NW U)) (vp_Si (fun r => TMP p0 r)) 0 0 (fun _ => False) := by
  refine Met.ofW (cc := cX9_times) (maxL := 1) (ret := (some .int)) (by decide) rfl ?_
  intro p e s m args below meth c s₁ B hml hv
  obtain ⟨rfl, hP, hK, hN⟩ := hv
  have hx := B.exec
  have hb := B.bytes
  have hr := B.returns
  have ht : ∀ w ∈ lw_ok, w.before _ s = true := fun w h => atoms_spec (ws := wy yX9_times cX9_times 1 (some .int)) B.pre w (List.mem_cons_of_mem _ h)
  have hown : s.vm.findClass RX9 = some m.cls := findClass_of_methodNamed B.named
  have hlocks := B.notSynchronized
  have hl := lv_entry ([.int p0]) (n := 1) (Nat.le_of_ble_eq_true rfl)
  rw [lg_entry_eq]
  generalize (lg_sl ([.int p0]) ++ List.replicate (1 - (lg_sl ([.int p0])).length) Slot.unset).toArray = ls at hl ⊢
  have hl : lv_has ls 1 [(0, .int p0)] := hl
  have hP : va_P (dC, dI) vwCl [] s.heap := hP
  have rg_p0 := rgI p0
  refine lv_iload_n hx hb dX9_times_0 rfl (lv_at hl 0 rfl) ?_
  refine lv_iconst (v := 2) hx hb dX9_times_1 (by decide) ?_
  refine lv_icmp_ge (tgt := 9) hx hb dX9_times_2 (by decide) (fun c_1 => ?_) (fun c_1 => ?_)
  · (try simp only [i_lt, i_le, i_eq, T2] at c_1)
    refine lv_iload_n hx hb dX9_times_9 rfl (lv_at hl 0 rfl) ?_
    refine lv_iload_n hx hb dX9_times_10 rfl (lv_at hl 0 rfl) ?_
    refine lv_iconst (v := 1) hx hb dX9_times_11 (by decide) ?_
    refine lv_isub hx hb dX9_times_12 ?_
    refine lv_topi (fun y_2 ey_2 => ?_)
    have ty_2 := isubF ey_2
    simp only [T1] at ty_2
    have hPc := hP.sub (ws' := []) [] rfl
    refine vp_callSi (W.runS (As := [.int y_2]) (rest := [.int p0]) ⟨hx, hb, hml, hown, ht⟩ (by rw [ey_2]; exact hrec (by omega)) (va_cwS 1 ht (gQ w_1922 w_1923 w_114 w_1924) rfl rfl rfl (by decide +kernel) ⟨Nat.le_refl _, by show 8 + (1 + 11) + 40 * f ≤ 40 * f + 40; omega⟩) (pSSn hN hK hPc) rfl rfl hl.1 rfl (lv_room (Nat.le_of_ble_eq_true rfl)) dX9_times_13 ⟨Nat.le_of_ble_eq_true rfl, Nat.le_of_ble_eq_true rfl⟩) (fun r_3 hw => ?_)
    clear hPc
    (try dsimp only at hw)
    have hw_4 := hw
    clear hw
    rw [← ey_2] at hw_4
    refine lv_imul hx hb dX9_times_16 ?_
    refine lv_topi (fun y_5 ey_5 => ?_)
    have ty_5 := imulF ey_5
    exact W.iret (v := y_5) hx hb hr (fun t ht hW => ⟨y_5, rfl, (by unfold TMP at *; intro hz; have hg := timesF ey_5; first | omega | (have e1 := T1; omega)), ht⟩) (fun q h => absurd h List.not_mem_nil) dX9_times_17
  · (try simp only [i_lt, i_le, i_eq, T2] at c_1)
    refine lv_iconst (v := 1) hx hb dX9_times_5 (by decide) ?_
    refine lv_goto (tgt := 17) hx hb dX9_times_6 (by decide) ?_
    exact W.iret (v := 1) hx hb hr (fun t ht hW => ⟨1, rfl, (by unfold TMP at *; intro hz; first | omega | (have e1 := T1; omega)), ht⟩) (fun q h => absurd h List.not_mem_nil) dX9_times_17
set_option maxHeartbeats 8000000 in
theorem times_P (l : Launch) (dC : Nat → ClassId) (dI : Nat → Nat → Nat) (cB cI cJ cZ cL : ClassId) (n : Nat) : ∀ a : Int32, Int32.toInt a ≤ n + 1 → Met l yX9_times (wy yX9_times cX9_times 1 (some .int)) ({ frames := n + 1, cells := 0, slots := 0, locals := 40 * (n + 1) }) (va_Pc [.int a] (fun U => va_P (dC, dI) vwCl [] U.heap ∧ va_K (dC, dI) vwCl (tyL cB cI cJ cZ cL) U ∧ NW U)) (vp_Si (fun r => TMP a r)) 0 0 (fun _ => False) := by
  induction n with
  | zero => intro a h; exact s_timesS l dC dI cB cI cJ cZ cL 0 a (fun hb => by exfalso; omega)
  | succ n ih =>
    intro a h
    refine s_timesS l dC dI cB cI cJ cZ cL (n + 1) a (fun hb => ?_)
    refine ih (a - 1) ?_
    have h1 := isubF (z := a - 1) (x := a) (y := 1) rfl
    have h2 := rgI a
    simp only [T1] at h1
    omega
theorem s_X9_times (l : Launch) (dC : Nat → ClassId) (dI : Nat → Nat → Nat) (cB cI cJ cZ cL : ClassId) (p0 : Int32) (h0 : Int32.toInt p0 ≤ 5) : Met l yX9_times (wy yX9_times cX9_times 1 (some .int)) ({ frames := 5, cells := 0, slots := 0, locals := 200 }) (va_Pc [.int p0] (fun U => va_P (dC, dI) vwCl [] U.heap ∧ va_K (dC, dI) vwCl (tyL cB cI cJ cZ cL) U ∧ NW U)) (vp_Si (fun r => TMP p0 r)) 0 0 (fun _ => False) := times_P l dC dI cB cI cJ cZ cL 4 p0 (by omega)
def PWP (p : Int64) (n : Int32) (r : Int64) : Prop := Int64.toInt p = 10 → (1 ≤ Int64.toInt r ∧ (Int32.toInt n = 0 → Int64.toInt r ≤ 1) ∧ (Int32.toInt n = 1 → Int64.toInt r ≤ 10) ∧ (Int32.toInt n = 2 → Int64.toInt r ≤ 100) ∧ (Int32.toInt n = 3 → Int64.toInt r ≤ 1000) ∧ (Int32.toInt n = 4 → Int64.toInt r ≤ 10000) ∧ (Int32.toInt n = 5 → Int64.toInt r ≤ 100000) ∧ (Int32.toInt n = 6 → Int64.toInt r ≤ 1000000) ∧ (Int32.toInt n = 7 → Int64.toInt r ≤ 10000000) ∧ (Int32.toInt n = 8 → Int64.toInt r ≤ 100000000))
theorem PWP.pos {p r : Int64} {n : Int32} (h : PWP p n r) (hp : p.toInt = 10) : 1 ≤ r.toInt := (h hp).1
set_option maxHeartbeats 8000000 in
set_option maxRecDepth 100000 in
theorem s_powerS (l : Launch) (dC : Nat → ClassId) (dI : Nat → Nat → Nat) (cB cI cJ cZ cL : ClassId) (f : Nat)  (p0 : Int64) (p1 : Int32) (hrec : ¬ Int32.toInt p1 = 0 → Met l yX9_power (wy yX9_power cX9_power 3 (some .long)) ({ frames := f, cells := 0, slots := 0, locals := 40 * f }) (va_Pc [.long p0, .int (p1 - 1)] (fun U => va_P (dC, dI) vwCl [] U.heap ∧ va_K (dC, dI) vwCl (tyL cB cI cJ cZ cL) U ∧ NW U)) (vp_Sl (fun r => PWP p0 (p1 - 1) r)) 0 0 (fun _ => False)) (hn : 0 ≤ Int32.toInt p1 ∧ Int32.toInt p1 ≤ 8) : Met l yX9_power (wy yX9_power cX9_power 3 (some .long)) ({ frames := f + 1, cells := 0, slots := 0, locals := 40 * f + 40 }) (va_Pc [.long p0, .int p1] (fun U => va_P (dC, dI) vwCl [] U.heap ∧ va_K (dC, dI) vwCl (tyL cB cI cJ cZ cL) U ∧ NW U)) (vp_Sl (fun r => PWP p0 p1 r)) 0 0 (fun _ => False) := by
  refine Met.ofW (cc := cX9_power) (maxL := 3) (ret := (some .long)) (by decide) rfl ?_
  intro p e s m args below meth c s₁ B hml hv
  obtain ⟨rfl, hP, hK, hN⟩ := hv
  have hx := B.exec
  have hb := B.bytes
  have hr := B.returns
  have ht : ∀ w ∈ lw_ok, w.before _ s = true := fun w h => atoms_spec (ws := wy yX9_power cX9_power 3 (some .long)) B.pre w (List.mem_cons_of_mem _ h)
  have hown : s.vm.findClass RX9 = some m.cls := findClass_of_methodNamed B.named
  have hlocks := B.notSynchronized
  have hl := lv_entry ([.long p0, .int p1]) (n := 3) (Nat.le_of_ble_eq_true rfl)
  rw [lg_entry_eq]
  generalize (lg_sl ([.long p0, .int p1]) ++ List.replicate (3 - (lg_sl ([.long p0, .int p1])).length) Slot.unset).toArray = ls at hl ⊢
  have hl : lv_has ls 3 [(0, .long p0), (2, .int p1)] := hl
  have hP : va_P (dC, dI) vwCl [] s.heap := hP
  have rg_p1 := rgI p1
  refine lv_iload_n hx hb dX9_power_0 rfl (lv_at hl 1 rfl) ?_
  refine lv_if_ne (tgt := 8) hx hb dX9_power_1 (by decide) (fun c_1 => ?_) (fun c_1 => ?_)
  · (try simp only [i_lt, i_le, i_eq, T0] at c_1)
    refine lv_lload_n hx hb dX9_power_8 rfl (lv_at hl 0 rfl) ?_
    refine lv_lload_n hx hb dX9_power_9 rfl (lv_at hl 0 rfl) ?_
    refine lv_iload_n hx hb dX9_power_10 rfl (lv_at hl 1 rfl) ?_
    refine lv_iconst (v := 1) hx hb dX9_power_11 (by decide) ?_
    refine lv_isub hx hb dX9_power_12 ?_
    refine lv_topi (fun y_2 ey_2 => ?_)
    have ty_2 := isubF ey_2
    simp only [T1] at ty_2
    have hPc := hP.sub (ws' := []) [] rfl
    refine vp_callSl (W.runS (As := [.long p0, .int y_2]) (rest := [.long p0]) ⟨hx, hb, hml, hown, ht⟩ (by rw [ey_2]; exact hrec (by omega)) (va_cwS 2 ht (gQ w_1953 w_1954 w_114 w_1955) rfl rfl rfl (by decide +kernel) ⟨Nat.le_refl _, by show 8 + (3 + 11) + 40 * f ≤ 40 * f + 40; omega⟩) (pSSn hN hK hPc) rfl rfl hl.1 rfl (lv_room (Nat.le_of_ble_eq_true rfl)) dX9_power_13 ⟨Nat.le_of_ble_eq_true rfl, Nat.le_of_ble_eq_true rfl⟩) (fun r_3 hw => ?_)
    clear hPc
    (try dsimp only at hw)
    have hw_4 := hw
    clear hw
    rw [← ey_2] at hw_4
    refine lv_lmul hx hb dX9_power_16 ?_
    refine lv_topl (fun y_5 ey_5 => ?_)
    exact W.lret (v := y_5) hx hb hr (fun t ht hW => ⟨y_5, rfl, (by unfold PWP at *; intro hz; have hg := powerF ey_5 hz; first | omega | (have e1 := L1; omega)), ht⟩) (fun q h => absurd h List.not_mem_nil) dX9_power_17
  · (try simp only [i_lt, i_le, i_eq, T0] at c_1)
    refine lv_lconst (v := 1) hx hb dX9_power_4 (by decide) ?_
    refine lv_goto (tgt := 17) hx hb dX9_power_5 (by decide) ?_
    exact W.lret (v := 1) hx hb hr (fun t ht hW => ⟨1, rfl, (by unfold PWP at *; intro hz; first | omega | (have e1 := L1; omega)), ht⟩) (fun q h => absurd h List.not_mem_nil) dX9_power_17
set_option maxHeartbeats 8000000 in
theorem power_P (l : Launch) (dC : Nat → ClassId) (dI : Nat → Nat → Nat) (cB cI cJ cZ cL : ClassId) (n : Nat) (a : Int64) : ∀ b : Int32, (0 ≤ Int32.toInt b ∧ Int32.toInt b ≤ 8) → Int32.toInt b ≤ n → Met l yX9_power (wy yX9_power cX9_power 3 (some .long)) ({ frames := n + 1, cells := 0, slots := 0, locals := 40 * (n + 1) }) (va_Pc [.long a, .int b] (fun U => va_P (dC, dI) vwCl [] U.heap ∧ va_K (dC, dI) vwCl (tyL cB cI cJ cZ cL) U ∧ NW U)) (vp_Sl (fun r => PWP a b r)) 0 0 (fun _ => False) := by
  induction n with
  | zero => intro b h0 h; exact s_powerS l dC dI cB cI cJ cZ cL 0 a b (fun hb => by exfalso; omega) h0
  | succ n ih =>
    intro b h0 h
    refine s_powerS l dC dI cB cI cJ cZ cL (n + 1) a b (fun hb => ?_) h0
    have h1 := isubF (z := b - 1) (x := b) (y := 1) rfl
    simp only [T1] at h1
    exact ih (b - 1) (by omega) (by omega)
theorem s_X9_power (l : Launch) (dC : Nat → ClassId) (dI : Nat → Nat → Nat) (cB cI cJ cZ cL : ClassId) (p0 : Int64) (p1 : Int32) (h0 : 0 ≤ Int32.toInt p1 ∧ Int32.toInt p1 ≤ 8) : Met l yX9_power (wy yX9_power cX9_power 3 (some .long)) ({ frames := 9, cells := 0, slots := 0, locals := 360 }) (va_Pc [.long p0, .int p1] (fun U => va_P (dC, dI) vwCl [] U.heap ∧ va_K (dC, dI) vwCl (tyL cB cI cJ cZ cL) U ∧ NW U)) (vp_Sl (fun r => PWP p0 p1 r)) 0 0 (fun _ => False) := power_P l dC dI cB cI cJ cZ cL 8 p0 p1 h0 (by omega)
set_option maxHeartbeats 8000000 in
set_option maxRecDepth 100000 in
theorem s_X9_partOf (l : Launch) (dC : Nat → ClassId) (dI : Nat → Nat → Nat) (cB cI cJ cZ cL : ClassId)   (p0 : Int64) (p1 : Int64) (p2 : Int32) (hne : ¬ (Int64.toInt p0 = 0 ∧ Int64.toInt p1 = 0)) : Met l yX9_partOf (wy yX9_partOf cX9_partOf 5 (some .long)) ({ frames := 130, cells := 0, slots := 0, locals := 5200 }) (va_Pc [.long p0, .long p1, .int p2] (fun U => va_P (dC, dI) vwCl [] U.heap ∧ va_K (dC, dI) vwCl (tyL cB cI cJ cZ cL) U ∧ NW U)) (vp_Sl (fun r => True)) 0 0 (fun _ => False) := by
  refine Met.ofW (cc := cX9_partOf) (maxL := 5) (ret := (some .long)) (by decide) rfl ?_
  intro p e s m args below meth c s₁ B hml hv
  obtain ⟨rfl, hP, hK, hN⟩ := hv
  have hx := B.exec
  have hb := B.bytes
  have hr := B.returns
  have ht : ∀ w ∈ lw_ok, w.before _ s = true := fun w h => atoms_spec (ws := wy yX9_partOf cX9_partOf 5 (some .long)) B.pre w (List.mem_cons_of_mem _ h)
  have hown : s.vm.findClass RX9 = some m.cls := findClass_of_methodNamed B.named
  have hlocks := B.notSynchronized
  have hl := lv_entry ([.long p0, .long p1, .int p2]) (n := 5) (Nat.le_of_ble_eq_true rfl)
  rw [lg_entry_eq]
  generalize (lg_sl ([.long p0, .long p1, .int p2]) ++ List.replicate (5 - (lg_sl ([.long p0, .long p1, .int p2])).length) Slot.unset).toArray = ls at hl ⊢
  have hl : lv_has ls 5 [(0, .long p0), (2, .long p1), (4, .int p2)] := hl
  have hP : va_P (dC, dI) vwCl [] s.heap := hP
  have rg_p2 := rgI p2
  refine lv_iload hx hb dX9_partOf_0 (lv_at hl 2 rfl) ?_
  refine lv_if_ne (tgt := 9) hx hb dX9_partOf_2 (by decide) (fun c_1 => ?_) (fun c_1 => ?_)
  · (try simp only [i_lt, i_le, i_eq, T0] at c_1)
    refine lv_lload_n hx hb dX9_partOf_9 rfl (lv_at hl 1 rfl) ?_
    refine lv_lload_n hx hb dX9_partOf_10 rfl (lv_at hl 0 rfl) ?_
    refine lv_lload_n hx hb dX9_partOf_11 rfl (lv_at hl 1 rfl) ?_
    have hPc := hP.sub (ws' := []) [] rfl
    refine vp_callSl (W.runS (As := [.long p0, .long p1]) (rest := [.long p1]) ⟨hx, hb, hml, hown, ht⟩ (s_X9_common l dC dI cB cI cJ cZ cL p0 p1) (va_cwS 2 ht (gQ w_1599 w_1600 w_114 w_1601) rfl rfl rfl (by decide +kernel) ⟨Nat.le_of_ble_eq_true rfl, Nat.le_of_ble_eq_true rfl⟩) (pSSn hN hK hPc) rfl rfl hl.1 rfl (lv_room (Nat.le_of_ble_eq_true rfl)) dX9_partOf_12 ⟨Nat.le_of_ble_eq_true rfl, Nat.le_of_ble_eq_true rfl⟩) (fun r_2 hw => ?_)
    clear hPc
    (try dsimp only at hw)
    have hw_3 := hw
    clear hw
    refine lv_ldiv hx hb dX9_partOf_15 (by rw [l_eq]; simp only [L0]; omega) ?_
    refine lv_topl (fun y_4 ey_4 => ?_)
    have ty_4 := ldivF ey_4
    clear ey_4
    exact W.lret (v := y_4) hx hb hr (fun t ht hW => ⟨y_4, rfl, trivial, ht⟩) (fun q h => absurd h List.not_mem_nil) dX9_partOf_16
  · (try simp only [i_lt, i_le, i_eq, T0] at c_1)
    refine lv_lload_n hx hb dX9_partOf_5 rfl (lv_at hl 0 rfl) ?_
    refine lv_goto (tgt := 10) hx hb dX9_partOf_6 (by decide) ?_
    refine lv_lload_n hx hb dX9_partOf_10 rfl (lv_at hl 0 rfl) ?_
    refine lv_lload_n hx hb dX9_partOf_11 rfl (lv_at hl 1 rfl) ?_
    have hPc := hP.sub (ws' := []) [] rfl
    refine vp_callSl (W.runS (As := [.long p0, .long p1]) (rest := [.long p0]) ⟨hx, hb, hml, hown, ht⟩ (s_X9_common l dC dI cB cI cJ cZ cL p0 p1) (va_cwS 2 ht (gQ w_1599 w_1600 w_114 w_1601) rfl rfl rfl (by decide +kernel) ⟨Nat.le_of_ble_eq_true rfl, Nat.le_of_ble_eq_true rfl⟩) (pSSn hN hK hPc) rfl rfl hl.1 rfl (lv_room (Nat.le_of_ble_eq_true rfl)) dX9_partOf_12 ⟨Nat.le_of_ble_eq_true rfl, Nat.le_of_ble_eq_true rfl⟩) (fun r_5 hw => ?_)
    clear hPc
    (try dsimp only at hw)
    have hw_6 := hw
    clear hw
    refine lv_ldiv hx hb dX9_partOf_15 (by rw [l_eq]; simp only [L0]; omega) ?_
    refine lv_topl (fun y_7 ey_7 => ?_)
    have ty_7 := ldivF ey_7
    clear ey_7
    exact W.lret (v := y_7) hx hb hr (fun t ht hW => ⟨y_7, rfl, trivial, ht⟩) (fun q h => absurd h List.not_mem_nil) dX9_partOf_16
set_option maxHeartbeats 8000000 in
set_option maxRecDepth 100000 in
theorem s_X9_hearsOn (l : Launch) (dC : Nat → ClassId) (dI : Nat → Nat → Nat) (cB cI cJ cZ cL : ClassId) (sz : Nat) (g : Nat → Nat) (g_th : Int32) (g_tp : Int32) (g_so : Int32) (g_tk : Int32) (g_pl : Int32) (g_va : Int32) (g_wo : Int64) (g_bd : Int32) (g_bp : Int32) (g_fa : Int32) (g_fp : Int32) (g_lw : Int32) (g_we : Int32) (g_cu : Int32) (g_go : Int32) (g_ba : Int32) (g_jo : Int32) (g_bt : Int64) (g_sb : Int32) (g_ab : Int32) (g_al : Int32) (hs : Nat → Int32) (sp : Nat → Int32) (ac : Nat → Int32) (om : Nat → Int32) (lk : Nat → Int32) (pa : Nat → Int64) (fl : Nat → Int64) (p0 : Int32) (h4 : 0 ≤ Int32.toInt (hs 4) ∧ Int32.toInt (hs 4) ≤ 5) (h6 : 0 ≤ Int32.toInt (hs 6) ∧ Int32.toInt (hs 6) ≤ 30) (hlk : LK (Int32.toInt (hs 4)) lk) (hom : OM (Int32.toInt (hs 4)) om) (hd : Int32.toInt p0 < 2147483647) : Met l yX9_hearsOn (wy yX9_hearsOn cX9_hearsOn 4 (some .int)) ({ frames := 4, cells := 0, slots := 0, locals := 160 }) (va_Pc [.ref (g 0), .int p0] (fun U => U.heap.size = sz ∧ va_P (dC, dI) vwCl [((g 0), .inr (9, [.int g_th, .ref (g 1), .ref (g 2), .ref (g 3), .ref (g 4), .ref (g 5), .int g_tp, .int g_so, .int g_tk, .int g_pl, .int g_va, .long g_wo, .int g_bd, .int g_bp, .int g_fa, .int g_fp, .ref (g 6), .ref (g 7), .ref (g 8), .ref (g 9), .ref (g 10), .ref (g 11), .int g_lw, .int g_we, .int g_cu, .int g_go, .int g_ba, .ref (g 12), .ref (g 13), .int g_jo, .ref (g 14), .ref (g 15), .long g_bt, .int g_sb, .int g_ab, .int g_al, .ref (g 16), .ref (g 17)])), ((g 7), .inl (cI, 35, .inl hs)), ((g 8), .inl (cI, 75, .inl sp)), ((g 10), .inl (cI, 450, .inl ac)), ((g 12), .inl (cI, 5, .inl om)), ((g 13), .inl (cI, 5, .inl lk)), ((g 14), .inl (cJ, 6, .inr (.inl pa))), ((g 15), .inl (cJ, 5, .inr (.inl fl)))] U.heap ∧ va_K (dC, dI) vwCl (tyL cB cI cJ cZ cL) U ∧ va_D (fun _ => True) [((g 0), .inr (9, [.int g_th, .ref (g 1), .ref (g 2), .ref (g 3), .ref (g 4), .ref (g 5), .int g_tp, .int g_so, .int g_tk, .int g_pl, .int g_va, .long g_wo, .int g_bd, .int g_bp, .int g_fa, .int g_fp, .ref (g 6), .ref (g 7), .ref (g 8), .ref (g 9), .ref (g 10), .ref (g 11), .int g_lw, .int g_we, .int g_cu, .int g_go, .int g_ba, .ref (g 12), .ref (g 13), .int g_jo, .ref (g 14), .ref (g 15), .long g_bt, .int g_sb, .int g_ab, .int g_al, .ref (g 16), .ref (g 17)])), ((g 7), .inl (cI, 35, .inl hs)), ((g 8), .inl (cI, 75, .inl sp)), ((g 10), .inl (cI, 450, .inl ac)), ((g 12), .inl (cI, 5, .inl om)), ((g 13), .inl (cI, 5, .inl lk)), ((g 14), .inl (cJ, 6, .inr (.inl pa))), ((g 15), .inl (cJ, 5, .inr (.inl fl)))] ∧ NW U)) (va_Qi (fun r u => (0 ≤ Int32.toInt u.1) ∧ (Int32.toInt u.1 ≤ Int32.toInt (hs 4)) ∧ (1 ≤ Int64.toInt u.2.1)) (fun (u : (Int32) × (Int64) × (Nat → Int64) × (Nat → Int64)) t => va_P (dC, dI) vwCl [((g 0), .inr (9, [.int g_th, .ref (g 1), .ref (g 2), .ref (g 3), .ref (g 4), .ref (g 5), .int g_tp, .int g_so, .int g_tk, .int g_pl, .int g_va, .long g_wo, .int g_bd, .int g_bp, .int g_fa, .int g_fp, .ref (g 6), .ref (g 7), .ref (g 8), .ref (g 9), .ref (g 10), .ref (g 11), .int g_lw, .int g_we, .int g_cu, .int g_go, .int g_ba, .ref (g 12), .ref (g 13), .int u.1, .ref (g 14), .ref (g 15), .long u.2.1, .int g_sb, .int g_ab, .int g_al, .ref (g 16), .ref (g 17)])), ((g 7), .inl (cI, 35, .inl hs)), ((g 8), .inl (cI, 75, .inl sp)), ((g 10), .inl (cI, 450, .inl ac)), ((g 12), .inl (cI, 5, .inl om)), ((g 13), .inl (cI, 5, .inl lk)), ((g 14), .inl (cJ, 6, .inr (.inl u.2.2.1))), ((g 15), .inl (cJ, 5, .inr (.inl u.2.2.2)))] t.heap ∧ va_D (va_A [((g 0), .inr (9, [.int g_th, .ref (g 1), .ref (g 2), .ref (g 3), .ref (g 4), .ref (g 5), .int g_tp, .int g_so, .int g_tk, .int g_pl, .int g_va, .long g_wo, .int g_bd, .int g_bp, .int g_fa, .int g_fp, .ref (g 6), .ref (g 7), .ref (g 8), .ref (g 9), .ref (g 10), .ref (g 11), .int g_lw, .int g_we, .int g_cu, .int g_go, .int g_ba, .ref (g 12), .ref (g 13), .int g_jo, .ref (g 14), .ref (g 15), .long g_bt, .int g_sb, .int g_ab, .int g_al, .ref (g 16), .ref (g 17)])), ((g 7), .inl (cI, 35, .inl hs)), ((g 8), .inl (cI, 75, .inl sp)), ((g 10), .inl (cI, 450, .inl ac)), ((g 12), .inl (cI, 5, .inl om)), ((g 13), .inl (cI, 5, .inl lk)), ((g 14), .inl (cJ, 6, .inr (.inl pa))), ((g 15), .inl (cJ, 5, .inr (.inl fl)))] sz) [((g 0), .inr (9, [.int g_th, .ref (g 1), .ref (g 2), .ref (g 3), .ref (g 4), .ref (g 5), .int g_tp, .int g_so, .int g_tk, .int g_pl, .int g_va, .long g_wo, .int g_bd, .int g_bp, .int g_fa, .int g_fp, .ref (g 6), .ref (g 7), .ref (g 8), .ref (g 9), .ref (g 10), .ref (g 11), .int g_lw, .int g_we, .int g_cu, .int g_go, .int g_ba, .ref (g 12), .ref (g 13), .int u.1, .ref (g 14), .ref (g 15), .long u.2.1, .int g_sb, .int g_ab, .int g_al, .ref (g 16), .ref (g 17)])), ((g 7), .inl (cI, 35, .inl hs)), ((g 8), .inl (cI, 75, .inl sp)), ((g 10), .inl (cI, 450, .inl ac)), ((g 12), .inl (cI, 5, .inl om)), ((g 13), .inl (cI, 5, .inl lk)), ((g 14), .inl (cJ, 6, .inr (.inl u.2.2.1))), ((g 15), .inl (cJ, 5, .inr (.inl u.2.2.2)))]) (va_A [((g 0), .inr (9, [.int g_th, .ref (g 1), .ref (g 2), .ref (g 3), .ref (g 4), .ref (g 5), .int g_tp, .int g_so, .int g_tk, .int g_pl, .int g_va, .long g_wo, .int g_bd, .int g_bp, .int g_fa, .int g_fp, .ref (g 6), .ref (g 7), .ref (g 8), .ref (g 9), .ref (g 10), .ref (g 11), .int g_lw, .int g_we, .int g_cu, .int g_go, .int g_ba, .ref (g 12), .ref (g 13), .int g_jo, .ref (g 14), .ref (g 15), .long g_bt, .int g_sb, .int g_ab, .int g_al, .ref (g 16), .ref (g 17)])), ((g 7), .inl (cI, 35, .inl hs)), ((g 8), .inl (cI, 75, .inl sp)), ((g 10), .inl (cI, 450, .inl ac)), ((g 12), .inl (cI, 5, .inl om)), ((g 13), .inl (cI, 5, .inl lk)), ((g 14), .inl (cJ, 6, .inr (.inl pa))), ((g 15), .inl (cJ, 5, .inr (.inl fl)))] sz)) 0 0 (va_A [((g 0), .inr (9, [.int g_th, .ref (g 1), .ref (g 2), .ref (g 3), .ref (g 4), .ref (g 5), .int g_tp, .int g_so, .int g_tk, .int g_pl, .int g_va, .long g_wo, .int g_bd, .int g_bp, .int g_fa, .int g_fp, .ref (g 6), .ref (g 7), .ref (g 8), .ref (g 9), .ref (g 10), .ref (g 11), .int g_lw, .int g_we, .int g_cu, .int g_go, .int g_ba, .ref (g 12), .ref (g 13), .int g_jo, .ref (g 14), .ref (g 15), .long g_bt, .int g_sb, .int g_ab, .int g_al, .ref (g 16), .ref (g 17)])), ((g 7), .inl (cI, 35, .inl hs)), ((g 8), .inl (cI, 75, .inl sp)), ((g 10), .inl (cI, 450, .inl ac)), ((g 12), .inl (cI, 5, .inl om)), ((g 13), .inl (cI, 5, .inl lk)), ((g 14), .inl (cJ, 6, .inr (.inl pa))), ((g 15), .inl (cJ, 5, .inr (.inl fl)))] sz) := by
  refine Met.ofW (cc := cX9_hearsOn) (maxL := 4) (ret := (some .int)) (by decide) rfl ?_
  intro p e s m args below meth c s₁ B hml hv
  obtain ⟨rfl, hsz, hP, hK, hD0, hN⟩ := hv
  have hx := B.exec
  have hb := B.bytes
  have hr := B.returns
  have ht : ∀ w ∈ lw_ok, w.before _ s = true := fun w h => atoms_spec (ws := wy yX9_hearsOn cX9_hearsOn 4 (some .int)) B.pre w (List.mem_cons_of_mem _ h)
  have hown : s.vm.findClass RX9 = some m.cls := findClass_of_methodNamed B.named
  have hlocks := B.notSynchronized
  subst hsz
  have hD := hD0.self (sz := s.heap.size)
  generalize hAe : va_A [((g 0), .inr (9, [.int g_th, .ref (g 1), .ref (g 2), .ref (g 3), .ref (g 4), .ref (g 5), .int g_tp, .int g_so, .int g_tk, .int g_pl, .int g_va, .long g_wo, .int g_bd, .int g_bp, .int g_fa, .int g_fp, .ref (g 6), .ref (g 7), .ref (g 8), .ref (g 9), .ref (g 10), .ref (g 11), .int g_lw, .int g_we, .int g_cu, .int g_go, .int g_ba, .ref (g 12), .ref (g 13), .int g_jo, .ref (g 14), .ref (g 15), .long g_bt, .int g_sb, .int g_ab, .int g_al, .ref (g 16), .ref (g 17)])), ((g 7), .inl (cI, 35, .inl hs)), ((g 8), .inl (cI, 75, .inl sp)), ((g 10), .inl (cI, 450, .inl ac)), ((g 12), .inl (cI, 5, .inl om)), ((g 13), .inl (cI, 5, .inl lk)), ((g 14), .inl (cJ, 6, .inr (.inl pa))), ((g 15), .inl (cJ, 5, .inr (.inl fl)))] s.heap.size = A at hD ⊢
  have hA : ∀ q : Nat, s.heap.size ≤ q → A q := fun q h => by rw [← hAe]; exact Or.inr h
  have hS : va_S A s.heap s.heap [] := va_S.rf
  clear hAe hD0
  have hl := lv_entry ([.ref (g 0), .int p0]) (n := 4) (Nat.le_of_ble_eq_true rfl)
  rw [lg_entry_eq]
  generalize (lg_sl ([.ref (g 0), .int p0]) ++ List.replicate (4 - (lg_sl ([.ref (g 0), .int p0])).length) Slot.unset).toArray = ls at hl ⊢
  have hl : lv_has ls 4 [(0, .ref (g 0)), (1, .int p0)] := hl
  have hP : va_P (dC, dI) vwCl [((g 0), .inr (9, [.int g_th, .ref (g 1), .ref (g 2), .ref (g 3), .ref (g 4), .ref (g 5), .int g_tp, .int g_so, .int g_tk, .int g_pl, .int g_va, .long g_wo, .int g_bd, .int g_bp, .int g_fa, .int g_fp, .ref (g 6), .ref (g 7), .ref (g 8), .ref (g 9), .ref (g 10), .ref (g 11), .int g_lw, .int g_we, .int g_cu, .int g_go, .int g_ba, .ref (g 12), .ref (g 13), .int g_jo, .ref (g 14), .ref (g 15), .long g_bt, .int g_sb, .int g_ab, .int g_al, .ref (g 16), .ref (g 17)])), ((g 7), .inl (cI, 35, .inl hs)), ((g 8), .inl (cI, 75, .inl sp)), ((g 10), .inl (cI, 450, .inl ac)), ((g 12), .inl (cI, 5, .inl om)), ((g 13), .inl (cI, 5, .inl lk)), ((g 14), .inl (cJ, 6, .inr (.inl pa))), ((g 15), .inl (cJ, 5, .inr (.inl fl)))] s.heap := hP
  have hD : va_D A [((g 0), .inr (9, [.int g_th, .ref (g 1), .ref (g 2), .ref (g 3), .ref (g 4), .ref (g 5), .int g_tp, .int g_so, .int g_tk, .int g_pl, .int g_va, .long g_wo, .int g_bd, .int g_bp, .int g_fa, .int g_fp, .ref (g 6), .ref (g 7), .ref (g 8), .ref (g 9), .ref (g 10), .ref (g 11), .int g_lw, .int g_we, .int g_cu, .int g_go, .int g_ba, .ref (g 12), .ref (g 13), .int g_jo, .ref (g 14), .ref (g 15), .long g_bt, .int g_sb, .int g_ab, .int g_al, .ref (g 16), .ref (g 17)])), ((g 7), .inl (cI, 35, .inl hs)), ((g 8), .inl (cI, 75, .inl sp)), ((g 10), .inl (cI, 450, .inl ac)), ((g 12), .inl (cI, 5, .inl om)), ((g 13), .inl (cI, 5, .inl lk)), ((g 14), .inl (cJ, 6, .inr (.inl pa))), ((g 15), .inl (cJ, 5, .inr (.inl fl)))] := hD
  have rg_p0 := rgI p0
  refine lv_aload_n hx hb dX9_hearsOn_0 rfl (lv_at hl 0 rfl) ?_
  refine lv_iload_n hx hb dX9_hearsOn_1 rfl (lv_at hl 1 rfl) ?_
  have hPc := hP.sub (ws' := [((g 0), .inr (9, [.int g_th, .ref (g 1), .ref (g 2), .ref (g 3), .ref (g 4), .ref (g 5), .int g_tp, .int g_so, .int g_tk, .int g_pl, .int g_va, .long g_wo, .int g_bd, .int g_bp, .int g_fa, .int g_fp, .ref (g 6), .ref (g 7), .ref (g 8), .ref (g 9), .ref (g 10), .ref (g 11), .int g_lw, .int g_we, .int g_cu, .int g_go, .int g_ba, .ref (g 12), .ref (g 13), .int g_jo, .ref (g 14), .ref (g 15), .long g_bt, .int g_sb, .int g_ab, .int g_al, .ref (g 16), .ref (g 17)])), ((g 7), .inl (cI, 35, .inl hs)), ((g 10), .inl (cI, 450, .inl ac)), ((g 12), .inl (cI, 5, .inl om)), ((g 13), .inl (cI, 5, .inl lk)), ((g 14), .inl (cJ, 6, .inr (.inl pa))), ((g 15), .inl (cJ, 5, .inr (.inl fl)))]) [0, 1, 3, 4, 5, 6, 7] rfl
  have hDc := hD.sub (ws' := [((g 0), .inr (9, [.int g_th, .ref (g 1), .ref (g 2), .ref (g 3), .ref (g 4), .ref (g 5), .int g_tp, .int g_so, .int g_tk, .int g_pl, .int g_va, .long g_wo, .int g_bd, .int g_bp, .int g_fa, .int g_fp, .ref (g 6), .ref (g 7), .ref (g 8), .ref (g 9), .ref (g 10), .ref (g 11), .int g_lw, .int g_we, .int g_cu, .int g_go, .int g_ba, .ref (g 12), .ref (g 13), .int g_jo, .ref (g 14), .ref (g 15), .long g_bt, .int g_sb, .int g_ab, .int g_al, .ref (g 16), .ref (g 17)])), ((g 7), .inl (cI, 35, .inl hs)), ((g 10), .inl (cI, 450, .inl ac)), ((g 12), .inl (cI, 5, .inl om)), ((g 13), .inl (cI, 5, .inl lk)), ((g 14), .inl (cJ, 6, .inr (.inl pa))), ((g 15), .inl (cJ, 5, .inr (.inl fl)))]) [0, 1, 3, 4, 5, 6, 7] (by decide) rfl
  have hFc := va_free (wc := [((g 0), .inr (9, [.int g_th, .ref (g 1), .ref (g 2), .ref (g 3), .ref (g 4), .ref (g 5), .int g_tp, .int g_so, .int g_tk, .int g_pl, .int g_va, .long g_wo, .int g_bd, .int g_bp, .int g_fa, .int g_fp, .ref (g 6), .ref (g 7), .ref (g 8), .ref (g 9), .ref (g 10), .ref (g 11), .int g_lw, .int g_we, .int g_cu, .int g_go, .int g_ba, .ref (g 12), .ref (g 13), .int g_jo, .ref (g 14), .ref (g 15), .long g_bt, .int g_sb, .int g_ab, .int g_al, .ref (g 16), .ref (g 17)])), ((g 7), .inl (cI, 35, .inl hs)), ((g 10), .inl (cI, 450, .inl ac)), ((g 12), .inl (cI, 5, .inl om)), ((g 13), .inl (cI, 5, .inl lk)), ((g 14), .inl (cJ, 6, .inr (.inl pa))), ((g 15), .inl (cJ, 5, .inr (.inl fl)))]) hD hS hA [0, 1, 3, 4, 5, 6, 7] rfl
  refine va_callv (va_runV (As := [.int p0]) (rest := []) ⟨hx, hb, hml, hown, ht⟩ (s_X9_laysDay l dC dI cB cI cJ cZ cL s.heap.size g g_th g_tp g_so g_tk g_pl g_va g_wo g_bd g_bp g_fa g_fp g_lw g_we g_cu g_go g_ba g_jo g_bt g_sb g_ab g_al hs ac om lk pa fl p0 (by first | assumption | omega | decide | (simp only [T0, T1, T2, T3, Tm1]; omega)) (by first | assumption | omega | decide | (simp only [T0, T1, T2, T3, Tm1]; omega)) (by first | assumption | omega | decide | (simp only [T0, T1, T2, T3, Tm1]; omega)) (by first | assumption | omega | decide | (simp only [T0, T1, T2, T3, Tm1]; omega)) (by first | assumption | omega | decide | (simp only [T0, T1, T2, T3, Tm1]; omega))) (cwV 1 ht (gV w_1580 w_1582 w_76 w_114 w_1583) rfl rfl rfl (by decide +kernel) ⟨Nat.le_of_ble_eq_true rfl, Nat.le_of_ble_eq_true rfl⟩) (pVQn hN hK hPc hDc (ci := 9) (q0 := 0) rfl rfl) rfl rfl hl.1 rfl (lv_room (Nat.le_of_ble_eq_true rfl)) dX9_hearsOn_2 ⟨Nat.le_of_ble_eq_true rfl, Nat.le_of_ble_eq_true rfl⟩) hS (fun q _ h => hFc q h) hFc (fun u_2 t1 H1 locs ht1 hvm hw hB hz1 hk1 hS => ?_)
  obtain ⟨z_3, z_4, z_5, z_6⟩ := u_2
  obtain ⟨hP1, hD1⟩ := hB
  rw [ht1] at hP1
  obtain ⟨hP, hD⟩ := va_join (wr := [((g 8), .inl (cI, 75, .inl sp))]) (w1 := [((g 0), .inr (9, [.int g_th, .ref (g 1), .ref (g 2), .ref (g 3), .ref (g 4), .ref (g 5), .int g_tp, .int g_so, .int g_tk, .int g_pl, .int g_va, .long g_wo, .int g_bd, .int g_bp, .int g_fa, .int g_fp, .ref (g 6), .ref (g 7), .ref (g 8), .ref (g 9), .ref (g 10), .ref (g 11), .int g_lw, .int g_we, .int g_cu, .int g_go, .int g_ba, .ref (g 12), .ref (g 13), .int z_3, .ref (g 14), .ref (g 15), .long z_4, .int g_sb, .int g_ab, .int g_al, .ref (g 16), .ref (g 17)])), ((g 7), .inl (cI, 35, .inl hs)), ((g 10), .inl (cI, 450, .inl ac)), ((g 12), .inl (cI, 5, .inl om)), ((g 13), .inl (cI, 5, .inl lk)), ((g 14), .inl (cJ, 6, .inr (.inl z_5))), ((g 15), .inl (cJ, 5, .inr (.inl z_6)))]) hP hD [0, 1, 3, 4, 5, 6, 7] [2] rfl rfl (by decide) (by decide) hk1 hFc hP1 hD1
  clear hFc hDc hPc hP1 hD1 hz1 hk1 hvm
  generalize H1 = H at hP hS ⊢
  have hP : va_P (dC, dI) vwCl [((g 8), .inl (cI, 75, .inl sp)), ((g 0), .inr (9, [.int g_th, .ref (g 1), .ref (g 2), .ref (g 3), .ref (g 4), .ref (g 5), .int g_tp, .int g_so, .int g_tk, .int g_pl, .int g_va, .long g_wo, .int g_bd, .int g_bp, .int g_fa, .int g_fp, .ref (g 6), .ref (g 7), .ref (g 8), .ref (g 9), .ref (g 10), .ref (g 11), .int g_lw, .int g_we, .int g_cu, .int g_go, .int g_ba, .ref (g 12), .ref (g 13), .int z_3, .ref (g 14), .ref (g 15), .long z_4, .int g_sb, .int g_ab, .int g_al, .ref (g 16), .ref (g 17)])), ((g 7), .inl (cI, 35, .inl hs)), ((g 10), .inl (cI, 450, .inl ac)), ((g 12), .inl (cI, 5, .inl om)), ((g 13), .inl (cI, 5, .inl lk)), ((g 14), .inl (cJ, 6, .inr (.inl z_5))), ((g 15), .inl (cJ, 5, .inr (.inl z_6)))] H := hP
  have hD : va_D A [((g 8), .inl (cI, 75, .inl sp)), ((g 0), .inr (9, [.int g_th, .ref (g 1), .ref (g 2), .ref (g 3), .ref (g 4), .ref (g 5), .int g_tp, .int g_so, .int g_tk, .int g_pl, .int g_va, .long g_wo, .int g_bd, .int g_bp, .int g_fa, .int g_fp, .ref (g 6), .ref (g 7), .ref (g 8), .ref (g 9), .ref (g 10), .ref (g 11), .int g_lw, .int g_we, .int g_cu, .int g_go, .int g_ba, .ref (g 12), .ref (g 13), .int z_3, .ref (g 14), .ref (g 15), .long z_4, .int g_sb, .int g_ab, .int g_al, .ref (g 16), .ref (g 17)])), ((g 7), .inl (cI, 35, .inl hs)), ((g 10), .inl (cI, 450, .inl ac)), ((g 12), .inl (cI, 5, .inl om)), ((g 13), .inl (cI, 5, .inl lk)), ((g 14), .inl (cJ, 6, .inr (.inl z_5))), ((g 15), .inl (cJ, 5, .inr (.inl z_6)))] := hD
  (try dsimp only at hw)
  have hw_7 := hw
  clear hw
  obtain ⟨hw_7_0, hw_7_1, hw_7_2⟩ := hw_7
  refine lv_iconst (v := 0) hx hb dX9_hearsOn_5 (by decide) ?_
  refine lv_istore_n (lv' := [(2, .int 0), (0, .ref (g 0)), (1, .int p0)]) hx hb dX9_hearsOn_6 rfl hl (by decide) rfl (fun ls hl => ?_)
  refine lv_iconst (v := 0) hx hb dX9_hearsOn_7 (by decide) ?_
  refine lv_istore_n (lv' := [(3, .int 0), (2, .int 0), (0, .ref (g 0)), (1, .int p0)]) hx hb dX9_hearsOn_8 rfl hl (by decide) rfl (fun ls hl => ?_)
  have lp_28 : ∀ (d : Nat) (v_16 : Int32) (v_17 : Int32) (H : Heap) (locs : List Loc) (ls : Array Slot), ((0 ≤ Int32.toInt v_17)) → ((2147483647 - Int32.toInt v_17).toNat < d) → va_P (dC, dI) vwCl [((g 8), .inl (cI, 75, .inl sp)), ((g 0), .inr (9, [.int g_th, .ref (g 1), .ref (g 2), .ref (g 3), .ref (g 4), .ref (g 5), .int g_tp, .int g_so, .int g_tk, .int g_pl, .int g_va, .long g_wo, .int g_bd, .int g_bp, .int g_fa, .int g_fp, .ref (g 6), .ref (g 7), .ref (g 8), .ref (g 9), .ref (g 10), .ref (g 11), .int g_lw, .int g_we, .int g_cu, .int g_go, .int g_ba, .ref (g 12), .ref (g 13), .int z_3, .ref (g 14), .ref (g 15), .long z_4, .int g_sb, .int g_ab, .int g_al, .ref (g 16), .ref (g 17)])), ((g 7), .inl (cI, 35, .inl hs)), ((g 10), .inl (cI, 450, .inl ac)), ((g 12), .inl (cI, 5, .inl om)), ((g 13), .inl (cI, 5, .inl lk)), ((g 14), .inl (cJ, 6, .inr (.inl z_5))), ((g 15), .inl (cJ, 5, .inr (.inl z_6)))] H → va_D A [((g 8), .inl (cI, 75, .inl sp)), ((g 0), .inr (9, [.int g_th, .ref (g 1), .ref (g 2), .ref (g 3), .ref (g 4), .ref (g 5), .int g_tp, .int g_so, .int g_tk, .int g_pl, .int g_va, .long g_wo, .int g_bd, .int g_bp, .int g_fa, .int g_fp, .ref (g 6), .ref (g 7), .ref (g 8), .ref (g 9), .ref (g 10), .ref (g 11), .int g_lw, .int g_we, .int g_cu, .int g_go, .int g_ba, .ref (g 12), .ref (g 13), .int z_3, .ref (g 14), .ref (g 15), .long z_4, .int g_sb, .int g_ab, .int g_al, .ref (g 16), .ref (g 17)])), ((g 7), .inl (cI, 35, .inl hs)), ((g 10), .inl (cI, 450, .inl ac)), ((g 12), .inl (cI, 5, .inl om)), ((g 13), .inl (cI, 5, .inl lk)), ((g 14), .inl (cJ, 6, .inr (.inl z_5))), ((g 15), .inl (cJ, 5, .inr (.inl z_6)))] → va_S A s.heap H locs → lv_has ls 4 [(3, .int v_17), (2, .int v_16), (0, .ref (g 0)), (1, .int p0)] → W p l e (headSpec (wy yX9_hearsOn cX9_hearsOn 4 (some .int)) ({ frames := 4, cells := 0, slots := 0, locals := 160 })).room s m ([.ref (g 0), .int p0] : List Value).toArray below meth c H locs 0 0 (MQ below (va_Qi (fun r u => (0 ≤ Int32.toInt u.1) ∧ (Int32.toInt u.1 ≤ Int32.toInt (hs 4)) ∧ (1 ≤ Int64.toInt u.2.1)) (fun (u : (Int32) × (Int64) × (Nat → Int64) × (Nat → Int64)) t => va_P (dC, dI) vwCl [((g 0), .inr (9, [.int g_th, .ref (g 1), .ref (g 2), .ref (g 3), .ref (g 4), .ref (g 5), .int g_tp, .int g_so, .int g_tk, .int g_pl, .int g_va, .long g_wo, .int g_bd, .int g_bp, .int g_fa, .int g_fp, .ref (g 6), .ref (g 7), .ref (g 8), .ref (g 9), .ref (g 10), .ref (g 11), .int g_lw, .int g_we, .int g_cu, .int g_go, .int g_ba, .ref (g 12), .ref (g 13), .int u.1, .ref (g 14), .ref (g 15), .long u.2.1, .int g_sb, .int g_ab, .int g_al, .ref (g 16), .ref (g 17)])), ((g 7), .inl (cI, 35, .inl hs)), ((g 8), .inl (cI, 75, .inl sp)), ((g 10), .inl (cI, 450, .inl ac)), ((g 12), .inl (cI, 5, .inl om)), ((g 13), .inl (cI, 5, .inl lk)), ((g 14), .inl (cJ, 6, .inr (.inl u.2.2.1))), ((g 15), .inl (cJ, 5, .inr (.inl u.2.2.2)))] t.heap ∧ va_D A [((g 0), .inr (9, [.int g_th, .ref (g 1), .ref (g 2), .ref (g 3), .ref (g 4), .ref (g 5), .int g_tp, .int g_so, .int g_tk, .int g_pl, .int g_va, .long g_wo, .int g_bd, .int g_bp, .int g_fa, .int g_fp, .ref (g 6), .ref (g 7), .ref (g 8), .ref (g 9), .ref (g 10), .ref (g 11), .int g_lw, .int g_we, .int g_cu, .int g_go, .int g_ba, .ref (g 12), .ref (g 13), .int u.1, .ref (g 14), .ref (g 15), .long u.2.1, .int g_sb, .int g_ab, .int g_al, .ref (g 16), .ref (g 17)])), ((g 7), .inl (cI, 35, .inl hs)), ((g 8), .inl (cI, 75, .inl sp)), ((g 10), .inl (cI, 450, .inl ac)), ((g 12), .inl (cI, 5, .inl om)), ((g 13), .inl (cI, 5, .inl lk)), ((g 14), .inl (cJ, 6, .inr (.inl u.2.2.1))), ((g 15), .inl (cJ, 5, .inr (.inl u.2.2.2)))]) A) ([.ref (g 0), .int p0] : List Value).toArray s 0 0 A) (F0 m 9 ls []) := by
    intro d
    induction d with
    | zero => intro v_16 v_17 H locs ls hI hM; exfalso; exact absurd hM (Nat.not_lt_zero _)
    | succ d ih_29 =>
      intro v_16 v_17 H locs ls hI hM hP hD hS hl
      have hI_30 := hI
      refine lv_iload_n hx hb dX9_hearsOn_9 rfl (lv_at hl 0 rfl) ?_
      refine lv_aload_n hx hb dX9_hearsOn_10 rfl (lv_at hl 2 rfl) ?_
      have hPc := hP.sub (ws' := [((g 0), .inr (9, [.int g_th, .ref (g 1), .ref (g 2), .ref (g 3), .ref (g 4), .ref (g 5), .int g_tp, .int g_so, .int g_tk, .int g_pl, .int g_va, .long g_wo, .int g_bd, .int g_bp, .int g_fa, .int g_fp, .ref (g 6), .ref (g 7), .ref (g 8), .ref (g 9), .ref (g 10), .ref (g 11), .int g_lw, .int g_we, .int g_cu, .int g_go, .int g_ba, .ref (g 12), .ref (g 13), .int z_3, .ref (g 14), .ref (g 15), .long z_4, .int g_sb, .int g_ab, .int g_al, .ref (g 16), .ref (g 17)])), ((g 7), .inl (cI, 35, .inl hs))]) [1, 2] rfl
      refine vp_callSi (W.runV (As := []) (rest := [.int v_17]) ⟨hx, hb, hml, hown, ht⟩ (s_X9_spans l dC dI cB cI cJ cZ cL g g_th g_tp g_so g_tk g_pl g_va g_wo g_bd g_bp g_fa g_fp g_lw g_we g_cu g_go g_ba z_3 z_4 g_sb g_ab g_al hs) (cwV 0 ht (gV w_1521 w_1523 w_67 w_114 w_1524) rfl rfl rfl (by decide +kernel) ⟨Nat.le_of_ble_eq_true rfl, Nat.le_of_ble_eq_true rfl⟩) (pVSn hN hK hPc (ci := 9) (q0 := 0) rfl rfl) rfl rfl hl.1 rfl (lv_room (Nat.le_of_ble_eq_true rfl)) dX9_hearsOn_11 ⟨Nat.le_of_ble_eq_true rfl, Nat.le_of_ble_eq_true rfl⟩) (fun r_31 hw => ?_)
      clear hPc
      (try dsimp only at hw)
      have hw_32 := hw
      clear hw
      refine lv_icmp_ge (tgt := 41) hx hb dX9_hearsOn_14 (by decide) (fun c_33 => ?_) (fun c_33 => ?_)
      · (try simp only [i_lt, i_le, i_eq] at c_33)
        refine lv_iload_n hx hb dX9_hearsOn_41 rfl (lv_at hl 1 rfl) ?_
        have hP9 := hP.sub (ws' := [((g 0), .inr (9, [.int g_th, .ref (g 1), .ref (g 2), .ref (g 3), .ref (g 4), .ref (g 5), .int g_tp, .int g_so, .int g_tk, .int g_pl, .int g_va, .long g_wo, .int g_bd, .int g_bp, .int g_fa, .int g_fp, .ref (g 6), .ref (g 7), .ref (g 8), .ref (g 9), .ref (g 10), .ref (g 11), .int g_lw, .int g_we, .int g_cu, .int g_go, .int g_ba, .ref (g 12), .ref (g 13), .int z_3, .ref (g 14), .ref (g 15), .long z_4, .int g_sb, .int g_ab, .int g_al, .ref (g 16), .ref (g 17)])), ((g 7), .inl (cI, 35, .inl hs)), ((g 8), .inl (cI, 75, .inl sp)), ((g 10), .inl (cI, 450, .inl ac)), ((g 12), .inl (cI, 5, .inl om)), ((g 13), .inl (cI, 5, .inl lk)), ((g 14), .inl (cJ, 6, .inr (.inl z_5))), ((g 15), .inl (cJ, 5, .inr (.inl z_6)))]) [1, 2, 0, 3, 4, 5, 6, 7] rfl
        have hD9 := hD.sub (ws' := [((g 0), .inr (9, [.int g_th, .ref (g 1), .ref (g 2), .ref (g 3), .ref (g 4), .ref (g 5), .int g_tp, .int g_so, .int g_tk, .int g_pl, .int g_va, .long g_wo, .int g_bd, .int g_bp, .int g_fa, .int g_fp, .ref (g 6), .ref (g 7), .ref (g 8), .ref (g 9), .ref (g 10), .ref (g 11), .int g_lw, .int g_we, .int g_cu, .int g_go, .int g_ba, .ref (g 12), .ref (g 13), .int z_3, .ref (g 14), .ref (g 15), .long z_4, .int g_sb, .int g_ab, .int g_al, .ref (g 16), .ref (g 17)])), ((g 7), .inl (cI, 35, .inl hs)), ((g 8), .inl (cI, 75, .inl sp)), ((g 10), .inl (cI, 450, .inl ac)), ((g 12), .inl (cI, 5, .inl om)), ((g 13), .inl (cI, 5, .inl lk)), ((g 14), .inl (cJ, 6, .inr (.inl z_5))), ((g 15), .inl (cJ, 5, .inr (.inl z_6)))]) [1, 2, 0, 3, 4, 5, 6, 7] (by decide) rfl
        exact W.iret (v := v_16) hx hb hr (fun t ht hW => ⟨⟨v_16, (z_3, z_4, z_5, z_6), rfl, ⟨(by first | omega | assumption | decide | exact LK_mono (by assumption) (by omega) | exact OM_mono (by assumption) (by omega) | exact CLR_mono (by assumption) (by omega) | (have e0 := T0; have e1 := T1; have e2 := T2; have e3 := T3; have em1 := Tm1; omega) | (dsimp only; done) | (dsimp only; first | omega | assumption | decide | exact LK_mono (by assumption) (by omega) | exact OM_mono (by assumption) (by omega) | exact CLR_mono (by assumption) (by omega) | (have e0 := T0; have e1 := T1; have e2 := T2; have e3 := T3; have em1 := Tm1; omega))), (by first | omega | assumption | decide | exact LK_mono (by assumption) (by omega) | exact OM_mono (by assumption) (by omega) | exact CLR_mono (by assumption) (by omega) | (have e0 := T0; have e1 := T1; have e2 := T2; have e3 := T3; have em1 := Tm1; omega) | (dsimp only; done) | (dsimp only; first | omega | assumption | decide | exact LK_mono (by assumption) (by omega) | exact OM_mono (by assumption) (by omega) | exact CLR_mono (by assumption) (by omega) | (have e0 := T0; have e1 := T1; have e2 := T2; have e3 := T3; have em1 := Tm1; omega))), (by first | omega | assumption | decide | exact LK_mono (by assumption) (by omega) | exact OM_mono (by assumption) (by omega) | exact CLR_mono (by assumption) (by omega) | (have e0 := T0; have e1 := T1; have e2 := T2; have e3 := T3; have em1 := Tm1; omega) | (dsimp only; done) | (dsimp only; first | omega | assumption | decide | exact LK_mono (by assumption) (by omega) | exact OM_mono (by assumption) (by omega) | exact CLR_mono (by assumption) (by omega) | (have e0 := T0; have e1 := T1; have e2 := T2; have e3 := T3; have em1 := Tm1; omega)))⟩, ⟨by rw [ht]; exact hP9, hD9⟩⟩, hS.F ht⟩) hS.2.2 dX9_hearsOn_42
      · (try simp only [i_lt, i_le, i_eq] at c_33)
        refine lv_iload_n hx hb dX9_hearsOn_17 rfl (lv_at hl 1 rfl) ?_
        refine lv_aload_n hx hb dX9_hearsOn_18 rfl (lv_at hl 2 rfl) ?_
        refine lv_iload_n hx hb dX9_hearsOn_19 rfl (lv_at hl 0 rfl) ?_
        have hPc := hP.sub (ws' := [((g 0), .inr (9, [.int g_th, .ref (g 1), .ref (g 2), .ref (g 3), .ref (g 4), .ref (g 5), .int g_tp, .int g_so, .int g_tk, .int g_pl, .int g_va, .long g_wo, .int g_bd, .int g_bp, .int g_fa, .int g_fp, .ref (g 6), .ref (g 7), .ref (g 8), .ref (g 9), .ref (g 10), .ref (g 11), .int g_lw, .int g_we, .int g_cu, .int g_go, .int g_ba, .ref (g 12), .ref (g 13), .int z_3, .ref (g 14), .ref (g 15), .long z_4, .int g_sb, .int g_ab, .int g_al, .ref (g 16), .ref (g 17)])), ((g 7), .inl (cI, 35, .inl hs)), ((g 8), .inl (cI, 75, .inl sp)), ((g 14), .inl (cJ, 6, .inr (.inl z_5)))]) [1, 2, 0, 6] rfl
        refine vp_callSi (W.runV (As := [.int v_17]) (rest := [.int v_16]) ⟨hx, hb, hml, hown, ht⟩ (s_X9_isHearing l dC dI cB cI cJ cZ cL g g_th g_tp g_so g_tk g_pl g_va g_wo g_bd g_bp g_fa g_fp g_lw g_we g_cu g_go g_ba z_3 z_4 g_sb g_ab g_al hs sp z_5 v_17 (by first | assumption | omega | decide | (simp only [T0, T1, T2, T3, Tm1]; omega)) (by first | assumption | omega | decide | (simp only [T0, T1, T2, T3, Tm1]; omega))) (cwV 1 ht (gV w_1638 w_1640 w_80 w_114 w_1641) rfl rfl rfl (by decide +kernel) ⟨Nat.le_of_ble_eq_true rfl, Nat.le_of_ble_eq_true rfl⟩) (pVSn hN hK hPc (ci := 9) (q0 := 0) rfl rfl) rfl rfl hl.1 rfl (lv_room (Nat.le_of_ble_eq_true rfl)) dX9_hearsOn_20 ⟨Nat.le_of_ble_eq_true rfl, Nat.le_of_ble_eq_true rfl⟩) (fun r_34 hw => ?_)
        clear hPc
        clear hw
        refine lv_if_eq (tgt := 32) hx hb dX9_hearsOn_23 (by decide) (fun c_35 => ?_) (fun c_35 => ?_)
        · (try simp only [i_lt, i_le, i_eq, T0] at c_35)
          refine lv_iconst (v := 0) hx hb dX9_hearsOn_32 (by decide) ?_
          refine lv_ior hx hb dX9_hearsOn_33 ?_
          refine lv_topi (fun y_36 ey_36 => ?_)
          clear ey_36
          refine lv_istore_n (lv' := [(2, .int y_36), (3, .int v_17), (0, .ref (g 0)), (1, .int p0)]) hx hb dX9_hearsOn_34 rfl hl (by decide) rfl (fun ls hl => ?_)
          obtain ⟨y_37, ey_37⟩ : ∃ z : Int32, z = v_17 + 1 := ⟨_, rfl⟩
          have ty_37 := iaddF ey_37
          simp only [T1] at ty_37
          refine lv_iinc (v := y_37) (lv' := [(3, .int y_37), (2, .int y_36), (0, .ref (g 0)), (1, .int p0)]) hx hb dX9_hearsOn_35 hl (k := 1) rfl (by rw [ey_37]; rfl) (by decide) rfl (fun ls hl => ?_)
          clear ey_37
          refine lv_goto (tgt := 9) hx hb dX9_hearsOn_38 (by decide) ?_
          exact ih_29 y_36 y_37 _ _ _ (by first | omega | assumption | decide | exact LK_0 | exact OM_0 | exact CE_0 | exact SZI_0 | exact CLR_0 | exact CP_0 | exact PV_0 | exact BV_0 (by assumption) (by omega) (by omega) | exact LK_mono (by assumption) (by omega) | exact OM_mono (by assumption) (by omega) | exact CE_mono (by assumption) (by omega) | exact CLR_mono (by assumption) (by omega) | exact CP_mono (by assumption) (by omega) | (have e0 := T0; have e1 := T1; have e2 := T2; have em1 := Tm1; omega)) (by omega) (hP.sub (ws' := [((g 8), .inl (cI, 75, .inl sp)), ((g 0), .inr (9, [.int g_th, .ref (g 1), .ref (g 2), .ref (g 3), .ref (g 4), .ref (g 5), .int g_tp, .int g_so, .int g_tk, .int g_pl, .int g_va, .long g_wo, .int g_bd, .int g_bp, .int g_fa, .int g_fp, .ref (g 6), .ref (g 7), .ref (g 8), .ref (g 9), .ref (g 10), .ref (g 11), .int g_lw, .int g_we, .int g_cu, .int g_go, .int g_ba, .ref (g 12), .ref (g 13), .int z_3, .ref (g 14), .ref (g 15), .long z_4, .int g_sb, .int g_ab, .int g_al, .ref (g 16), .ref (g 17)])), ((g 7), .inl (cI, 35, .inl hs)), ((g 10), .inl (cI, 450, .inl ac)), ((g 12), .inl (cI, 5, .inl om)), ((g 13), .inl (cI, 5, .inl lk)), ((g 14), .inl (cJ, 6, .inr (.inl z_5))), ((g 15), .inl (cJ, 5, .inr (.inl z_6)))]) [0, 1, 2, 3, 4, 5, 6, 7] rfl) (hD.sub (ws' := [((g 8), .inl (cI, 75, .inl sp)), ((g 0), .inr (9, [.int g_th, .ref (g 1), .ref (g 2), .ref (g 3), .ref (g 4), .ref (g 5), .int g_tp, .int g_so, .int g_tk, .int g_pl, .int g_va, .long g_wo, .int g_bd, .int g_bp, .int g_fa, .int g_fp, .ref (g 6), .ref (g 7), .ref (g 8), .ref (g 9), .ref (g 10), .ref (g 11), .int g_lw, .int g_we, .int g_cu, .int g_go, .int g_ba, .ref (g 12), .ref (g 13), .int z_3, .ref (g 14), .ref (g 15), .long z_4, .int g_sb, .int g_ab, .int g_al, .ref (g 16), .ref (g 17)])), ((g 7), .inl (cI, 35, .inl hs)), ((g 10), .inl (cI, 450, .inl ac)), ((g 12), .inl (cI, 5, .inl om)), ((g 13), .inl (cI, 5, .inl lk)), ((g 14), .inl (cJ, 6, .inr (.inl z_5))), ((g 15), .inl (cJ, 5, .inr (.inl z_6)))]) [0, 1, 2, 3, 4, 5, 6, 7] (by decide) rfl) hS (lv_sub hl [0, 1, 2, 3] rfl)
        · (try simp only [i_lt, i_le, i_eq, T0] at c_35)
          refine lv_iconst (v := 1) hx hb dX9_hearsOn_26 (by decide) ?_
          refine lv_iload_n hx hb dX9_hearsOn_27 rfl (lv_at hl 0 rfl) ?_
          refine lv_ishl hx hb dX9_hearsOn_28 ?_
          refine lv_topi (fun y_38 ey_38 => ?_)
          have ty_38 := shl1F ey_38
          clear ey_38
          refine lv_goto (tgt := 33) hx hb dX9_hearsOn_29 (by decide) ?_
          refine lv_ior hx hb dX9_hearsOn_33 ?_
          refine lv_topi (fun y_39 ey_39 => ?_)
          clear ey_39
          refine lv_istore_n (lv' := [(2, .int y_39), (3, .int v_17), (0, .ref (g 0)), (1, .int p0)]) hx hb dX9_hearsOn_34 rfl hl (by decide) rfl (fun ls hl => ?_)
          obtain ⟨y_40, ey_40⟩ : ∃ z : Int32, z = v_17 + 1 := ⟨_, rfl⟩
          have ty_40 := iaddF ey_40
          simp only [T1] at ty_40
          refine lv_iinc (v := y_40) (lv' := [(3, .int y_40), (2, .int y_39), (0, .ref (g 0)), (1, .int p0)]) hx hb dX9_hearsOn_35 hl (k := 1) rfl (by rw [ey_40]; rfl) (by decide) rfl (fun ls hl => ?_)
          clear ey_40
          refine lv_goto (tgt := 9) hx hb dX9_hearsOn_38 (by decide) ?_
          exact ih_29 y_39 y_40 _ _ _ (by first | omega | assumption | decide | exact LK_0 | exact OM_0 | exact CE_0 | exact SZI_0 | exact CLR_0 | exact CP_0 | exact PV_0 | exact BV_0 (by assumption) (by omega) (by omega) | exact LK_mono (by assumption) (by omega) | exact OM_mono (by assumption) (by omega) | exact CE_mono (by assumption) (by omega) | exact CLR_mono (by assumption) (by omega) | exact CP_mono (by assumption) (by omega) | (have e0 := T0; have e1 := T1; have e2 := T2; have em1 := Tm1; omega)) (by omega) (hP.sub (ws' := [((g 8), .inl (cI, 75, .inl sp)), ((g 0), .inr (9, [.int g_th, .ref (g 1), .ref (g 2), .ref (g 3), .ref (g 4), .ref (g 5), .int g_tp, .int g_so, .int g_tk, .int g_pl, .int g_va, .long g_wo, .int g_bd, .int g_bp, .int g_fa, .int g_fp, .ref (g 6), .ref (g 7), .ref (g 8), .ref (g 9), .ref (g 10), .ref (g 11), .int g_lw, .int g_we, .int g_cu, .int g_go, .int g_ba, .ref (g 12), .ref (g 13), .int z_3, .ref (g 14), .ref (g 15), .long z_4, .int g_sb, .int g_ab, .int g_al, .ref (g 16), .ref (g 17)])), ((g 7), .inl (cI, 35, .inl hs)), ((g 10), .inl (cI, 450, .inl ac)), ((g 12), .inl (cI, 5, .inl om)), ((g 13), .inl (cI, 5, .inl lk)), ((g 14), .inl (cJ, 6, .inr (.inl z_5))), ((g 15), .inl (cJ, 5, .inr (.inl z_6)))]) [0, 1, 2, 3, 4, 5, 6, 7] rfl) (hD.sub (ws' := [((g 8), .inl (cI, 75, .inl sp)), ((g 0), .inr (9, [.int g_th, .ref (g 1), .ref (g 2), .ref (g 3), .ref (g 4), .ref (g 5), .int g_tp, .int g_so, .int g_tk, .int g_pl, .int g_va, .long g_wo, .int g_bd, .int g_bp, .int g_fa, .int g_fp, .ref (g 6), .ref (g 7), .ref (g 8), .ref (g 9), .ref (g 10), .ref (g 11), .int g_lw, .int g_we, .int g_cu, .int g_go, .int g_ba, .ref (g 12), .ref (g 13), .int z_3, .ref (g 14), .ref (g 15), .long z_4, .int g_sb, .int g_ab, .int g_al, .ref (g 16), .ref (g 17)])), ((g 7), .inl (cI, 35, .inl hs)), ((g 10), .inl (cI, 450, .inl ac)), ((g 12), .inl (cI, 5, .inl om)), ((g 13), .inl (cI, 5, .inl lk)), ((g 14), .inl (cJ, 6, .inr (.inl z_5))), ((g 15), .inl (cJ, 5, .inr (.inl z_6)))]) [0, 1, 2, 3, 4, 5, 6, 7] (by decide) rfl) hS (lv_sub hl [0, 1, 2, 3] rfl)
  exact lp_28 _ 0 0 _ _ _ (by first | omega | assumption | decide | exact LK_0 | exact OM_0 | exact CE_0 | exact SZI_0 | exact CLR_0 | exact CP_0 | exact PV_0 | exact BV_0 (by assumption) (by omega) (by omega) | exact LK_mono (by assumption) (by omega) | exact OM_mono (by assumption) (by omega) | exact CE_mono (by assumption) (by omega) | exact CLR_mono (by assumption) (by omega) | exact CP_mono (by assumption) (by omega) | (have e0 := T0; have e1 := T1; have e2 := T2; have em1 := Tm1; omega)) (Nat.lt_succ_self _) hP hD hS (lv_sub hl [0, 1, 2, 3] rfl)
set_option maxHeartbeats 8000000 in
set_option maxRecDepth 100000 in
theorem s_X9_stationsAll (l : Launch) (dC : Nat → ClassId) (dI : Nat → Nat → Nat) (cB cI cJ cZ cL : ClassId) (g : Nat → Nat) (g_th : Int32) (g_tp : Int32) (g_so : Int32) (g_tk : Int32) (g_pl : Int32) (g_va : Int32) (g_wo : Int64) (g_bd : Int32) (g_bp : Int32) (g_fa : Int32) (g_fp : Int32) (g_lw : Int32) (g_we : Int32) (g_cu : Int32) (g_go : Int32) (g_ba : Int32) (g_jo : Int32) (g_bt : Int64) (g_sb : Int32) (g_ab : Int32) (g_al : Int32) (hs : Nat → Int32) (sp : Nat → Int32)  (h4 : 0 ≤ Int32.toInt (hs 4) ∧ Int32.toInt (hs 4) ≤ 5) : Met l yX9_stationsAll (wy yX9_stationsAll cX9_stationsAll 3 (some .int)) ({ frames := 3, cells := 0, slots := 0, locals := 120 }) (va_Pc [.ref (g 0)] (fun U => va_P (dC, dI) vwCl [((g 0), .inr (9, [.int g_th, .ref (g 1), .ref (g 2), .ref (g 3), .ref (g 4), .ref (g 5), .int g_tp, .int g_so, .int g_tk, .int g_pl, .int g_va, .long g_wo, .int g_bd, .int g_bp, .int g_fa, .int g_fp, .ref (g 6), .ref (g 7), .ref (g 8), .ref (g 9), .ref (g 10), .ref (g 11), .int g_lw, .int g_we, .int g_cu, .int g_go, .int g_ba, .ref (g 12), .ref (g 13), .int g_jo, .ref (g 14), .ref (g 15), .long g_bt, .int g_sb, .int g_ab, .int g_al, .ref (g 16), .ref (g 17)])), ((g 7), .inl (cI, 35, .inl hs)), ((g 8), .inl (cI, 75, .inl sp))] U.heap ∧ va_K (dC, dI) vwCl (tyL cB cI cJ cZ cL) U ∧ NW U)) (vp_Si (fun r => True)) 0 0 (fun _ => False) := by
  refine Met.ofW (cc := cX9_stationsAll) (maxL := 3) (ret := (some .int)) (by decide) rfl ?_
  intro p e s m args below meth c s₁ B hml hv
  obtain ⟨rfl, hP, hK, hN⟩ := hv
  have hx := B.exec
  have hb := B.bytes
  have hr := B.returns
  have ht : ∀ w ∈ lw_ok, w.before _ s = true := fun w h => atoms_spec (ws := wy yX9_stationsAll cX9_stationsAll 3 (some .int)) B.pre w (List.mem_cons_of_mem _ h)
  have hown : s.vm.findClass RX9 = some m.cls := findClass_of_methodNamed B.named
  have hlocks := B.notSynchronized
  have hl := lv_entry ([.ref (g 0)]) (n := 3) (Nat.le_of_ble_eq_true rfl)
  rw [lg_entry_eq]
  generalize (lg_sl ([.ref (g 0)]) ++ List.replicate (3 - (lg_sl ([.ref (g 0)])).length) Slot.unset).toArray = ls at hl ⊢
  have hl : lv_has ls 3 [(0, .ref (g 0))] := hl
  have hP : va_P (dC, dI) vwCl [((g 0), .inr (9, [.int g_th, .ref (g 1), .ref (g 2), .ref (g 3), .ref (g 4), .ref (g 5), .int g_tp, .int g_so, .int g_tk, .int g_pl, .int g_va, .long g_wo, .int g_bd, .int g_bp, .int g_fa, .int g_fp, .ref (g 6), .ref (g 7), .ref (g 8), .ref (g 9), .ref (g 10), .ref (g 11), .int g_lw, .int g_we, .int g_cu, .int g_go, .int g_ba, .ref (g 12), .ref (g 13), .int g_jo, .ref (g 14), .ref (g 15), .long g_bt, .int g_sb, .int g_ab, .int g_al, .ref (g 16), .ref (g 17)])), ((g 7), .inl (cI, 35, .inl hs)), ((g 8), .inl (cI, 75, .inl sp))] s.heap := hP
  refine lv_iconst (v := 0) hx hb dX9_stationsAll_0 (by decide) ?_
  refine lv_istore_n (lv' := [(1, .int 0), (0, .ref (g 0))]) hx hb dX9_stationsAll_1 rfl hl (by decide) rfl (fun ls hl => ?_)
  refine lv_iconst (v := 0) hx hb dX9_stationsAll_2 (by decide) ?_
  refine lv_istore_n (lv' := [(2, .int 0), (1, .int 0), (0, .ref (g 0))]) hx hb dX9_stationsAll_3 rfl hl (by decide) rfl (fun ls hl => ?_)
  have lp_23 : ∀ (d : Nat) (v_10 : Int32) (v_11 : Int32) (ls : Array Slot), ((0 ≤ Int32.toInt v_11)) → ((2147483647 - Int32.toInt v_11).toNat < d) → lv_has ls 3 [(2, .int v_11), (1, .int v_10), (0, .ref (g 0))] → W p l e (headSpec (wy yX9_stationsAll cX9_stationsAll 3 (some .int)) ({ frames := 3, cells := 0, slots := 0, locals := 120 })).room s m ([.ref (g 0)] : List Value).toArray below meth c s.heap [] 0 0 (MQ below (vp_Si (fun r => True)) ([.ref (g 0)] : List Value).toArray s 0 0 (fun _ => False)) (F0 m 4 ls []) := by
    intro d
    induction d with
    | zero => intro v_10 v_11  ls hI hM; exfalso; exact absurd hM (Nat.not_lt_zero _)
    | succ d ih_24 =>
      intro v_10 v_11 ls hI hM hl
      have hI_25 := hI
      refine lv_iload_n hx hb dX9_stationsAll_4 rfl (lv_at hl 0 rfl) ?_
      refine lv_aload_n hx hb dX9_stationsAll_5 rfl (lv_at hl 2 rfl) ?_
      have hPc := hP.sub (ws' := [((g 0), .inr (9, [.int g_th, .ref (g 1), .ref (g 2), .ref (g 3), .ref (g 4), .ref (g 5), .int g_tp, .int g_so, .int g_tk, .int g_pl, .int g_va, .long g_wo, .int g_bd, .int g_bp, .int g_fa, .int g_fp, .ref (g 6), .ref (g 7), .ref (g 8), .ref (g 9), .ref (g 10), .ref (g 11), .int g_lw, .int g_we, .int g_cu, .int g_go, .int g_ba, .ref (g 12), .ref (g 13), .int g_jo, .ref (g 14), .ref (g 15), .long g_bt, .int g_sb, .int g_ab, .int g_al, .ref (g 16), .ref (g 17)])), ((g 7), .inl (cI, 35, .inl hs))]) [0, 1] rfl
      refine vp_callSi (W.runV (As := []) (rest := [.int v_11]) ⟨hx, hb, hml, hown, ht⟩ (s_X9_spans l dC dI cB cI cJ cZ cL g g_th g_tp g_so g_tk g_pl g_va g_wo g_bd g_bp g_fa g_fp g_lw g_we g_cu g_go g_ba g_jo g_bt g_sb g_ab g_al hs) (cwV 0 ht (gV w_1521 w_1523 w_67 w_114 w_1524) rfl rfl rfl (by decide +kernel) ⟨Nat.le_of_ble_eq_true rfl, Nat.le_of_ble_eq_true rfl⟩) (pVSn hN hK hPc (ci := 9) (q0 := 0) rfl rfl) rfl rfl hl.1 rfl (lv_room (Nat.le_of_ble_eq_true rfl)) dX9_stationsAll_6 ⟨Nat.le_of_ble_eq_true rfl, Nat.le_of_ble_eq_true rfl⟩) (fun r_26 hw => ?_)
      clear hPc
      (try dsimp only at hw)
      have hw_27 := hw
      clear hw
      refine lv_icmp_ge (tgt := 36) hx hb dX9_stationsAll_9 (by decide) (fun c_28 => ?_) (fun c_28 => ?_)
      · (try simp only [i_lt, i_le, i_eq] at c_28)
        refine lv_iload_n hx hb dX9_stationsAll_36 rfl (lv_at hl 1 rfl) ?_
        exact W.iret (v := v_10) hx hb hr (fun t ht hW => ⟨v_10, rfl, trivial, ht⟩) (fun q h => absurd h List.not_mem_nil) dX9_stationsAll_37
      · (try simp only [i_lt, i_le, i_eq] at c_28)
        refine lv_iload_n hx hb dX9_stationsAll_12 rfl (lv_at hl 1 rfl) ?_
        refine lv_aload_n hx hb dX9_stationsAll_13 rfl (lv_at hl 2 rfl) ?_
        refine lv_iload_n hx hb dX9_stationsAll_14 rfl (lv_at hl 0 rfl) ?_
        have hPc := hP.sub (ws' := [((g 0), .inr (9, [.int g_th, .ref (g 1), .ref (g 2), .ref (g 3), .ref (g 4), .ref (g 5), .int g_tp, .int g_so, .int g_tk, .int g_pl, .int g_va, .long g_wo, .int g_bd, .int g_bp, .int g_fa, .int g_fp, .ref (g 6), .ref (g 7), .ref (g 8), .ref (g 9), .ref (g 10), .ref (g 11), .int g_lw, .int g_we, .int g_cu, .int g_go, .int g_ba, .ref (g 12), .ref (g 13), .int g_jo, .ref (g 14), .ref (g 15), .long g_bt, .int g_sb, .int g_ab, .int g_al, .ref (g 16), .ref (g 17)])), ((g 7), .inl (cI, 35, .inl hs)), ((g 8), .inl (cI, 75, .inl sp))]) [0, 1, 2] rfl
        refine vp_callSi (W.runV (As := [.int v_11]) (rest := [.int v_10]) ⟨hx, hb, hml, hown, ht⟩ (s_X9_isStation l dC dI cB cI cJ cZ cL g g_th g_tp g_so g_tk g_pl g_va g_wo g_bd g_bp g_fa g_fp g_lw g_we g_cu g_go g_ba g_jo g_bt g_sb g_ab g_al hs sp v_11 (by first | assumption | omega | decide | (simp only [T0, T1, T2, T3, Tm1]; omega))) (cwV 1 ht (gV w_1538 w_1540 w_70 w_114 w_1541) rfl rfl rfl (by decide +kernel) ⟨Nat.le_of_ble_eq_true rfl, Nat.le_of_ble_eq_true rfl⟩) (pVSn hN hK hPc (ci := 9) (q0 := 0) rfl rfl) rfl rfl hl.1 rfl (lv_room (Nat.le_of_ble_eq_true rfl)) dX9_stationsAll_15 ⟨Nat.le_of_ble_eq_true rfl, Nat.le_of_ble_eq_true rfl⟩) (fun r_29 hw => ?_)
        clear hPc
        (try dsimp only at hw)
        have hw_30 := hw
        clear hw
        rcases hw_30 with ⟨hw, c_31⟩ | hw
        · subst hw
          refine lv_if_eq (tgt := 27) hx hb dX9_stationsAll_18 (by decide) (fun c9 => by first | exact absurd c9 (by decide) | exact absurd (by decide) c9) (fun _ => ?_)
          refine lv_iconst (v := 1) hx hb dX9_stationsAll_21 (by decide) ?_
          refine lv_iload_n hx hb dX9_stationsAll_22 rfl (lv_at hl 0 rfl) ?_
          refine lv_ishl hx hb dX9_stationsAll_23 ?_
          refine lv_topi (fun y_32 ey_32 => ?_)
          have ty_32 := shl1F ey_32
          clear ey_32
          refine lv_goto (tgt := 28) hx hb dX9_stationsAll_24 (by decide) ?_
          refine lv_ior hx hb dX9_stationsAll_28 ?_
          refine lv_topi (fun y_33 ey_33 => ?_)
          clear ey_33
          refine lv_istore_n (lv' := [(1, .int y_33), (2, .int v_11), (0, .ref (g 0))]) hx hb dX9_stationsAll_29 rfl hl (by decide) rfl (fun ls hl => ?_)
          obtain ⟨y_34, ey_34⟩ : ∃ z : Int32, z = v_11 + 1 := ⟨_, rfl⟩
          have ty_34 := iaddF ey_34
          simp only [T1] at ty_34
          refine lv_iinc (v := y_34) (lv' := [(2, .int y_34), (1, .int y_33), (0, .ref (g 0))]) hx hb dX9_stationsAll_30 hl (k := 1) rfl (by rw [ey_34]; rfl) (by decide) rfl (fun ls hl => ?_)
          clear ey_34
          refine lv_goto (tgt := 4) hx hb dX9_stationsAll_33 (by decide) ?_
          exact ih_24 y_33 y_34 _ (by first | omega | assumption | decide | exact LK_0 | exact OM_0 | exact CE_0 | exact SZI_0 | exact CLR_0 | exact CP_0 | exact PV_0 | exact BV_0 (by assumption) (by omega) (by omega) | exact LK_mono (by assumption) (by omega) | exact OM_mono (by assumption) (by omega) | exact CE_mono (by assumption) (by omega) | exact CLR_mono (by assumption) (by omega) | exact CP_mono (by assumption) (by omega) | (have e0 := T0; have e1 := T1; have e2 := T2; have em1 := Tm1; omega)) (by omega) (lv_sub hl [0, 1, 2] rfl)
        · subst hw
          refine lv_if_eq (tgt := 27) hx hb dX9_stationsAll_18 (by decide) (fun _ => ?_) (fun c9 => by first | exact absurd (by decide) c9 | exact absurd c9 (by decide))
          refine lv_iconst (v := 0) hx hb dX9_stationsAll_27 (by decide) ?_
          refine lv_ior hx hb dX9_stationsAll_28 ?_
          refine lv_topi (fun y_35 ey_35 => ?_)
          clear ey_35
          refine lv_istore_n (lv' := [(1, .int y_35), (2, .int v_11), (0, .ref (g 0))]) hx hb dX9_stationsAll_29 rfl hl (by decide) rfl (fun ls hl => ?_)
          obtain ⟨y_36, ey_36⟩ : ∃ z : Int32, z = v_11 + 1 := ⟨_, rfl⟩
          have ty_36 := iaddF ey_36
          simp only [T1] at ty_36
          refine lv_iinc (v := y_36) (lv' := [(2, .int y_36), (1, .int y_35), (0, .ref (g 0))]) hx hb dX9_stationsAll_30 hl (k := 1) rfl (by rw [ey_36]; rfl) (by decide) rfl (fun ls hl => ?_)
          clear ey_36
          refine lv_goto (tgt := 4) hx hb dX9_stationsAll_33 (by decide) ?_
          exact ih_24 y_35 y_36 _ (by first | omega | assumption | decide | exact LK_0 | exact OM_0 | exact CE_0 | exact SZI_0 | exact CLR_0 | exact CP_0 | exact PV_0 | exact BV_0 (by assumption) (by omega) (by omega) | exact LK_mono (by assumption) (by omega) | exact OM_mono (by assumption) (by omega) | exact CE_mono (by assumption) (by omega) | exact CLR_mono (by assumption) (by omega) | exact CP_mono (by assumption) (by omega) | (have e0 := T0; have e1 := T1; have e2 := T2; have em1 := Tm1; omega)) (by omega) (lv_sub hl [0, 1, 2] rfl)
  exact lp_23 _ 0 0 _ (by first | omega | assumption | decide | exact LK_0 | exact OM_0 | exact CE_0 | exact SZI_0 | exact CLR_0 | exact CP_0 | exact PV_0 | exact BV_0 (by assumption) (by omega) (by omega) | exact LK_mono (by assumption) (by omega) | exact OM_mono (by assumption) (by omega) | exact CE_mono (by assumption) (by omega) | exact CLR_mono (by assumption) (by omega) | exact CP_mono (by assumption) (by omega) | (have e0 := T0; have e1 := T1; have e2 := T2; have em1 := Tm1; omega)) (Nat.lt_succ_self _) (lv_sub hl [0, 1, 2] rfl)
set_option maxHeartbeats 8000000 in
set_option maxRecDepth 100000 in
theorem s_X9_sumNow (l : Launch) (dC : Nat → ClassId) (dI : Nat → Nat → Nat) (cB cI cJ cZ cL : ClassId) (sz : Nat) (g : Nat → Nat) (g_th : Int32) (g_tp : Int32) (g_so : Int32) (g_tk : Int32) (g_pl : Int32) (g_va : Int32) (g_wo : Int64) (g_bd : Int32) (g_bp : Int32) (g_fa : Int32) (g_fp : Int32) (g_lw : Int32) (g_we : Int32) (g_cu : Int32) (g_go : Int32) (g_ba : Int32) (g_jo : Int32) (g_bt : Int64) (g_sb : Int32) (g_ab : Int32) (g_al : Int32) (hs : Nat → Int32) (sp : Nat → Int32) (ac : Nat → Int32) (om : Nat → Int32) (lk : Nat → Int32) (pa : Nat → Int64) (fl : Nat → Int64)  (h0 : 0 ≤ Int32.toInt (hs 0) ∧ Int32.toInt (hs 0) ≤ 13) (h4 : 0 ≤ Int32.toInt (hs 4) ∧ Int32.toInt (hs 4) ≤ 5) (h6 : 0 ≤ Int32.toInt (hs 6) ∧ Int32.toInt (hs 6) ≤ 30) (hlk : LK (Int32.toInt (hs 4)) lk) (hom : OM (Int32.toInt (hs 4)) om) : Met l yX9_sumNow (wy yX9_sumNow cX9_sumNow 3 (some .int)) ({ frames := 5, cells := 0, slots := 0, locals := 200 }) (va_Pc [.ref (g 0)] (fun U => U.heap.size = sz ∧ va_P (dC, dI) vwCl [((g 0), .inr (9, [.int g_th, .ref (g 1), .ref (g 2), .ref (g 3), .ref (g 4), .ref (g 5), .int g_tp, .int g_so, .int g_tk, .int g_pl, .int g_va, .long g_wo, .int g_bd, .int g_bp, .int g_fa, .int g_fp, .ref (g 6), .ref (g 7), .ref (g 8), .ref (g 9), .ref (g 10), .ref (g 11), .int g_lw, .int g_we, .int g_cu, .int g_go, .int g_ba, .ref (g 12), .ref (g 13), .int g_jo, .ref (g 14), .ref (g 15), .long g_bt, .int g_sb, .int g_ab, .int g_al, .ref (g 16), .ref (g 17)])), ((g 7), .inl (cI, 35, .inl hs)), ((g 8), .inl (cI, 75, .inl sp)), ((g 10), .inl (cI, 450, .inl ac)), ((g 12), .inl (cI, 5, .inl om)), ((g 13), .inl (cI, 5, .inl lk)), ((g 14), .inl (cJ, 6, .inr (.inl pa))), ((g 15), .inl (cJ, 5, .inr (.inl fl)))] U.heap ∧ va_K (dC, dI) vwCl (tyL cB cI cJ cZ cL) U ∧ va_D (fun _ => True) [((g 0), .inr (9, [.int g_th, .ref (g 1), .ref (g 2), .ref (g 3), .ref (g 4), .ref (g 5), .int g_tp, .int g_so, .int g_tk, .int g_pl, .int g_va, .long g_wo, .int g_bd, .int g_bp, .int g_fa, .int g_fp, .ref (g 6), .ref (g 7), .ref (g 8), .ref (g 9), .ref (g 10), .ref (g 11), .int g_lw, .int g_we, .int g_cu, .int g_go, .int g_ba, .ref (g 12), .ref (g 13), .int g_jo, .ref (g 14), .ref (g 15), .long g_bt, .int g_sb, .int g_ab, .int g_al, .ref (g 16), .ref (g 17)])), ((g 7), .inl (cI, 35, .inl hs)), ((g 8), .inl (cI, 75, .inl sp)), ((g 10), .inl (cI, 450, .inl ac)), ((g 12), .inl (cI, 5, .inl om)), ((g 13), .inl (cI, 5, .inl lk)), ((g 14), .inl (cJ, 6, .inr (.inl pa))), ((g 15), .inl (cJ, 5, .inr (.inl fl)))] ∧ NW U)) (va_Qi (fun r u => True) (fun (u : (Int32) × (Int64) × (Nat → Int64) × (Nat → Int64)) t => va_P (dC, dI) vwCl [((g 0), .inr (9, [.int g_th, .ref (g 1), .ref (g 2), .ref (g 3), .ref (g 4), .ref (g 5), .int g_tp, .int g_so, .int g_tk, .int g_pl, .int g_va, .long g_wo, .int g_bd, .int g_bp, .int g_fa, .int g_fp, .ref (g 6), .ref (g 7), .ref (g 8), .ref (g 9), .ref (g 10), .ref (g 11), .int g_lw, .int g_we, .int g_cu, .int g_go, .int g_ba, .ref (g 12), .ref (g 13), .int u.1, .ref (g 14), .ref (g 15), .long u.2.1, .int g_sb, .int g_ab, .int g_al, .ref (g 16), .ref (g 17)])), ((g 7), .inl (cI, 35, .inl hs)), ((g 8), .inl (cI, 75, .inl sp)), ((g 10), .inl (cI, 450, .inl ac)), ((g 12), .inl (cI, 5, .inl om)), ((g 13), .inl (cI, 5, .inl lk)), ((g 14), .inl (cJ, 6, .inr (.inl u.2.2.1))), ((g 15), .inl (cJ, 5, .inr (.inl u.2.2.2)))] t.heap ∧ va_D (va_A [((g 0), .inr (9, [.int g_th, .ref (g 1), .ref (g 2), .ref (g 3), .ref (g 4), .ref (g 5), .int g_tp, .int g_so, .int g_tk, .int g_pl, .int g_va, .long g_wo, .int g_bd, .int g_bp, .int g_fa, .int g_fp, .ref (g 6), .ref (g 7), .ref (g 8), .ref (g 9), .ref (g 10), .ref (g 11), .int g_lw, .int g_we, .int g_cu, .int g_go, .int g_ba, .ref (g 12), .ref (g 13), .int g_jo, .ref (g 14), .ref (g 15), .long g_bt, .int g_sb, .int g_ab, .int g_al, .ref (g 16), .ref (g 17)])), ((g 7), .inl (cI, 35, .inl hs)), ((g 8), .inl (cI, 75, .inl sp)), ((g 10), .inl (cI, 450, .inl ac)), ((g 12), .inl (cI, 5, .inl om)), ((g 13), .inl (cI, 5, .inl lk)), ((g 14), .inl (cJ, 6, .inr (.inl pa))), ((g 15), .inl (cJ, 5, .inr (.inl fl)))] sz) [((g 0), .inr (9, [.int g_th, .ref (g 1), .ref (g 2), .ref (g 3), .ref (g 4), .ref (g 5), .int g_tp, .int g_so, .int g_tk, .int g_pl, .int g_va, .long g_wo, .int g_bd, .int g_bp, .int g_fa, .int g_fp, .ref (g 6), .ref (g 7), .ref (g 8), .ref (g 9), .ref (g 10), .ref (g 11), .int g_lw, .int g_we, .int g_cu, .int g_go, .int g_ba, .ref (g 12), .ref (g 13), .int u.1, .ref (g 14), .ref (g 15), .long u.2.1, .int g_sb, .int g_ab, .int g_al, .ref (g 16), .ref (g 17)])), ((g 7), .inl (cI, 35, .inl hs)), ((g 8), .inl (cI, 75, .inl sp)), ((g 10), .inl (cI, 450, .inl ac)), ((g 12), .inl (cI, 5, .inl om)), ((g 13), .inl (cI, 5, .inl lk)), ((g 14), .inl (cJ, 6, .inr (.inl u.2.2.1))), ((g 15), .inl (cJ, 5, .inr (.inl u.2.2.2)))]) (va_A [((g 0), .inr (9, [.int g_th, .ref (g 1), .ref (g 2), .ref (g 3), .ref (g 4), .ref (g 5), .int g_tp, .int g_so, .int g_tk, .int g_pl, .int g_va, .long g_wo, .int g_bd, .int g_bp, .int g_fa, .int g_fp, .ref (g 6), .ref (g 7), .ref (g 8), .ref (g 9), .ref (g 10), .ref (g 11), .int g_lw, .int g_we, .int g_cu, .int g_go, .int g_ba, .ref (g 12), .ref (g 13), .int g_jo, .ref (g 14), .ref (g 15), .long g_bt, .int g_sb, .int g_ab, .int g_al, .ref (g 16), .ref (g 17)])), ((g 7), .inl (cI, 35, .inl hs)), ((g 8), .inl (cI, 75, .inl sp)), ((g 10), .inl (cI, 450, .inl ac)), ((g 12), .inl (cI, 5, .inl om)), ((g 13), .inl (cI, 5, .inl lk)), ((g 14), .inl (cJ, 6, .inr (.inl pa))), ((g 15), .inl (cJ, 5, .inr (.inl fl)))] sz)) 0 0 (va_A [((g 0), .inr (9, [.int g_th, .ref (g 1), .ref (g 2), .ref (g 3), .ref (g 4), .ref (g 5), .int g_tp, .int g_so, .int g_tk, .int g_pl, .int g_va, .long g_wo, .int g_bd, .int g_bp, .int g_fa, .int g_fp, .ref (g 6), .ref (g 7), .ref (g 8), .ref (g 9), .ref (g 10), .ref (g 11), .int g_lw, .int g_we, .int g_cu, .int g_go, .int g_ba, .ref (g 12), .ref (g 13), .int g_jo, .ref (g 14), .ref (g 15), .long g_bt, .int g_sb, .int g_ab, .int g_al, .ref (g 16), .ref (g 17)])), ((g 7), .inl (cI, 35, .inl hs)), ((g 8), .inl (cI, 75, .inl sp)), ((g 10), .inl (cI, 450, .inl ac)), ((g 12), .inl (cI, 5, .inl om)), ((g 13), .inl (cI, 5, .inl lk)), ((g 14), .inl (cJ, 6, .inr (.inl pa))), ((g 15), .inl (cJ, 5, .inr (.inl fl)))] sz) := by
  refine Met.ofW (cc := cX9_sumNow) (maxL := 3) (ret := (some .int)) (by decide) rfl ?_
  intro p e s m args below meth c s₁ B hml hv
  obtain ⟨rfl, hsz, hP, hK, hD0, hN⟩ := hv
  have hx := B.exec
  have hb := B.bytes
  have hr := B.returns
  have ht : ∀ w ∈ lw_ok, w.before _ s = true := fun w h => atoms_spec (ws := wy yX9_sumNow cX9_sumNow 3 (some .int)) B.pre w (List.mem_cons_of_mem _ h)
  have hown : s.vm.findClass RX9 = some m.cls := findClass_of_methodNamed B.named
  have hlocks := B.notSynchronized
  subst hsz
  have hD := hD0.self (sz := s.heap.size)
  generalize hAe : va_A [((g 0), .inr (9, [.int g_th, .ref (g 1), .ref (g 2), .ref (g 3), .ref (g 4), .ref (g 5), .int g_tp, .int g_so, .int g_tk, .int g_pl, .int g_va, .long g_wo, .int g_bd, .int g_bp, .int g_fa, .int g_fp, .ref (g 6), .ref (g 7), .ref (g 8), .ref (g 9), .ref (g 10), .ref (g 11), .int g_lw, .int g_we, .int g_cu, .int g_go, .int g_ba, .ref (g 12), .ref (g 13), .int g_jo, .ref (g 14), .ref (g 15), .long g_bt, .int g_sb, .int g_ab, .int g_al, .ref (g 16), .ref (g 17)])), ((g 7), .inl (cI, 35, .inl hs)), ((g 8), .inl (cI, 75, .inl sp)), ((g 10), .inl (cI, 450, .inl ac)), ((g 12), .inl (cI, 5, .inl om)), ((g 13), .inl (cI, 5, .inl lk)), ((g 14), .inl (cJ, 6, .inr (.inl pa))), ((g 15), .inl (cJ, 5, .inr (.inl fl)))] s.heap.size = A at hD ⊢
  have hA : ∀ q : Nat, s.heap.size ≤ q → A q := fun q h => by rw [← hAe]; exact Or.inr h
  have hS : va_S A s.heap s.heap [] := va_S.rf
  clear hAe hD0
  have hl := lv_entry ([.ref (g 0)]) (n := 3) (Nat.le_of_ble_eq_true rfl)
  rw [lg_entry_eq]
  generalize (lg_sl ([.ref (g 0)]) ++ List.replicate (3 - (lg_sl ([.ref (g 0)])).length) Slot.unset).toArray = ls at hl ⊢
  have hl : lv_has ls 3 [(0, .ref (g 0))] := hl
  have hP : va_P (dC, dI) vwCl [((g 0), .inr (9, [.int g_th, .ref (g 1), .ref (g 2), .ref (g 3), .ref (g 4), .ref (g 5), .int g_tp, .int g_so, .int g_tk, .int g_pl, .int g_va, .long g_wo, .int g_bd, .int g_bp, .int g_fa, .int g_fp, .ref (g 6), .ref (g 7), .ref (g 8), .ref (g 9), .ref (g 10), .ref (g 11), .int g_lw, .int g_we, .int g_cu, .int g_go, .int g_ba, .ref (g 12), .ref (g 13), .int g_jo, .ref (g 14), .ref (g 15), .long g_bt, .int g_sb, .int g_ab, .int g_al, .ref (g 16), .ref (g 17)])), ((g 7), .inl (cI, 35, .inl hs)), ((g 8), .inl (cI, 75, .inl sp)), ((g 10), .inl (cI, 450, .inl ac)), ((g 12), .inl (cI, 5, .inl om)), ((g 13), .inl (cI, 5, .inl lk)), ((g 14), .inl (cJ, 6, .inr (.inl pa))), ((g 15), .inl (cJ, 5, .inr (.inl fl)))] s.heap := hP
  have hD : va_D A [((g 0), .inr (9, [.int g_th, .ref (g 1), .ref (g 2), .ref (g 3), .ref (g 4), .ref (g 5), .int g_tp, .int g_so, .int g_tk, .int g_pl, .int g_va, .long g_wo, .int g_bd, .int g_bp, .int g_fa, .int g_fp, .ref (g 6), .ref (g 7), .ref (g 8), .ref (g 9), .ref (g 10), .ref (g 11), .int g_lw, .int g_we, .int g_cu, .int g_go, .int g_ba, .ref (g 12), .ref (g 13), .int g_jo, .ref (g 14), .ref (g 15), .long g_bt, .int g_sb, .int g_ab, .int g_al, .ref (g 16), .ref (g 17)])), ((g 7), .inl (cI, 35, .inl hs)), ((g 8), .inl (cI, 75, .inl sp)), ((g 10), .inl (cI, 450, .inl ac)), ((g 12), .inl (cI, 5, .inl om)), ((g 13), .inl (cI, 5, .inl lk)), ((g 14), .inl (cJ, 6, .inr (.inl pa))), ((g 15), .inl (cJ, 5, .inr (.inl fl)))] := hD
  refine lv_iconst (v := 0) hx hb dX9_sumNow_0 (by decide) ?_
  refine lv_istore_n (lv' := [(1, .int 0), (0, .ref (g 0))]) hx hb dX9_sumNow_1 rfl hl (by decide) rfl (fun ls hl => ?_)
  refine lv_iconst (v := 0) hx hb dX9_sumNow_2 (by decide) ?_
  refine lv_istore_n (lv' := [(2, .int 0), (1, .int 0), (0, .ref (g 0))]) hx hb dX9_sumNow_3 rfl hl (by decide) rfl (fun ls hl => ?_)
  have lp_34 : ∀ (d : Nat) (v_14 : Int32) (v_15 : Int32) (wv_16 : Int32) (wv_17 : Int64) (wv_18 : Nat → Int64) (wv_19 : Nat → Int64) (H : Heap) (locs : List Loc) (ls : Array Slot), ((0 ≤ Int32.toInt v_15)) → ((2147483647 - Int32.toInt v_15).toNat < d) → va_P (dC, dI) vwCl [((g 0), .inr (9, [.int g_th, .ref (g 1), .ref (g 2), .ref (g 3), .ref (g 4), .ref (g 5), .int g_tp, .int g_so, .int g_tk, .int g_pl, .int g_va, .long g_wo, .int g_bd, .int g_bp, .int g_fa, .int g_fp, .ref (g 6), .ref (g 7), .ref (g 8), .ref (g 9), .ref (g 10), .ref (g 11), .int g_lw, .int g_we, .int g_cu, .int g_go, .int g_ba, .ref (g 12), .ref (g 13), .int wv_16, .ref (g 14), .ref (g 15), .long wv_17, .int g_sb, .int g_ab, .int g_al, .ref (g 16), .ref (g 17)])), ((g 7), .inl (cI, 35, .inl hs)), ((g 8), .inl (cI, 75, .inl sp)), ((g 10), .inl (cI, 450, .inl ac)), ((g 12), .inl (cI, 5, .inl om)), ((g 13), .inl (cI, 5, .inl lk)), ((g 14), .inl (cJ, 6, .inr (.inl wv_18))), ((g 15), .inl (cJ, 5, .inr (.inl wv_19)))] H → va_D A [((g 0), .inr (9, [.int g_th, .ref (g 1), .ref (g 2), .ref (g 3), .ref (g 4), .ref (g 5), .int g_tp, .int g_so, .int g_tk, .int g_pl, .int g_va, .long g_wo, .int g_bd, .int g_bp, .int g_fa, .int g_fp, .ref (g 6), .ref (g 7), .ref (g 8), .ref (g 9), .ref (g 10), .ref (g 11), .int g_lw, .int g_we, .int g_cu, .int g_go, .int g_ba, .ref (g 12), .ref (g 13), .int wv_16, .ref (g 14), .ref (g 15), .long wv_17, .int g_sb, .int g_ab, .int g_al, .ref (g 16), .ref (g 17)])), ((g 7), .inl (cI, 35, .inl hs)), ((g 8), .inl (cI, 75, .inl sp)), ((g 10), .inl (cI, 450, .inl ac)), ((g 12), .inl (cI, 5, .inl om)), ((g 13), .inl (cI, 5, .inl lk)), ((g 14), .inl (cJ, 6, .inr (.inl wv_18))), ((g 15), .inl (cJ, 5, .inr (.inl wv_19)))] → va_S A s.heap H locs → lv_has ls 3 [(2, .int v_15), (1, .int v_14), (0, .ref (g 0))] → W p l e (headSpec (wy yX9_sumNow cX9_sumNow 3 (some .int)) ({ frames := 5, cells := 0, slots := 0, locals := 200 })).room s m ([.ref (g 0)] : List Value).toArray below meth c H locs 0 0 (MQ below (va_Qi (fun r u => True) (fun (u : (Int32) × (Int64) × (Nat → Int64) × (Nat → Int64)) t => va_P (dC, dI) vwCl [((g 0), .inr (9, [.int g_th, .ref (g 1), .ref (g 2), .ref (g 3), .ref (g 4), .ref (g 5), .int g_tp, .int g_so, .int g_tk, .int g_pl, .int g_va, .long g_wo, .int g_bd, .int g_bp, .int g_fa, .int g_fp, .ref (g 6), .ref (g 7), .ref (g 8), .ref (g 9), .ref (g 10), .ref (g 11), .int g_lw, .int g_we, .int g_cu, .int g_go, .int g_ba, .ref (g 12), .ref (g 13), .int u.1, .ref (g 14), .ref (g 15), .long u.2.1, .int g_sb, .int g_ab, .int g_al, .ref (g 16), .ref (g 17)])), ((g 7), .inl (cI, 35, .inl hs)), ((g 8), .inl (cI, 75, .inl sp)), ((g 10), .inl (cI, 450, .inl ac)), ((g 12), .inl (cI, 5, .inl om)), ((g 13), .inl (cI, 5, .inl lk)), ((g 14), .inl (cJ, 6, .inr (.inl u.2.2.1))), ((g 15), .inl (cJ, 5, .inr (.inl u.2.2.2)))] t.heap ∧ va_D A [((g 0), .inr (9, [.int g_th, .ref (g 1), .ref (g 2), .ref (g 3), .ref (g 4), .ref (g 5), .int g_tp, .int g_so, .int g_tk, .int g_pl, .int g_va, .long g_wo, .int g_bd, .int g_bp, .int g_fa, .int g_fp, .ref (g 6), .ref (g 7), .ref (g 8), .ref (g 9), .ref (g 10), .ref (g 11), .int g_lw, .int g_we, .int g_cu, .int g_go, .int g_ba, .ref (g 12), .ref (g 13), .int u.1, .ref (g 14), .ref (g 15), .long u.2.1, .int g_sb, .int g_ab, .int g_al, .ref (g 16), .ref (g 17)])), ((g 7), .inl (cI, 35, .inl hs)), ((g 8), .inl (cI, 75, .inl sp)), ((g 10), .inl (cI, 450, .inl ac)), ((g 12), .inl (cI, 5, .inl om)), ((g 13), .inl (cI, 5, .inl lk)), ((g 14), .inl (cJ, 6, .inr (.inl u.2.2.1))), ((g 15), .inl (cJ, 5, .inr (.inl u.2.2.2)))]) A) ([.ref (g 0)] : List Value).toArray s 0 0 A) (F0 m 4 ls []) := by
    intro d
    induction d with
    | zero => intro v_14 v_15 wv_16 wv_17 wv_18 wv_19 H locs ls hI hM; exfalso; exact absurd hM (Nat.not_lt_zero _)
    | succ d ih_35 =>
      intro v_14 v_15 wv_16 wv_17 wv_18 wv_19 H locs ls hI hM hP hD hS hl
      have hI_36 := hI
      refine lv_iload_n hx hb dX9_sumNow_4 rfl (lv_at hl 0 rfl) ?_
      refine lv_aload_n hx hb dX9_sumNow_5 rfl (lv_at hl 2 rfl) ?_
      have hPc := hP.sub (ws' := [((g 0), .inr (9, [.int g_th, .ref (g 1), .ref (g 2), .ref (g 3), .ref (g 4), .ref (g 5), .int g_tp, .int g_so, .int g_tk, .int g_pl, .int g_va, .long g_wo, .int g_bd, .int g_bp, .int g_fa, .int g_fp, .ref (g 6), .ref (g 7), .ref (g 8), .ref (g 9), .ref (g 10), .ref (g 11), .int g_lw, .int g_we, .int g_cu, .int g_go, .int g_ba, .ref (g 12), .ref (g 13), .int wv_16, .ref (g 14), .ref (g 15), .long wv_17, .int g_sb, .int g_ab, .int g_al, .ref (g 16), .ref (g 17)])), ((g 7), .inl (cI, 35, .inl hs))]) [0, 1] rfl
      refine vp_callSi (W.runV (As := []) (rest := [.int v_15]) ⟨hx, hb, hml, hown, ht⟩ (s_X9_days l dC dI cB cI cJ cZ cL g g_th g_tp g_so g_tk g_pl g_va g_wo g_bd g_bp g_fa g_fp g_lw g_we g_cu g_go g_ba wv_16 wv_17 g_sb g_ab g_al hs) (cwV 0 ht (gV w_1550 w_1552 w_72 w_114 w_1553) rfl rfl rfl (by decide +kernel) ⟨Nat.le_of_ble_eq_true rfl, Nat.le_of_ble_eq_true rfl⟩) (pVSn hN hK hPc (ci := 9) (q0 := 0) rfl rfl) rfl rfl hl.1 rfl (lv_room (Nat.le_of_ble_eq_true rfl)) dX9_sumNow_6 ⟨Nat.le_of_ble_eq_true rfl, Nat.le_of_ble_eq_true rfl⟩) (fun r_37 hw => ?_)
      clear hPc
      (try dsimp only at hw)
      have hw_38 := hw
      clear hw
      refine lv_icmp_gt (tgt := 29) hx hb dX9_sumNow_9 (by decide) (fun c_39 => ?_) (fun c_39 => ?_)
      · (try simp only [i_lt, i_le, i_eq] at c_39)
        refine lv_iload_n hx hb dX9_sumNow_29 rfl (lv_at hl 1 rfl) ?_
        have hP9 := hP.sub (ws' := [((g 0), .inr (9, [.int g_th, .ref (g 1), .ref (g 2), .ref (g 3), .ref (g 4), .ref (g 5), .int g_tp, .int g_so, .int g_tk, .int g_pl, .int g_va, .long g_wo, .int g_bd, .int g_bp, .int g_fa, .int g_fp, .ref (g 6), .ref (g 7), .ref (g 8), .ref (g 9), .ref (g 10), .ref (g 11), .int g_lw, .int g_we, .int g_cu, .int g_go, .int g_ba, .ref (g 12), .ref (g 13), .int wv_16, .ref (g 14), .ref (g 15), .long wv_17, .int g_sb, .int g_ab, .int g_al, .ref (g 16), .ref (g 17)])), ((g 7), .inl (cI, 35, .inl hs)), ((g 8), .inl (cI, 75, .inl sp)), ((g 10), .inl (cI, 450, .inl ac)), ((g 12), .inl (cI, 5, .inl om)), ((g 13), .inl (cI, 5, .inl lk)), ((g 14), .inl (cJ, 6, .inr (.inl wv_18))), ((g 15), .inl (cJ, 5, .inr (.inl wv_19)))]) [0, 1, 2, 3, 4, 5, 6, 7] rfl
        have hD9 := hD.sub (ws' := [((g 0), .inr (9, [.int g_th, .ref (g 1), .ref (g 2), .ref (g 3), .ref (g 4), .ref (g 5), .int g_tp, .int g_so, .int g_tk, .int g_pl, .int g_va, .long g_wo, .int g_bd, .int g_bp, .int g_fa, .int g_fp, .ref (g 6), .ref (g 7), .ref (g 8), .ref (g 9), .ref (g 10), .ref (g 11), .int g_lw, .int g_we, .int g_cu, .int g_go, .int g_ba, .ref (g 12), .ref (g 13), .int wv_16, .ref (g 14), .ref (g 15), .long wv_17, .int g_sb, .int g_ab, .int g_al, .ref (g 16), .ref (g 17)])), ((g 7), .inl (cI, 35, .inl hs)), ((g 8), .inl (cI, 75, .inl sp)), ((g 10), .inl (cI, 450, .inl ac)), ((g 12), .inl (cI, 5, .inl om)), ((g 13), .inl (cI, 5, .inl lk)), ((g 14), .inl (cJ, 6, .inr (.inl wv_18))), ((g 15), .inl (cJ, 5, .inr (.inl wv_19)))]) [0, 1, 2, 3, 4, 5, 6, 7] (by decide) rfl
        exact W.iret (v := v_14) hx hb hr (fun t ht hW => ⟨⟨v_14, (wv_16, wv_17, wv_18, wv_19), rfl, trivial, ⟨by rw [ht]; exact hP9, hD9⟩⟩, hS.F ht⟩) hS.2.2 dX9_sumNow_30
      · (try simp only [i_lt, i_le, i_eq] at c_39)
        refine lv_iload_n hx hb dX9_sumNow_12 rfl (lv_at hl 1 rfl) ?_
        refine lv_aload_n hx hb dX9_sumNow_13 rfl (lv_at hl 2 rfl) ?_
        refine lv_iload_n hx hb dX9_sumNow_14 rfl (lv_at hl 0 rfl) ?_
        have hPc := hP.sub (ws' := [((g 0), .inr (9, [.int g_th, .ref (g 1), .ref (g 2), .ref (g 3), .ref (g 4), .ref (g 5), .int g_tp, .int g_so, .int g_tk, .int g_pl, .int g_va, .long g_wo, .int g_bd, .int g_bp, .int g_fa, .int g_fp, .ref (g 6), .ref (g 7), .ref (g 8), .ref (g 9), .ref (g 10), .ref (g 11), .int g_lw, .int g_we, .int g_cu, .int g_go, .int g_ba, .ref (g 12), .ref (g 13), .int wv_16, .ref (g 14), .ref (g 15), .long wv_17, .int g_sb, .int g_ab, .int g_al, .ref (g 16), .ref (g 17)])), ((g 7), .inl (cI, 35, .inl hs)), ((g 8), .inl (cI, 75, .inl sp)), ((g 10), .inl (cI, 450, .inl ac)), ((g 12), .inl (cI, 5, .inl om)), ((g 13), .inl (cI, 5, .inl lk)), ((g 14), .inl (cJ, 6, .inr (.inl wv_18))), ((g 15), .inl (cJ, 5, .inr (.inl wv_19)))]) [0, 1, 2, 3, 4, 5, 6, 7] rfl
        have hDc := hD.sub (ws' := [((g 0), .inr (9, [.int g_th, .ref (g 1), .ref (g 2), .ref (g 3), .ref (g 4), .ref (g 5), .int g_tp, .int g_so, .int g_tk, .int g_pl, .int g_va, .long g_wo, .int g_bd, .int g_bp, .int g_fa, .int g_fp, .ref (g 6), .ref (g 7), .ref (g 8), .ref (g 9), .ref (g 10), .ref (g 11), .int g_lw, .int g_we, .int g_cu, .int g_go, .int g_ba, .ref (g 12), .ref (g 13), .int wv_16, .ref (g 14), .ref (g 15), .long wv_17, .int g_sb, .int g_ab, .int g_al, .ref (g 16), .ref (g 17)])), ((g 7), .inl (cI, 35, .inl hs)), ((g 8), .inl (cI, 75, .inl sp)), ((g 10), .inl (cI, 450, .inl ac)), ((g 12), .inl (cI, 5, .inl om)), ((g 13), .inl (cI, 5, .inl lk)), ((g 14), .inl (cJ, 6, .inr (.inl wv_18))), ((g 15), .inl (cJ, 5, .inr (.inl wv_19)))]) [0, 1, 2, 3, 4, 5, 6, 7] (by decide) rfl
        have hFc := va_free (wc := [((g 0), .inr (9, [.int g_th, .ref (g 1), .ref (g 2), .ref (g 3), .ref (g 4), .ref (g 5), .int g_tp, .int g_so, .int g_tk, .int g_pl, .int g_va, .long g_wo, .int g_bd, .int g_bp, .int g_fa, .int g_fp, .ref (g 6), .ref (g 7), .ref (g 8), .ref (g 9), .ref (g 10), .ref (g 11), .int g_lw, .int g_we, .int g_cu, .int g_go, .int g_ba, .ref (g 12), .ref (g 13), .int wv_16, .ref (g 14), .ref (g 15), .long wv_17, .int g_sb, .int g_ab, .int g_al, .ref (g 16), .ref (g 17)])), ((g 7), .inl (cI, 35, .inl hs)), ((g 8), .inl (cI, 75, .inl sp)), ((g 10), .inl (cI, 450, .inl ac)), ((g 12), .inl (cI, 5, .inl om)), ((g 13), .inl (cI, 5, .inl lk)), ((g 14), .inl (cJ, 6, .inr (.inl wv_18))), ((g 15), .inl (cJ, 5, .inr (.inl wv_19)))]) hD hS hA [0, 1, 2, 3, 4, 5, 6, 7] rfl
        refine va_calli (va_runV (As := [.int v_15]) (rest := [.int v_14]) ⟨hx, hb, hml, hown, ht⟩ (s_X9_hearsOn l dC dI cB cI cJ cZ cL H.size g g_th g_tp g_so g_tk g_pl g_va g_wo g_bd g_bp g_fa g_fp g_lw g_we g_cu g_go g_ba wv_16 wv_17 g_sb g_ab g_al hs sp ac om lk wv_18 wv_19 v_15 (by first | assumption | omega | decide | (simp only [T0, T1, T2, T3, Tm1]; omega)) (by first | assumption | omega | decide | (simp only [T0, T1, T2, T3, Tm1]; omega)) (by first | assumption | omega | decide | (simp only [T0, T1, T2, T3, Tm1]; omega)) (by first | assumption | omega | decide | (simp only [T0, T1, T2, T3, Tm1]; omega)) (by first | assumption | omega | decide | (simp only [T0, T1, T2, T3, Tm1]; omega))) (cwV 1 ht (gV w_1634 w_1636 w_79 w_114 w_1637) rfl rfl rfl (by decide +kernel) ⟨Nat.le_of_ble_eq_true rfl, Nat.le_of_ble_eq_true rfl⟩) (pVQn hN hK hPc hDc (ci := 9) (q0 := 0) rfl rfl) rfl rfl hl.1 rfl (lv_room (Nat.le_of_ble_eq_true rfl)) dX9_sumNow_15 ⟨Nat.le_of_ble_eq_true rfl, Nat.le_of_ble_eq_true rfl⟩) hS (fun q _ h => hFc q h) hFc (fun r_40 u_41 t1 H1 locs ht1 hvm hw hB hz1 hk1 hS => ?_)
        obtain ⟨z_42, z_43, z_44, z_45⟩ := u_41
        obtain ⟨hP1, hD1⟩ := hB
        rw [ht1] at hP1
        obtain ⟨hP, hD⟩ := va_join (wr := []) (w1 := [((g 0), .inr (9, [.int g_th, .ref (g 1), .ref (g 2), .ref (g 3), .ref (g 4), .ref (g 5), .int g_tp, .int g_so, .int g_tk, .int g_pl, .int g_va, .long g_wo, .int g_bd, .int g_bp, .int g_fa, .int g_fp, .ref (g 6), .ref (g 7), .ref (g 8), .ref (g 9), .ref (g 10), .ref (g 11), .int g_lw, .int g_we, .int g_cu, .int g_go, .int g_ba, .ref (g 12), .ref (g 13), .int z_42, .ref (g 14), .ref (g 15), .long z_43, .int g_sb, .int g_ab, .int g_al, .ref (g 16), .ref (g 17)])), ((g 7), .inl (cI, 35, .inl hs)), ((g 8), .inl (cI, 75, .inl sp)), ((g 10), .inl (cI, 450, .inl ac)), ((g 12), .inl (cI, 5, .inl om)), ((g 13), .inl (cI, 5, .inl lk)), ((g 14), .inl (cJ, 6, .inr (.inl z_44))), ((g 15), .inl (cJ, 5, .inr (.inl z_45)))]) hP hD [0, 1, 2, 3, 4, 5, 6, 7] [] rfl rfl (by decide) (by decide) hk1 hFc hP1 hD1
        clear hFc hDc hPc hP1 hD1 hz1 hk1 hvm
        generalize H1 = H at hP hS ⊢
        have hP : va_P (dC, dI) vwCl [((g 0), .inr (9, [.int g_th, .ref (g 1), .ref (g 2), .ref (g 3), .ref (g 4), .ref (g 5), .int g_tp, .int g_so, .int g_tk, .int g_pl, .int g_va, .long g_wo, .int g_bd, .int g_bp, .int g_fa, .int g_fp, .ref (g 6), .ref (g 7), .ref (g 8), .ref (g 9), .ref (g 10), .ref (g 11), .int g_lw, .int g_we, .int g_cu, .int g_go, .int g_ba, .ref (g 12), .ref (g 13), .int z_42, .ref (g 14), .ref (g 15), .long z_43, .int g_sb, .int g_ab, .int g_al, .ref (g 16), .ref (g 17)])), ((g 7), .inl (cI, 35, .inl hs)), ((g 8), .inl (cI, 75, .inl sp)), ((g 10), .inl (cI, 450, .inl ac)), ((g 12), .inl (cI, 5, .inl om)), ((g 13), .inl (cI, 5, .inl lk)), ((g 14), .inl (cJ, 6, .inr (.inl z_44))), ((g 15), .inl (cJ, 5, .inr (.inl z_45)))] H := hP
        have hD : va_D A [((g 0), .inr (9, [.int g_th, .ref (g 1), .ref (g 2), .ref (g 3), .ref (g 4), .ref (g 5), .int g_tp, .int g_so, .int g_tk, .int g_pl, .int g_va, .long g_wo, .int g_bd, .int g_bp, .int g_fa, .int g_fp, .ref (g 6), .ref (g 7), .ref (g 8), .ref (g 9), .ref (g 10), .ref (g 11), .int g_lw, .int g_we, .int g_cu, .int g_go, .int g_ba, .ref (g 12), .ref (g 13), .int z_42, .ref (g 14), .ref (g 15), .long z_43, .int g_sb, .int g_ab, .int g_al, .ref (g 16), .ref (g 17)])), ((g 7), .inl (cI, 35, .inl hs)), ((g 8), .inl (cI, 75, .inl sp)), ((g 10), .inl (cI, 450, .inl ac)), ((g 12), .inl (cI, 5, .inl om)), ((g 13), .inl (cI, 5, .inl lk)), ((g 14), .inl (cJ, 6, .inr (.inl z_44))), ((g 15), .inl (cJ, 5, .inr (.inl z_45)))] := hD
        (try dsimp only at hw)
        have hw_46 := hw
        clear hw
        obtain ⟨hw_46_0, hw_46_1, hw_46_2⟩ := hw_46
        have hPc := hP.sub (ws' := []) [] rfl
        refine vp_callSi (W.runS (As := [.int r_40]) (rest := [.int v_14]) ⟨hx, hb, hml, hown, ht⟩ (s_X9_sizeOf l dC dI cB cI cJ cZ cL r_40) (va_cwS 1 ht (gQ w_1690 w_1691 w_114 w_1692) rfl rfl rfl (by decide +kernel) ⟨Nat.le_of_ble_eq_true rfl, Nat.le_of_ble_eq_true rfl⟩) (pSSn hN hK hPc) rfl rfl hl.1 rfl (lv_room (Nat.le_of_ble_eq_true rfl)) dX9_sumNow_18 ⟨Nat.le_of_ble_eq_true rfl, Nat.le_of_ble_eq_true rfl⟩) (fun r_47 hw => ?_)
        clear hPc
        (try dsimp only at hw)
        have hw_48 := hw
        clear hw
        refine lv_iadd hx hb dX9_sumNow_21 ?_
        refine lv_topi (fun y_49 ey_49 => ?_)
        have ty_49 := iaddF ey_49
        clear ey_49
        refine lv_istore_n (lv' := [(1, .int y_49), (2, .int v_15), (0, .ref (g 0))]) hx hb dX9_sumNow_22 rfl hl (by decide) rfl (fun ls hl => ?_)
        obtain ⟨y_50, ey_50⟩ : ∃ z : Int32, z = v_15 + 1 := ⟨_, rfl⟩
        have ty_50 := iaddF ey_50
        simp only [T1] at ty_50
        refine lv_iinc (v := y_50) (lv' := [(2, .int y_50), (1, .int y_49), (0, .ref (g 0))]) hx hb dX9_sumNow_23 hl (k := 1) rfl (by rw [ey_50]; rfl) (by decide) rfl (fun ls hl => ?_)
        clear ey_50
        refine lv_goto (tgt := 4) hx hb dX9_sumNow_26 (by decide) ?_
        exact ih_35 y_49 y_50 z_42 z_43 z_44 z_45 _ _ _ (by first | omega | assumption | decide | exact LK_0 | exact OM_0 | exact CE_0 | exact SZI_0 | exact CLR_0 | exact CP_0 | exact PV_0 | exact BV_0 (by assumption) (by omega) (by omega) | exact LK_mono (by assumption) (by omega) | exact OM_mono (by assumption) (by omega) | exact CE_mono (by assumption) (by omega) | exact CLR_mono (by assumption) (by omega) | exact CP_mono (by assumption) (by omega) | (have e0 := T0; have e1 := T1; have e2 := T2; have em1 := Tm1; omega)) (by omega) (hP.sub (ws' := [((g 0), .inr (9, [.int g_th, .ref (g 1), .ref (g 2), .ref (g 3), .ref (g 4), .ref (g 5), .int g_tp, .int g_so, .int g_tk, .int g_pl, .int g_va, .long g_wo, .int g_bd, .int g_bp, .int g_fa, .int g_fp, .ref (g 6), .ref (g 7), .ref (g 8), .ref (g 9), .ref (g 10), .ref (g 11), .int g_lw, .int g_we, .int g_cu, .int g_go, .int g_ba, .ref (g 12), .ref (g 13), .int z_42, .ref (g 14), .ref (g 15), .long z_43, .int g_sb, .int g_ab, .int g_al, .ref (g 16), .ref (g 17)])), ((g 7), .inl (cI, 35, .inl hs)), ((g 8), .inl (cI, 75, .inl sp)), ((g 10), .inl (cI, 450, .inl ac)), ((g 12), .inl (cI, 5, .inl om)), ((g 13), .inl (cI, 5, .inl lk)), ((g 14), .inl (cJ, 6, .inr (.inl z_44))), ((g 15), .inl (cJ, 5, .inr (.inl z_45)))]) [0, 1, 2, 3, 4, 5, 6, 7] rfl) (hD.sub (ws' := [((g 0), .inr (9, [.int g_th, .ref (g 1), .ref (g 2), .ref (g 3), .ref (g 4), .ref (g 5), .int g_tp, .int g_so, .int g_tk, .int g_pl, .int g_va, .long g_wo, .int g_bd, .int g_bp, .int g_fa, .int g_fp, .ref (g 6), .ref (g 7), .ref (g 8), .ref (g 9), .ref (g 10), .ref (g 11), .int g_lw, .int g_we, .int g_cu, .int g_go, .int g_ba, .ref (g 12), .ref (g 13), .int z_42, .ref (g 14), .ref (g 15), .long z_43, .int g_sb, .int g_ab, .int g_al, .ref (g 16), .ref (g 17)])), ((g 7), .inl (cI, 35, .inl hs)), ((g 8), .inl (cI, 75, .inl sp)), ((g 10), .inl (cI, 450, .inl ac)), ((g 12), .inl (cI, 5, .inl om)), ((g 13), .inl (cI, 5, .inl lk)), ((g 14), .inl (cJ, 6, .inr (.inl z_44))), ((g 15), .inl (cJ, 5, .inr (.inl z_45)))]) [0, 1, 2, 3, 4, 5, 6, 7] (by decide) rfl) hS (lv_sub hl [0, 1, 2] rfl)
  exact lp_34 _ 0 0 g_jo g_bt pa fl _ _ _ (by first | omega | assumption | decide | exact LK_0 | exact OM_0 | exact CE_0 | exact SZI_0 | exact CLR_0 | exact CP_0 | exact PV_0 | exact BV_0 (by assumption) (by omega) (by omega) | exact LK_mono (by assumption) (by omega) | exact OM_mono (by assumption) (by omega) | exact CE_mono (by assumption) (by omega) | exact CLR_mono (by assumption) (by omega) | exact CP_mono (by assumption) (by omega) | (have e0 := T0; have e1 := T1; have e2 := T2; have em1 := Tm1; omega)) (Nat.lt_succ_self _) hP hD hS (lv_sub hl [0, 1, 2] rfl)
set_option maxHeartbeats 8000000 in
set_option maxRecDepth 100000 in
theorem s_X9_partAt (l : Launch) (dC : Nat → ClassId) (dI : Nat → Nat → Nat) (cB cI cJ cZ cL : ClassId) (g : Nat → Nat) (g_th : Int32) (g_tp : Int32) (g_so : Int32) (g_tk : Int32) (g_pl : Int32) (g_va : Int32) (g_wo : Int64) (g_bd : Int32) (g_bp : Int32) (g_fa : Int32) (g_fp : Int32) (g_lw : Int32) (g_we : Int32) (g_cu : Int32) (g_go : Int32) (g_ba : Int32) (g_jo : Int32) (g_bt : Int64) (g_sb : Int32) (g_ab : Int32) (g_al : Int32) (pa : Nat → Int64) (p0 : Int32) (hjo : Int32.toInt g_jo ≤ 5) (hk : 0 ≤ Int32.toInt p0) : Met l yX9_partAt (wy yX9_partAt cX9_partAt 2 (some .long)) ({ frames := 0, cells := 0, slots := 0, locals := 0 }) (va_Pc [.ref (g 0), .int p0] (fun U => va_P (dC, dI) vwCl [((g 0), .inr (9, [.int g_th, .ref (g 1), .ref (g 2), .ref (g 3), .ref (g 4), .ref (g 5), .int g_tp, .int g_so, .int g_tk, .int g_pl, .int g_va, .long g_wo, .int g_bd, .int g_bp, .int g_fa, .int g_fp, .ref (g 6), .ref (g 7), .ref (g 8), .ref (g 9), .ref (g 10), .ref (g 11), .int g_lw, .int g_we, .int g_cu, .int g_go, .int g_ba, .ref (g 12), .ref (g 13), .int g_jo, .ref (g 14), .ref (g 15), .long g_bt, .int g_sb, .int g_ab, .int g_al, .ref (g 16), .ref (g 17)])), ((g 14), .inl (cJ, 6, .inr (.inl pa)))] U.heap ∧ va_K (dC, dI) vwCl (tyL cB cI cJ cZ cL) U ∧ NW U)) (vp_Sl (fun r => True)) 0 0 (fun _ => False) := by
  refine Met.ofW (cc := cX9_partAt) (maxL := 2) (ret := (some .long)) (by decide) rfl ?_
  intro p e s m args below meth c s₁ B hml hv
  obtain ⟨rfl, hP, hK, hN⟩ := hv
  have hx := B.exec
  have hb := B.bytes
  have hr := B.returns
  have ht : ∀ w ∈ lw_ok, w.before _ s = true := fun w h => atoms_spec (ws := wy yX9_partAt cX9_partAt 2 (some .long)) B.pre w (List.mem_cons_of_mem _ h)
  have hown : s.vm.findClass RX9 = some m.cls := findClass_of_methodNamed B.named
  have hlocks := B.notSynchronized
  have hl := lv_entry ([.ref (g 0), .int p0]) (n := 2) (Nat.le_of_ble_eq_true rfl)
  rw [lg_entry_eq]
  generalize (lg_sl ([.ref (g 0), .int p0]) ++ List.replicate (2 - (lg_sl ([.ref (g 0), .int p0])).length) Slot.unset).toArray = ls at hl ⊢
  have hl : lv_has ls 2 [(0, .ref (g 0)), (1, .int p0)] := hl
  have hP : va_P (dC, dI) vwCl [((g 0), .inr (9, [.int g_th, .ref (g 1), .ref (g 2), .ref (g 3), .ref (g 4), .ref (g 5), .int g_tp, .int g_so, .int g_tk, .int g_pl, .int g_va, .long g_wo, .int g_bd, .int g_bp, .int g_fa, .int g_fp, .ref (g 6), .ref (g 7), .ref (g 8), .ref (g 9), .ref (g 10), .ref (g 11), .int g_lw, .int g_we, .int g_cu, .int g_go, .int g_ba, .ref (g 12), .ref (g 13), .int g_jo, .ref (g 14), .ref (g 15), .long g_bt, .int g_sb, .int g_ab, .int g_al, .ref (g 16), .ref (g 17)])), ((g 14), .inl (cJ, 6, .inr (.inl pa)))] s.heap := hP
  have rg_p0 := rgI p0
  refine lv_iload_n hx hb dX9_partAt_0 rfl (lv_at hl 1 rfl) ?_
  refine lv_aload_n hx hb dX9_partAt_1 rfl (lv_at hl 0 rfl) ?_
  refine va_get (D := (dC, dI)) (ci := 9) (v := .int g_jo) (C := RX9) (T := TX9) (N := 38) hx hb ht iX9 hown hK hP 0 rfl rfl 29 (by decide) (ht _ w_1291) (fun _ h9 => h9) rfl dX9_partAt_2 ?_
  refine lv_icmp_ge (tgt := 17) hx hb dX9_partAt_5 (by decide) (fun c_1 => ?_) (fun c_1 => ?_)
  · (try simp only [i_lt, i_le, i_eq] at c_1)
    refine lv_lconst (v := 0) hx hb dX9_partAt_17 (by decide) ?_
    exact W.lret (v := 0) hx hb hr (fun t ht hW => ⟨0, rfl, trivial, ht⟩) (fun q h => absurd h List.not_mem_nil) dX9_partAt_18
  · (try simp only [i_lt, i_le, i_eq] at c_1)
    refine lv_aload_n hx hb dX9_partAt_8 rfl (lv_at hl 0 rfl) ?_
    refine va_get (D := (dC, dI)) (ci := 9) (v := .ref (g 14)) (C := RX9) (T := TX9) (N := 38) hx hb ht iX9 hown hK hP 0 rfl rfl 30 (by decide) (ht _ w_1292) (fun _ h9 => h9) rfl dX9_partAt_9 ?_
    refine lv_iload_n hx hb dX9_partAt_12 rfl (lv_at hl 1 rfl) ?_
    refine va_lald hx hb hK hP 1 2 rfl rfl (vp_in_iff.mpr (by omega)) dX9_partAt_13 ?_
    refine lv_topl (fun y_2 ey_2 => ?_)
    refine lv_goto (tgt := 18) hx hb dX9_partAt_14 (by decide) ?_
    exact W.lret (v := y_2) hx hb hr (fun t ht hW => ⟨y_2, rfl, trivial, ht⟩) (fun q h => absurd h List.not_mem_nil) dX9_partAt_18
set_option maxHeartbeats 8000000 in
set_option maxRecDepth 100000 in
theorem s_X9_isHeard (l : Launch) (dC : Nat → ClassId) (dI : Nat → Nat → Nat) (cB cI cJ cZ cL : ClassId) (sz : Nat) (g : Nat → Nat) (g_th : Int32) (g_tp : Int32) (g_so : Int32) (g_tk : Int32) (g_pl : Int32) (g_va : Int32) (g_wo : Int64) (g_bd : Int32) (g_bp : Int32) (g_fa : Int32) (g_fp : Int32) (g_lw : Int32) (g_we : Int32) (g_cu : Int32) (g_go : Int32) (g_ba : Int32) (g_jo : Int32) (g_bt : Int64) (g_sb : Int32) (g_ab : Int32) (g_al : Int32) (hs : Nat → Int32) (sp : Nat → Int32) (ac : Nat → Int32) (om : Nat → Int32) (lk : Nat → Int32) (pa : Nat → Int64) (fl : Nat → Int64) (p0 : Int32) (p1 : Int32) (h4 : 0 ≤ Int32.toInt (hs 4) ∧ Int32.toInt (hs 4) ≤ 5) (h6 : 0 ≤ Int32.toInt (hs 6) ∧ Int32.toInt (hs 6) ≤ 30) (hlk : LK (Int32.toInt (hs 4)) lk) (hom : OM (Int32.toInt (hs 4)) om) (hd : Int32.toInt p1 < 2147483647) : Met l yX9_isHeard (wy yX9_isHeard cX9_isHeard 3 (some .boolean)) ({ frames := 5, cells := 0, slots := 0, locals := 200 }) (va_Pc [.ref (g 0), .int p0, .int p1] (fun U => U.heap.size = sz ∧ va_P (dC, dI) vwCl [((g 0), .inr (9, [.int g_th, .ref (g 1), .ref (g 2), .ref (g 3), .ref (g 4), .ref (g 5), .int g_tp, .int g_so, .int g_tk, .int g_pl, .int g_va, .long g_wo, .int g_bd, .int g_bp, .int g_fa, .int g_fp, .ref (g 6), .ref (g 7), .ref (g 8), .ref (g 9), .ref (g 10), .ref (g 11), .int g_lw, .int g_we, .int g_cu, .int g_go, .int g_ba, .ref (g 12), .ref (g 13), .int g_jo, .ref (g 14), .ref (g 15), .long g_bt, .int g_sb, .int g_ab, .int g_al, .ref (g 16), .ref (g 17)])), ((g 7), .inl (cI, 35, .inl hs)), ((g 8), .inl (cI, 75, .inl sp)), ((g 10), .inl (cI, 450, .inl ac)), ((g 12), .inl (cI, 5, .inl om)), ((g 13), .inl (cI, 5, .inl lk)), ((g 14), .inl (cJ, 6, .inr (.inl pa))), ((g 15), .inl (cJ, 5, .inr (.inl fl)))] U.heap ∧ va_K (dC, dI) vwCl (tyL cB cI cJ cZ cL) U ∧ va_D (fun _ => True) [((g 0), .inr (9, [.int g_th, .ref (g 1), .ref (g 2), .ref (g 3), .ref (g 4), .ref (g 5), .int g_tp, .int g_so, .int g_tk, .int g_pl, .int g_va, .long g_wo, .int g_bd, .int g_bp, .int g_fa, .int g_fp, .ref (g 6), .ref (g 7), .ref (g 8), .ref (g 9), .ref (g 10), .ref (g 11), .int g_lw, .int g_we, .int g_cu, .int g_go, .int g_ba, .ref (g 12), .ref (g 13), .int g_jo, .ref (g 14), .ref (g 15), .long g_bt, .int g_sb, .int g_ab, .int g_al, .ref (g 16), .ref (g 17)])), ((g 7), .inl (cI, 35, .inl hs)), ((g 8), .inl (cI, 75, .inl sp)), ((g 10), .inl (cI, 450, .inl ac)), ((g 12), .inl (cI, 5, .inl om)), ((g 13), .inl (cI, 5, .inl lk)), ((g 14), .inl (cJ, 6, .inr (.inl pa))), ((g 15), .inl (cJ, 5, .inr (.inl fl)))] ∧ NW U)) (va_Qi (fun r u => r = 0 ∨ r = 1) (fun (u : (Int32) × (Int64) × (Nat → Int64) × (Nat → Int64)) t => va_P (dC, dI) vwCl [((g 0), .inr (9, [.int g_th, .ref (g 1), .ref (g 2), .ref (g 3), .ref (g 4), .ref (g 5), .int g_tp, .int g_so, .int g_tk, .int g_pl, .int g_va, .long g_wo, .int g_bd, .int g_bp, .int g_fa, .int g_fp, .ref (g 6), .ref (g 7), .ref (g 8), .ref (g 9), .ref (g 10), .ref (g 11), .int g_lw, .int g_we, .int g_cu, .int g_go, .int g_ba, .ref (g 12), .ref (g 13), .int u.1, .ref (g 14), .ref (g 15), .long u.2.1, .int g_sb, .int g_ab, .int g_al, .ref (g 16), .ref (g 17)])), ((g 7), .inl (cI, 35, .inl hs)), ((g 8), .inl (cI, 75, .inl sp)), ((g 10), .inl (cI, 450, .inl ac)), ((g 12), .inl (cI, 5, .inl om)), ((g 13), .inl (cI, 5, .inl lk)), ((g 14), .inl (cJ, 6, .inr (.inl u.2.2.1))), ((g 15), .inl (cJ, 5, .inr (.inl u.2.2.2)))] t.heap ∧ va_D (va_A [((g 0), .inr (9, [.int g_th, .ref (g 1), .ref (g 2), .ref (g 3), .ref (g 4), .ref (g 5), .int g_tp, .int g_so, .int g_tk, .int g_pl, .int g_va, .long g_wo, .int g_bd, .int g_bp, .int g_fa, .int g_fp, .ref (g 6), .ref (g 7), .ref (g 8), .ref (g 9), .ref (g 10), .ref (g 11), .int g_lw, .int g_we, .int g_cu, .int g_go, .int g_ba, .ref (g 12), .ref (g 13), .int g_jo, .ref (g 14), .ref (g 15), .long g_bt, .int g_sb, .int g_ab, .int g_al, .ref (g 16), .ref (g 17)])), ((g 7), .inl (cI, 35, .inl hs)), ((g 8), .inl (cI, 75, .inl sp)), ((g 10), .inl (cI, 450, .inl ac)), ((g 12), .inl (cI, 5, .inl om)), ((g 13), .inl (cI, 5, .inl lk)), ((g 14), .inl (cJ, 6, .inr (.inl pa))), ((g 15), .inl (cJ, 5, .inr (.inl fl)))] sz) [((g 0), .inr (9, [.int g_th, .ref (g 1), .ref (g 2), .ref (g 3), .ref (g 4), .ref (g 5), .int g_tp, .int g_so, .int g_tk, .int g_pl, .int g_va, .long g_wo, .int g_bd, .int g_bp, .int g_fa, .int g_fp, .ref (g 6), .ref (g 7), .ref (g 8), .ref (g 9), .ref (g 10), .ref (g 11), .int g_lw, .int g_we, .int g_cu, .int g_go, .int g_ba, .ref (g 12), .ref (g 13), .int u.1, .ref (g 14), .ref (g 15), .long u.2.1, .int g_sb, .int g_ab, .int g_al, .ref (g 16), .ref (g 17)])), ((g 7), .inl (cI, 35, .inl hs)), ((g 8), .inl (cI, 75, .inl sp)), ((g 10), .inl (cI, 450, .inl ac)), ((g 12), .inl (cI, 5, .inl om)), ((g 13), .inl (cI, 5, .inl lk)), ((g 14), .inl (cJ, 6, .inr (.inl u.2.2.1))), ((g 15), .inl (cJ, 5, .inr (.inl u.2.2.2)))]) (va_A [((g 0), .inr (9, [.int g_th, .ref (g 1), .ref (g 2), .ref (g 3), .ref (g 4), .ref (g 5), .int g_tp, .int g_so, .int g_tk, .int g_pl, .int g_va, .long g_wo, .int g_bd, .int g_bp, .int g_fa, .int g_fp, .ref (g 6), .ref (g 7), .ref (g 8), .ref (g 9), .ref (g 10), .ref (g 11), .int g_lw, .int g_we, .int g_cu, .int g_go, .int g_ba, .ref (g 12), .ref (g 13), .int g_jo, .ref (g 14), .ref (g 15), .long g_bt, .int g_sb, .int g_ab, .int g_al, .ref (g 16), .ref (g 17)])), ((g 7), .inl (cI, 35, .inl hs)), ((g 8), .inl (cI, 75, .inl sp)), ((g 10), .inl (cI, 450, .inl ac)), ((g 12), .inl (cI, 5, .inl om)), ((g 13), .inl (cI, 5, .inl lk)), ((g 14), .inl (cJ, 6, .inr (.inl pa))), ((g 15), .inl (cJ, 5, .inr (.inl fl)))] sz)) 0 0 (va_A [((g 0), .inr (9, [.int g_th, .ref (g 1), .ref (g 2), .ref (g 3), .ref (g 4), .ref (g 5), .int g_tp, .int g_so, .int g_tk, .int g_pl, .int g_va, .long g_wo, .int g_bd, .int g_bp, .int g_fa, .int g_fp, .ref (g 6), .ref (g 7), .ref (g 8), .ref (g 9), .ref (g 10), .ref (g 11), .int g_lw, .int g_we, .int g_cu, .int g_go, .int g_ba, .ref (g 12), .ref (g 13), .int g_jo, .ref (g 14), .ref (g 15), .long g_bt, .int g_sb, .int g_ab, .int g_al, .ref (g 16), .ref (g 17)])), ((g 7), .inl (cI, 35, .inl hs)), ((g 8), .inl (cI, 75, .inl sp)), ((g 10), .inl (cI, 450, .inl ac)), ((g 12), .inl (cI, 5, .inl om)), ((g 13), .inl (cI, 5, .inl lk)), ((g 14), .inl (cJ, 6, .inr (.inl pa))), ((g 15), .inl (cJ, 5, .inr (.inl fl)))] sz) := by
  refine Met.ofW (cc := cX9_isHeard) (maxL := 3) (ret := (some .boolean)) (by decide) rfl ?_
  intro p e s m args below meth c s₁ B hml hv
  obtain ⟨rfl, hsz, hP, hK, hD0, hN⟩ := hv
  have hx := B.exec
  have hb := B.bytes
  have hr := B.returns
  have ht : ∀ w ∈ lw_ok, w.before _ s = true := fun w h => atoms_spec (ws := wy yX9_isHeard cX9_isHeard 3 (some .boolean)) B.pre w (List.mem_cons_of_mem _ h)
  have hown : s.vm.findClass RX9 = some m.cls := findClass_of_methodNamed B.named
  have hlocks := B.notSynchronized
  subst hsz
  have hD := hD0.self (sz := s.heap.size)
  generalize hAe : va_A [((g 0), .inr (9, [.int g_th, .ref (g 1), .ref (g 2), .ref (g 3), .ref (g 4), .ref (g 5), .int g_tp, .int g_so, .int g_tk, .int g_pl, .int g_va, .long g_wo, .int g_bd, .int g_bp, .int g_fa, .int g_fp, .ref (g 6), .ref (g 7), .ref (g 8), .ref (g 9), .ref (g 10), .ref (g 11), .int g_lw, .int g_we, .int g_cu, .int g_go, .int g_ba, .ref (g 12), .ref (g 13), .int g_jo, .ref (g 14), .ref (g 15), .long g_bt, .int g_sb, .int g_ab, .int g_al, .ref (g 16), .ref (g 17)])), ((g 7), .inl (cI, 35, .inl hs)), ((g 8), .inl (cI, 75, .inl sp)), ((g 10), .inl (cI, 450, .inl ac)), ((g 12), .inl (cI, 5, .inl om)), ((g 13), .inl (cI, 5, .inl lk)), ((g 14), .inl (cJ, 6, .inr (.inl pa))), ((g 15), .inl (cJ, 5, .inr (.inl fl)))] s.heap.size = A at hD ⊢
  have hA : ∀ q : Nat, s.heap.size ≤ q → A q := fun q h => by rw [← hAe]; exact Or.inr h
  have hS : va_S A s.heap s.heap [] := va_S.rf
  clear hAe hD0
  have hl := lv_entry ([.ref (g 0), .int p0, .int p1]) (n := 3) (Nat.le_of_ble_eq_true rfl)
  rw [lg_entry_eq]
  generalize (lg_sl ([.ref (g 0), .int p0, .int p1]) ++ List.replicate (3 - (lg_sl ([.ref (g 0), .int p0, .int p1])).length) Slot.unset).toArray = ls at hl ⊢
  have hl : lv_has ls 3 [(0, .ref (g 0)), (1, .int p0), (2, .int p1)] := hl
  have hP : va_P (dC, dI) vwCl [((g 0), .inr (9, [.int g_th, .ref (g 1), .ref (g 2), .ref (g 3), .ref (g 4), .ref (g 5), .int g_tp, .int g_so, .int g_tk, .int g_pl, .int g_va, .long g_wo, .int g_bd, .int g_bp, .int g_fa, .int g_fp, .ref (g 6), .ref (g 7), .ref (g 8), .ref (g 9), .ref (g 10), .ref (g 11), .int g_lw, .int g_we, .int g_cu, .int g_go, .int g_ba, .ref (g 12), .ref (g 13), .int g_jo, .ref (g 14), .ref (g 15), .long g_bt, .int g_sb, .int g_ab, .int g_al, .ref (g 16), .ref (g 17)])), ((g 7), .inl (cI, 35, .inl hs)), ((g 8), .inl (cI, 75, .inl sp)), ((g 10), .inl (cI, 450, .inl ac)), ((g 12), .inl (cI, 5, .inl om)), ((g 13), .inl (cI, 5, .inl lk)), ((g 14), .inl (cJ, 6, .inr (.inl pa))), ((g 15), .inl (cJ, 5, .inr (.inl fl)))] s.heap := hP
  have hD : va_D A [((g 0), .inr (9, [.int g_th, .ref (g 1), .ref (g 2), .ref (g 3), .ref (g 4), .ref (g 5), .int g_tp, .int g_so, .int g_tk, .int g_pl, .int g_va, .long g_wo, .int g_bd, .int g_bp, .int g_fa, .int g_fp, .ref (g 6), .ref (g 7), .ref (g 8), .ref (g 9), .ref (g 10), .ref (g 11), .int g_lw, .int g_we, .int g_cu, .int g_go, .int g_ba, .ref (g 12), .ref (g 13), .int g_jo, .ref (g 14), .ref (g 15), .long g_bt, .int g_sb, .int g_ab, .int g_al, .ref (g 16), .ref (g 17)])), ((g 7), .inl (cI, 35, .inl hs)), ((g 8), .inl (cI, 75, .inl sp)), ((g 10), .inl (cI, 450, .inl ac)), ((g 12), .inl (cI, 5, .inl om)), ((g 13), .inl (cI, 5, .inl lk)), ((g 14), .inl (cJ, 6, .inr (.inl pa))), ((g 15), .inl (cJ, 5, .inr (.inl fl)))] := hD
  have rg_p0 := rgI p0
  have rg_p1 := rgI p1
  refine lv_aload_n hx hb dX9_isHeard_0 rfl (lv_at hl 0 rfl) ?_
  refine lv_iload_n hx hb dX9_isHeard_1 rfl (lv_at hl 2 rfl) ?_
  have hPc := hP.sub (ws' := [((g 0), .inr (9, [.int g_th, .ref (g 1), .ref (g 2), .ref (g 3), .ref (g 4), .ref (g 5), .int g_tp, .int g_so, .int g_tk, .int g_pl, .int g_va, .long g_wo, .int g_bd, .int g_bp, .int g_fa, .int g_fp, .ref (g 6), .ref (g 7), .ref (g 8), .ref (g 9), .ref (g 10), .ref (g 11), .int g_lw, .int g_we, .int g_cu, .int g_go, .int g_ba, .ref (g 12), .ref (g 13), .int g_jo, .ref (g 14), .ref (g 15), .long g_bt, .int g_sb, .int g_ab, .int g_al, .ref (g 16), .ref (g 17)])), ((g 7), .inl (cI, 35, .inl hs)), ((g 8), .inl (cI, 75, .inl sp)), ((g 10), .inl (cI, 450, .inl ac)), ((g 12), .inl (cI, 5, .inl om)), ((g 13), .inl (cI, 5, .inl lk)), ((g 14), .inl (cJ, 6, .inr (.inl pa))), ((g 15), .inl (cJ, 5, .inr (.inl fl)))]) [0, 1, 2, 3, 4, 5, 6, 7] rfl
  have hDc := hD.sub (ws' := [((g 0), .inr (9, [.int g_th, .ref (g 1), .ref (g 2), .ref (g 3), .ref (g 4), .ref (g 5), .int g_tp, .int g_so, .int g_tk, .int g_pl, .int g_va, .long g_wo, .int g_bd, .int g_bp, .int g_fa, .int g_fp, .ref (g 6), .ref (g 7), .ref (g 8), .ref (g 9), .ref (g 10), .ref (g 11), .int g_lw, .int g_we, .int g_cu, .int g_go, .int g_ba, .ref (g 12), .ref (g 13), .int g_jo, .ref (g 14), .ref (g 15), .long g_bt, .int g_sb, .int g_ab, .int g_al, .ref (g 16), .ref (g 17)])), ((g 7), .inl (cI, 35, .inl hs)), ((g 8), .inl (cI, 75, .inl sp)), ((g 10), .inl (cI, 450, .inl ac)), ((g 12), .inl (cI, 5, .inl om)), ((g 13), .inl (cI, 5, .inl lk)), ((g 14), .inl (cJ, 6, .inr (.inl pa))), ((g 15), .inl (cJ, 5, .inr (.inl fl)))]) [0, 1, 2, 3, 4, 5, 6, 7] (by decide) rfl
  have hFc := va_free (wc := [((g 0), .inr (9, [.int g_th, .ref (g 1), .ref (g 2), .ref (g 3), .ref (g 4), .ref (g 5), .int g_tp, .int g_so, .int g_tk, .int g_pl, .int g_va, .long g_wo, .int g_bd, .int g_bp, .int g_fa, .int g_fp, .ref (g 6), .ref (g 7), .ref (g 8), .ref (g 9), .ref (g 10), .ref (g 11), .int g_lw, .int g_we, .int g_cu, .int g_go, .int g_ba, .ref (g 12), .ref (g 13), .int g_jo, .ref (g 14), .ref (g 15), .long g_bt, .int g_sb, .int g_ab, .int g_al, .ref (g 16), .ref (g 17)])), ((g 7), .inl (cI, 35, .inl hs)), ((g 8), .inl (cI, 75, .inl sp)), ((g 10), .inl (cI, 450, .inl ac)), ((g 12), .inl (cI, 5, .inl om)), ((g 13), .inl (cI, 5, .inl lk)), ((g 14), .inl (cJ, 6, .inr (.inl pa))), ((g 15), .inl (cJ, 5, .inr (.inl fl)))]) hD hS hA [0, 1, 2, 3, 4, 5, 6, 7] rfl
  refine va_calli (va_runV (As := [.int p1]) (rest := []) ⟨hx, hb, hml, hown, ht⟩ (s_X9_hearsOn l dC dI cB cI cJ cZ cL s.heap.size g g_th g_tp g_so g_tk g_pl g_va g_wo g_bd g_bp g_fa g_fp g_lw g_we g_cu g_go g_ba g_jo g_bt g_sb g_ab g_al hs sp ac om lk pa fl p1 (by first | assumption | omega | decide | (simp only [T0, T1, T2, T3, Tm1]; omega)) (by first | assumption | omega | decide | (simp only [T0, T1, T2, T3, Tm1]; omega)) (by first | assumption | omega | decide | (simp only [T0, T1, T2, T3, Tm1]; omega)) (by first | assumption | omega | decide | (simp only [T0, T1, T2, T3, Tm1]; omega)) (by first | assumption | omega | decide | (simp only [T0, T1, T2, T3, Tm1]; omega))) (cwV 1 ht (gV w_1634 w_1636 w_79 w_114 w_1637) rfl rfl rfl (by decide +kernel) ⟨Nat.le_of_ble_eq_true rfl, Nat.le_of_ble_eq_true rfl⟩) (pVQn hN hK hPc hDc (ci := 9) (q0 := 0) rfl rfl) rfl rfl hl.1 rfl (lv_room (Nat.le_of_ble_eq_true rfl)) dX9_isHeard_2 ⟨Nat.le_of_ble_eq_true rfl, Nat.le_of_ble_eq_true rfl⟩) hS (fun q _ h => hFc q h) hFc (fun r_1 u_2 t1 H1 locs ht1 hvm hw hB hz1 hk1 hS => ?_)
  obtain ⟨z_3, z_4, z_5, z_6⟩ := u_2
  obtain ⟨hP1, hD1⟩ := hB
  rw [ht1] at hP1
  obtain ⟨hP, hD⟩ := va_join (wr := []) (w1 := [((g 0), .inr (9, [.int g_th, .ref (g 1), .ref (g 2), .ref (g 3), .ref (g 4), .ref (g 5), .int g_tp, .int g_so, .int g_tk, .int g_pl, .int g_va, .long g_wo, .int g_bd, .int g_bp, .int g_fa, .int g_fp, .ref (g 6), .ref (g 7), .ref (g 8), .ref (g 9), .ref (g 10), .ref (g 11), .int g_lw, .int g_we, .int g_cu, .int g_go, .int g_ba, .ref (g 12), .ref (g 13), .int z_3, .ref (g 14), .ref (g 15), .long z_4, .int g_sb, .int g_ab, .int g_al, .ref (g 16), .ref (g 17)])), ((g 7), .inl (cI, 35, .inl hs)), ((g 8), .inl (cI, 75, .inl sp)), ((g 10), .inl (cI, 450, .inl ac)), ((g 12), .inl (cI, 5, .inl om)), ((g 13), .inl (cI, 5, .inl lk)), ((g 14), .inl (cJ, 6, .inr (.inl z_5))), ((g 15), .inl (cJ, 5, .inr (.inl z_6)))]) hP hD [0, 1, 2, 3, 4, 5, 6, 7] [] rfl rfl (by decide) (by decide) hk1 hFc hP1 hD1
  clear hFc hDc hPc hP1 hD1 hz1 hk1 hvm
  generalize H1 = H at hP hS ⊢
  have hP : va_P (dC, dI) vwCl [((g 0), .inr (9, [.int g_th, .ref (g 1), .ref (g 2), .ref (g 3), .ref (g 4), .ref (g 5), .int g_tp, .int g_so, .int g_tk, .int g_pl, .int g_va, .long g_wo, .int g_bd, .int g_bp, .int g_fa, .int g_fp, .ref (g 6), .ref (g 7), .ref (g 8), .ref (g 9), .ref (g 10), .ref (g 11), .int g_lw, .int g_we, .int g_cu, .int g_go, .int g_ba, .ref (g 12), .ref (g 13), .int z_3, .ref (g 14), .ref (g 15), .long z_4, .int g_sb, .int g_ab, .int g_al, .ref (g 16), .ref (g 17)])), ((g 7), .inl (cI, 35, .inl hs)), ((g 8), .inl (cI, 75, .inl sp)), ((g 10), .inl (cI, 450, .inl ac)), ((g 12), .inl (cI, 5, .inl om)), ((g 13), .inl (cI, 5, .inl lk)), ((g 14), .inl (cJ, 6, .inr (.inl z_5))), ((g 15), .inl (cJ, 5, .inr (.inl z_6)))] H := hP
  have hD : va_D A [((g 0), .inr (9, [.int g_th, .ref (g 1), .ref (g 2), .ref (g 3), .ref (g 4), .ref (g 5), .int g_tp, .int g_so, .int g_tk, .int g_pl, .int g_va, .long g_wo, .int g_bd, .int g_bp, .int g_fa, .int g_fp, .ref (g 6), .ref (g 7), .ref (g 8), .ref (g 9), .ref (g 10), .ref (g 11), .int g_lw, .int g_we, .int g_cu, .int g_go, .int g_ba, .ref (g 12), .ref (g 13), .int z_3, .ref (g 14), .ref (g 15), .long z_4, .int g_sb, .int g_ab, .int g_al, .ref (g 16), .ref (g 17)])), ((g 7), .inl (cI, 35, .inl hs)), ((g 8), .inl (cI, 75, .inl sp)), ((g 10), .inl (cI, 450, .inl ac)), ((g 12), .inl (cI, 5, .inl om)), ((g 13), .inl (cI, 5, .inl lk)), ((g 14), .inl (cJ, 6, .inr (.inl z_5))), ((g 15), .inl (cJ, 5, .inr (.inl z_6)))] := hD
  (try dsimp only at hw)
  have hw_7 := hw
  clear hw
  obtain ⟨hw_7_0, hw_7_1, hw_7_2⟩ := hw_7
  refine lv_iload_n hx hb dX9_isHeard_5 rfl (lv_at hl 1 rfl) ?_
  have hPc := hP.sub (ws' := []) [] rfl
  refine vp_callSi (W.runS (As := [.int r_1, .int p0]) (rest := []) ⟨hx, hb, hml, hown, ht⟩ (s_X9_isBit l dC dI cB cI cJ cZ cL r_1 p0) (va_cwS 2 ht (gQ w_1570 w_1571 w_114 w_1572) rfl rfl rfl (by decide +kernel) ⟨Nat.le_of_ble_eq_true rfl, Nat.le_of_ble_eq_true rfl⟩) (pSSn hN hK hPc) rfl rfl hl.1 rfl (lv_room (Nat.le_of_ble_eq_true rfl)) dX9_isHeard_6 ⟨Nat.le_of_ble_eq_true rfl, Nat.le_of_ble_eq_true rfl⟩) (fun r_8 hw => ?_)
  clear hPc
  (try dsimp only at hw)
  have hw_9 := hw
  clear hw
  have hP9 := hP.sub (ws' := [((g 0), .inr (9, [.int g_th, .ref (g 1), .ref (g 2), .ref (g 3), .ref (g 4), .ref (g 5), .int g_tp, .int g_so, .int g_tk, .int g_pl, .int g_va, .long g_wo, .int g_bd, .int g_bp, .int g_fa, .int g_fp, .ref (g 6), .ref (g 7), .ref (g 8), .ref (g 9), .ref (g 10), .ref (g 11), .int g_lw, .int g_we, .int g_cu, .int g_go, .int g_ba, .ref (g 12), .ref (g 13), .int z_3, .ref (g 14), .ref (g 15), .long z_4, .int g_sb, .int g_ab, .int g_al, .ref (g 16), .ref (g 17)])), ((g 7), .inl (cI, 35, .inl hs)), ((g 8), .inl (cI, 75, .inl sp)), ((g 10), .inl (cI, 450, .inl ac)), ((g 12), .inl (cI, 5, .inl om)), ((g 13), .inl (cI, 5, .inl lk)), ((g 14), .inl (cJ, 6, .inr (.inl z_5))), ((g 15), .inl (cJ, 5, .inr (.inl z_6)))]) [0, 1, 2, 3, 4, 5, 6, 7] rfl
  have hD9 := hD.sub (ws' := [((g 0), .inr (9, [.int g_th, .ref (g 1), .ref (g 2), .ref (g 3), .ref (g 4), .ref (g 5), .int g_tp, .int g_so, .int g_tk, .int g_pl, .int g_va, .long g_wo, .int g_bd, .int g_bp, .int g_fa, .int g_fp, .ref (g 6), .ref (g 7), .ref (g 8), .ref (g 9), .ref (g 10), .ref (g 11), .int g_lw, .int g_we, .int g_cu, .int g_go, .int g_ba, .ref (g 12), .ref (g 13), .int z_3, .ref (g 14), .ref (g 15), .long z_4, .int g_sb, .int g_ab, .int g_al, .ref (g 16), .ref (g 17)])), ((g 7), .inl (cI, 35, .inl hs)), ((g 8), .inl (cI, 75, .inl sp)), ((g 10), .inl (cI, 450, .inl ac)), ((g 12), .inl (cI, 5, .inl om)), ((g 13), .inl (cI, 5, .inl lk)), ((g 14), .inl (cJ, 6, .inr (.inl z_5))), ((g 15), .inl (cJ, 5, .inr (.inl z_6)))]) [0, 1, 2, 3, 4, 5, 6, 7] (by decide) rfl
  exact W.zret (v := r_8) hx hb hr (zrF hw_9) (fun t ht hW => ⟨⟨r_8, (z_3, z_4, z_5, z_6), rfl, (by first | exact Or.inl rfl | exact Or.inr rfl | assumption), ⟨by rw [ht]; exact hP9, hD9⟩⟩, hS.F ht⟩) hS.2.2 dX9_isHeard_9
set_option maxHeartbeats 8000000 in
set_option maxRecDepth 100000 in
theorem s_X9_fault (l : Launch) (dC : Nat → ClassId) (dI : Nat → Nat → Nat) (cB cI cJ cZ cL : ClassId) (sz : Nat) (g : Nat → Nat) (g_th : Int32) (g_tp : Int32) (g_so : Int32) (g_tk : Int32) (g_pl : Int32) (g_va : Int32) (g_wo : Int64) (g_bd : Int32) (g_bp : Int32) (g_fa : Int32) (g_fp : Int32) (g_lw : Int32) (g_we : Int32) (g_cu : Int32) (g_go : Int32) (g_ba : Int32) (g_jo : Int32) (g_bt : Int64) (g_sb : Int32) (g_ab : Int32) (g_al : Int32) (p0 : Int32)  : Met l yX9_fault (wy yX9_fault cX9_fault 2 (some .int)) ({ frames := 0, cells := 0, slots := 0, locals := 0 }) (va_Pc [.ref (g 0), .int p0] (fun U => U.heap.size = sz ∧ va_P (dC, dI) vwCl [((g 0), .inr (9, [.int g_th, .ref (g 1), .ref (g 2), .ref (g 3), .ref (g 4), .ref (g 5), .int g_tp, .int g_so, .int g_tk, .int g_pl, .int g_va, .long g_wo, .int g_bd, .int g_bp, .int g_fa, .int g_fp, .ref (g 6), .ref (g 7), .ref (g 8), .ref (g 9), .ref (g 10), .ref (g 11), .int g_lw, .int g_we, .int g_cu, .int g_go, .int g_ba, .ref (g 12), .ref (g 13), .int g_jo, .ref (g 14), .ref (g 15), .long g_bt, .int g_sb, .int g_ab, .int g_al, .ref (g 16), .ref (g 17)]))] U.heap ∧ va_K (dC, dI) vwCl (tyL cB cI cJ cZ cL) U ∧ va_D (fun _ => True) [((g 0), .inr (9, [.int g_th, .ref (g 1), .ref (g 2), .ref (g 3), .ref (g 4), .ref (g 5), .int g_tp, .int g_so, .int g_tk, .int g_pl, .int g_va, .long g_wo, .int g_bd, .int g_bp, .int g_fa, .int g_fp, .ref (g 6), .ref (g 7), .ref (g 8), .ref (g 9), .ref (g 10), .ref (g 11), .int g_lw, .int g_we, .int g_cu, .int g_go, .int g_ba, .ref (g 12), .ref (g 13), .int g_jo, .ref (g 14), .ref (g 15), .long g_bt, .int g_sb, .int g_ab, .int g_al, .ref (g 16), .ref (g 17)]))] ∧ NW U)) (va_Qi (fun r u => True) (fun (u : (Int32)) t => va_P (dC, dI) vwCl [((g 0), .inr (9, [.int u, .ref (g 1), .ref (g 2), .ref (g 3), .ref (g 4), .ref (g 5), .int g_tp, .int g_so, .int g_tk, .int g_pl, .int g_va, .long g_wo, .int g_bd, .int g_bp, .int g_fa, .int g_fp, .ref (g 6), .ref (g 7), .ref (g 8), .ref (g 9), .ref (g 10), .ref (g 11), .int g_lw, .int g_we, .int g_cu, .int g_go, .int g_ba, .ref (g 12), .ref (g 13), .int g_jo, .ref (g 14), .ref (g 15), .long g_bt, .int g_sb, .int g_ab, .int g_al, .ref (g 16), .ref (g 17)]))] t.heap ∧ va_D (va_A [((g 0), .inr (9, [.int g_th, .ref (g 1), .ref (g 2), .ref (g 3), .ref (g 4), .ref (g 5), .int g_tp, .int g_so, .int g_tk, .int g_pl, .int g_va, .long g_wo, .int g_bd, .int g_bp, .int g_fa, .int g_fp, .ref (g 6), .ref (g 7), .ref (g 8), .ref (g 9), .ref (g 10), .ref (g 11), .int g_lw, .int g_we, .int g_cu, .int g_go, .int g_ba, .ref (g 12), .ref (g 13), .int g_jo, .ref (g 14), .ref (g 15), .long g_bt, .int g_sb, .int g_ab, .int g_al, .ref (g 16), .ref (g 17)]))] sz) [((g 0), .inr (9, [.int u, .ref (g 1), .ref (g 2), .ref (g 3), .ref (g 4), .ref (g 5), .int g_tp, .int g_so, .int g_tk, .int g_pl, .int g_va, .long g_wo, .int g_bd, .int g_bp, .int g_fa, .int g_fp, .ref (g 6), .ref (g 7), .ref (g 8), .ref (g 9), .ref (g 10), .ref (g 11), .int g_lw, .int g_we, .int g_cu, .int g_go, .int g_ba, .ref (g 12), .ref (g 13), .int g_jo, .ref (g 14), .ref (g 15), .long g_bt, .int g_sb, .int g_ab, .int g_al, .ref (g 16), .ref (g 17)]))]) (va_A [((g 0), .inr (9, [.int g_th, .ref (g 1), .ref (g 2), .ref (g 3), .ref (g 4), .ref (g 5), .int g_tp, .int g_so, .int g_tk, .int g_pl, .int g_va, .long g_wo, .int g_bd, .int g_bp, .int g_fa, .int g_fp, .ref (g 6), .ref (g 7), .ref (g 8), .ref (g 9), .ref (g 10), .ref (g 11), .int g_lw, .int g_we, .int g_cu, .int g_go, .int g_ba, .ref (g 12), .ref (g 13), .int g_jo, .ref (g 14), .ref (g 15), .long g_bt, .int g_sb, .int g_ab, .int g_al, .ref (g 16), .ref (g 17)]))] sz)) 0 0 (va_A [((g 0), .inr (9, [.int g_th, .ref (g 1), .ref (g 2), .ref (g 3), .ref (g 4), .ref (g 5), .int g_tp, .int g_so, .int g_tk, .int g_pl, .int g_va, .long g_wo, .int g_bd, .int g_bp, .int g_fa, .int g_fp, .ref (g 6), .ref (g 7), .ref (g 8), .ref (g 9), .ref (g 10), .ref (g 11), .int g_lw, .int g_we, .int g_cu, .int g_go, .int g_ba, .ref (g 12), .ref (g 13), .int g_jo, .ref (g 14), .ref (g 15), .long g_bt, .int g_sb, .int g_ab, .int g_al, .ref (g 16), .ref (g 17)]))] sz) := by
  refine Met.ofW (cc := cX9_fault) (maxL := 2) (ret := (some .int)) (by decide) rfl ?_
  intro p e s m args below meth c s₁ B hml hv
  obtain ⟨rfl, hsz, hP, hK, hD0, hN⟩ := hv
  have hx := B.exec
  have hb := B.bytes
  have hr := B.returns
  have ht : ∀ w ∈ lw_ok, w.before _ s = true := fun w h => atoms_spec (ws := wy yX9_fault cX9_fault 2 (some .int)) B.pre w (List.mem_cons_of_mem _ h)
  have hown : s.vm.findClass RX9 = some m.cls := findClass_of_methodNamed B.named
  have hlocks := B.notSynchronized
  subst hsz
  have hD := hD0.self (sz := s.heap.size)
  generalize hAe : va_A [((g 0), .inr (9, [.int g_th, .ref (g 1), .ref (g 2), .ref (g 3), .ref (g 4), .ref (g 5), .int g_tp, .int g_so, .int g_tk, .int g_pl, .int g_va, .long g_wo, .int g_bd, .int g_bp, .int g_fa, .int g_fp, .ref (g 6), .ref (g 7), .ref (g 8), .ref (g 9), .ref (g 10), .ref (g 11), .int g_lw, .int g_we, .int g_cu, .int g_go, .int g_ba, .ref (g 12), .ref (g 13), .int g_jo, .ref (g 14), .ref (g 15), .long g_bt, .int g_sb, .int g_ab, .int g_al, .ref (g 16), .ref (g 17)]))] s.heap.size = A at hD ⊢
  have hA : ∀ q : Nat, s.heap.size ≤ q → A q := fun q h => by rw [← hAe]; exact Or.inr h
  have hS : va_S A s.heap s.heap [] := va_S.rf
  clear hAe hD0
  have hl := lv_entry ([.ref (g 0), .int p0]) (n := 2) (Nat.le_of_ble_eq_true rfl)
  rw [lg_entry_eq]
  generalize (lg_sl ([.ref (g 0), .int p0]) ++ List.replicate (2 - (lg_sl ([.ref (g 0), .int p0])).length) Slot.unset).toArray = ls at hl ⊢
  have hl : lv_has ls 2 [(0, .ref (g 0)), (1, .int p0)] := hl
  have hP : va_P (dC, dI) vwCl [((g 0), .inr (9, [.int g_th, .ref (g 1), .ref (g 2), .ref (g 3), .ref (g 4), .ref (g 5), .int g_tp, .int g_so, .int g_tk, .int g_pl, .int g_va, .long g_wo, .int g_bd, .int g_bp, .int g_fa, .int g_fp, .ref (g 6), .ref (g 7), .ref (g 8), .ref (g 9), .ref (g 10), .ref (g 11), .int g_lw, .int g_we, .int g_cu, .int g_go, .int g_ba, .ref (g 12), .ref (g 13), .int g_jo, .ref (g 14), .ref (g 15), .long g_bt, .int g_sb, .int g_ab, .int g_al, .ref (g 16), .ref (g 17)]))] s.heap := hP
  have hD : va_D A [((g 0), .inr (9, [.int g_th, .ref (g 1), .ref (g 2), .ref (g 3), .ref (g 4), .ref (g 5), .int g_tp, .int g_so, .int g_tk, .int g_pl, .int g_va, .long g_wo, .int g_bd, .int g_bp, .int g_fa, .int g_fp, .ref (g 6), .ref (g 7), .ref (g 8), .ref (g 9), .ref (g 10), .ref (g 11), .int g_lw, .int g_we, .int g_cu, .int g_go, .int g_ba, .ref (g 12), .ref (g 13), .int g_jo, .ref (g 14), .ref (g 15), .long g_bt, .int g_sb, .int g_ab, .int g_al, .ref (g 16), .ref (g 17)]))] := hD
  have rg_p0 := rgI p0
  refine lv_aload_n hx hb dX9_fault_0 rfl (lv_at hl 0 rfl) ?_
  refine lv_iconst (v := 0) hx hb dX9_fault_1 (by decide) ?_
  refine va_put (D := (dC, dI)) (ci := 9) (v := .int 0) (ty := .int) (C := RX9) (T := TX9) (N := 38) hx hb ht iX9 tyX9 tyX9_ok nmX9 hown hK hP hD hS 0 rfl rfl 0 (by decide) (ht _ w_1262) (fun _ h9 => h9) rfl (by decide +kernel) rfl rfl (Nat.le_of_ble_eq_true rfl) dX9_fault_2 (fun H locs hP hD hS => ?_)
  have hP : va_P (dC, dI) vwCl [((g 0), .inr (9, [.int 0, .ref (g 1), .ref (g 2), .ref (g 3), .ref (g 4), .ref (g 5), .int g_tp, .int g_so, .int g_tk, .int g_pl, .int g_va, .long g_wo, .int g_bd, .int g_bp, .int g_fa, .int g_fp, .ref (g 6), .ref (g 7), .ref (g 8), .ref (g 9), .ref (g 10), .ref (g 11), .int g_lw, .int g_we, .int g_cu, .int g_go, .int g_ba, .ref (g 12), .ref (g 13), .int g_jo, .ref (g 14), .ref (g 15), .long g_bt, .int g_sb, .int g_ab, .int g_al, .ref (g 16), .ref (g 17)]))] H := hP
  have hD : va_D A [((g 0), .inr (9, [.int 0, .ref (g 1), .ref (g 2), .ref (g 3), .ref (g 4), .ref (g 5), .int g_tp, .int g_so, .int g_tk, .int g_pl, .int g_va, .long g_wo, .int g_bd, .int g_bp, .int g_fa, .int g_fp, .ref (g 6), .ref (g 7), .ref (g 8), .ref (g 9), .ref (g 10), .ref (g 11), .int g_lw, .int g_we, .int g_cu, .int g_go, .int g_ba, .ref (g 12), .ref (g 13), .int g_jo, .ref (g 14), .ref (g 15), .long g_bt, .int g_sb, .int g_ab, .int g_al, .ref (g 16), .ref (g 17)]))] := hD
  refine lv_iload_n hx hb dX9_fault_5 rfl (lv_at hl 1 rfl) ?_
  refine lv_if_ne (tgt := 16) hx hb dX9_fault_6 (by decide) (fun c_1 => ?_) (fun c_1 => ?_)
  · (try simp only [i_lt, i_le, i_eq, T0] at c_1)
    refine lv_iload_n hx hb dX9_fault_16 rfl (lv_at hl 1 rfl) ?_
    refine lv_iconst (v := 1) hx hb dX9_fault_17 (by decide) ?_
    refine lv_icmp_ne (tgt := 28) hx hb dX9_fault_18 (by decide) (fun c_2 => ?_) (fun c_2 => ?_)
    · (try simp only [i_lt, i_le, i_eq, T1] at c_2)
      refine lv_iconst (v := (-1)) hx hb dX9_fault_28 (by decide) ?_
      have hP9 := hP.sub (ws' := [((g 0), .inr (9, [.int 0, .ref (g 1), .ref (g 2), .ref (g 3), .ref (g 4), .ref (g 5), .int g_tp, .int g_so, .int g_tk, .int g_pl, .int g_va, .long g_wo, .int g_bd, .int g_bp, .int g_fa, .int g_fp, .ref (g 6), .ref (g 7), .ref (g 8), .ref (g 9), .ref (g 10), .ref (g 11), .int g_lw, .int g_we, .int g_cu, .int g_go, .int g_ba, .ref (g 12), .ref (g 13), .int g_jo, .ref (g 14), .ref (g 15), .long g_bt, .int g_sb, .int g_ab, .int g_al, .ref (g 16), .ref (g 17)]))]) [0] rfl
      have hD9 := hD.sub (ws' := [((g 0), .inr (9, [.int 0, .ref (g 1), .ref (g 2), .ref (g 3), .ref (g 4), .ref (g 5), .int g_tp, .int g_so, .int g_tk, .int g_pl, .int g_va, .long g_wo, .int g_bd, .int g_bp, .int g_fa, .int g_fp, .ref (g 6), .ref (g 7), .ref (g 8), .ref (g 9), .ref (g 10), .ref (g 11), .int g_lw, .int g_we, .int g_cu, .int g_go, .int g_ba, .ref (g 12), .ref (g 13), .int g_jo, .ref (g 14), .ref (g 15), .long g_bt, .int g_sb, .int g_ab, .int g_al, .ref (g 16), .ref (g 17)]))]) [0] (by decide) rfl
      exact W.iret (v := (-1)) hx hb hr (fun t ht hW => ⟨⟨(-1), 0, rfl, trivial, ⟨by rw [ht]; exact hP9, hD9⟩⟩, hS.F ht⟩) hS.2.2 dX9_fault_29
    · (try simp only [i_lt, i_le, i_eq, T1] at c_2)
      refine lv_aload_n hx hb dX9_fault_21 rfl (lv_at hl 0 rfl) ?_
      refine va_get (D := (dC, dI)) (ci := 9) (v := .int g_fp) (C := RX9) (T := TX9) (N := 38) hx hb ht iX9 hown hK hP 0 rfl rfl 15 (by decide) (ht _ w_1277) (fun _ h9 => h9) rfl dX9_fault_22 ?_
      refine lv_goto (tgt := 29) hx hb dX9_fault_25 (by decide) ?_
      have hP9 := hP.sub (ws' := [((g 0), .inr (9, [.int 0, .ref (g 1), .ref (g 2), .ref (g 3), .ref (g 4), .ref (g 5), .int g_tp, .int g_so, .int g_tk, .int g_pl, .int g_va, .long g_wo, .int g_bd, .int g_bp, .int g_fa, .int g_fp, .ref (g 6), .ref (g 7), .ref (g 8), .ref (g 9), .ref (g 10), .ref (g 11), .int g_lw, .int g_we, .int g_cu, .int g_go, .int g_ba, .ref (g 12), .ref (g 13), .int g_jo, .ref (g 14), .ref (g 15), .long g_bt, .int g_sb, .int g_ab, .int g_al, .ref (g 16), .ref (g 17)]))]) [0] rfl
      have hD9 := hD.sub (ws' := [((g 0), .inr (9, [.int 0, .ref (g 1), .ref (g 2), .ref (g 3), .ref (g 4), .ref (g 5), .int g_tp, .int g_so, .int g_tk, .int g_pl, .int g_va, .long g_wo, .int g_bd, .int g_bp, .int g_fa, .int g_fp, .ref (g 6), .ref (g 7), .ref (g 8), .ref (g 9), .ref (g 10), .ref (g 11), .int g_lw, .int g_we, .int g_cu, .int g_go, .int g_ba, .ref (g 12), .ref (g 13), .int g_jo, .ref (g 14), .ref (g 15), .long g_bt, .int g_sb, .int g_ab, .int g_al, .ref (g 16), .ref (g 17)]))]) [0] (by decide) rfl
      exact W.iret (v := g_fp) hx hb hr (fun t ht hW => ⟨⟨g_fp, 0, rfl, trivial, ⟨by rw [ht]; exact hP9, hD9⟩⟩, hS.F ht⟩) hS.2.2 dX9_fault_29
  · (try simp only [i_lt, i_le, i_eq, T0] at c_1)
    refine lv_aload_n hx hb dX9_fault_9 rfl (lv_at hl 0 rfl) ?_
    refine va_get (D := (dC, dI)) (ci := 9) (v := .int g_fa) (C := RX9) (T := TX9) (N := 38) hx hb ht iX9 hown hK hP 0 rfl rfl 14 (by decide) (ht _ w_1276) (fun _ h9 => h9) rfl dX9_fault_10 ?_
    refine lv_goto (tgt := 29) hx hb dX9_fault_13 (by decide) ?_
    have hP9 := hP.sub (ws' := [((g 0), .inr (9, [.int 0, .ref (g 1), .ref (g 2), .ref (g 3), .ref (g 4), .ref (g 5), .int g_tp, .int g_so, .int g_tk, .int g_pl, .int g_va, .long g_wo, .int g_bd, .int g_bp, .int g_fa, .int g_fp, .ref (g 6), .ref (g 7), .ref (g 8), .ref (g 9), .ref (g 10), .ref (g 11), .int g_lw, .int g_we, .int g_cu, .int g_go, .int g_ba, .ref (g 12), .ref (g 13), .int g_jo, .ref (g 14), .ref (g 15), .long g_bt, .int g_sb, .int g_ab, .int g_al, .ref (g 16), .ref (g 17)]))]) [0] rfl
    have hD9 := hD.sub (ws' := [((g 0), .inr (9, [.int 0, .ref (g 1), .ref (g 2), .ref (g 3), .ref (g 4), .ref (g 5), .int g_tp, .int g_so, .int g_tk, .int g_pl, .int g_va, .long g_wo, .int g_bd, .int g_bp, .int g_fa, .int g_fp, .ref (g 6), .ref (g 7), .ref (g 8), .ref (g 9), .ref (g 10), .ref (g 11), .int g_lw, .int g_we, .int g_cu, .int g_go, .int g_ba, .ref (g 12), .ref (g 13), .int g_jo, .ref (g 14), .ref (g 15), .long g_bt, .int g_sb, .int g_ab, .int g_al, .ref (g 16), .ref (g 17)]))]) [0] (by decide) rfl
    exact W.iret (v := g_fa) hx hb hr (fun t ht hW => ⟨⟨g_fa, 0, rfl, trivial, ⟨by rw [ht]; exact hP9, hD9⟩⟩, hS.F ht⟩) hS.2.2 dX9_fault_29
set_option maxHeartbeats 8000000 in
set_option maxRecDepth 100000 in
theorem s_X9_span (l : Launch) (dC : Nat → ClassId) (dI : Nat → Nat → Nat) (cB cI cJ cZ cL : ClassId) (sz : Nat) (g : Nat → Nat) (g_th : Int32) (g_tp : Int32) (g_so : Int32) (g_tk : Int32) (g_pl : Int32) (g_va : Int32) (g_wo : Int64) (g_bd : Int32) (g_bp : Int32) (g_fa : Int32) (g_fp : Int32) (g_lw : Int32) (g_we : Int32) (g_cu : Int32) (g_go : Int32) (g_ba : Int32) (g_jo : Int32) (g_bt : Int64) (g_sb : Int32) (g_ab : Int32) (g_al : Int32) (hs : Nat → Int32) (sp : Nat → Int32) (p0 : Int32) (p1 : Int32) (h4 : 0 ≤ Int32.toInt (hs 4) ∧ Int32.toInt (hs 4) ≤ 5) : Met l yX9_span (wy yX9_span cX9_span 3 (some .int)) ({ frames := 2, cells := 0, slots := 0, locals := 80 }) (va_Pc [.ref (g 0), .int p0, .int p1] (fun U => U.heap.size = sz ∧ va_P (dC, dI) vwCl [((g 0), .inr (9, [.int g_th, .ref (g 1), .ref (g 2), .ref (g 3), .ref (g 4), .ref (g 5), .int g_tp, .int g_so, .int g_tk, .int g_pl, .int g_va, .long g_wo, .int g_bd, .int g_bp, .int g_fa, .int g_fp, .ref (g 6), .ref (g 7), .ref (g 8), .ref (g 9), .ref (g 10), .ref (g 11), .int g_lw, .int g_we, .int g_cu, .int g_go, .int g_ba, .ref (g 12), .ref (g 13), .int g_jo, .ref (g 14), .ref (g 15), .long g_bt, .int g_sb, .int g_ab, .int g_al, .ref (g 16), .ref (g 17)])), ((g 7), .inl (cI, 35, .inl hs)), ((g 8), .inl (cI, 75, .inl sp))] U.heap ∧ va_K (dC, dI) vwCl (tyL cB cI cJ cZ cL) U ∧ va_D (fun _ => True) [((g 0), .inr (9, [.int g_th, .ref (g 1), .ref (g 2), .ref (g 3), .ref (g 4), .ref (g 5), .int g_tp, .int g_so, .int g_tk, .int g_pl, .int g_va, .long g_wo, .int g_bd, .int g_bp, .int g_fa, .int g_fp, .ref (g 6), .ref (g 7), .ref (g 8), .ref (g 9), .ref (g 10), .ref (g 11), .int g_lw, .int g_we, .int g_cu, .int g_go, .int g_ba, .ref (g 12), .ref (g 13), .int g_jo, .ref (g 14), .ref (g 15), .long g_bt, .int g_sb, .int g_ab, .int g_al, .ref (g 16), .ref (g 17)])), ((g 7), .inl (cI, 35, .inl hs)), ((g 8), .inl (cI, 75, .inl sp))] ∧ NW U)) (va_Qi (fun r u => True) (fun (u : (Int32)) t => va_P (dC, dI) vwCl [((g 0), .inr (9, [.int u, .ref (g 1), .ref (g 2), .ref (g 3), .ref (g 4), .ref (g 5), .int g_tp, .int g_so, .int g_tk, .int g_pl, .int g_va, .long g_wo, .int g_bd, .int g_bp, .int g_fa, .int g_fp, .ref (g 6), .ref (g 7), .ref (g 8), .ref (g 9), .ref (g 10), .ref (g 11), .int g_lw, .int g_we, .int g_cu, .int g_go, .int g_ba, .ref (g 12), .ref (g 13), .int g_jo, .ref (g 14), .ref (g 15), .long g_bt, .int g_sb, .int g_ab, .int g_al, .ref (g 16), .ref (g 17)])), ((g 7), .inl (cI, 35, .inl hs)), ((g 8), .inl (cI, 75, .inl sp))] t.heap ∧ va_D (va_A [((g 0), .inr (9, [.int g_th, .ref (g 1), .ref (g 2), .ref (g 3), .ref (g 4), .ref (g 5), .int g_tp, .int g_so, .int g_tk, .int g_pl, .int g_va, .long g_wo, .int g_bd, .int g_bp, .int g_fa, .int g_fp, .ref (g 6), .ref (g 7), .ref (g 8), .ref (g 9), .ref (g 10), .ref (g 11), .int g_lw, .int g_we, .int g_cu, .int g_go, .int g_ba, .ref (g 12), .ref (g 13), .int g_jo, .ref (g 14), .ref (g 15), .long g_bt, .int g_sb, .int g_ab, .int g_al, .ref (g 16), .ref (g 17)])), ((g 7), .inl (cI, 35, .inl hs)), ((g 8), .inl (cI, 75, .inl sp))] sz) [((g 0), .inr (9, [.int u, .ref (g 1), .ref (g 2), .ref (g 3), .ref (g 4), .ref (g 5), .int g_tp, .int g_so, .int g_tk, .int g_pl, .int g_va, .long g_wo, .int g_bd, .int g_bp, .int g_fa, .int g_fp, .ref (g 6), .ref (g 7), .ref (g 8), .ref (g 9), .ref (g 10), .ref (g 11), .int g_lw, .int g_we, .int g_cu, .int g_go, .int g_ba, .ref (g 12), .ref (g 13), .int g_jo, .ref (g 14), .ref (g 15), .long g_bt, .int g_sb, .int g_ab, .int g_al, .ref (g 16), .ref (g 17)])), ((g 7), .inl (cI, 35, .inl hs)), ((g 8), .inl (cI, 75, .inl sp))]) (va_A [((g 0), .inr (9, [.int g_th, .ref (g 1), .ref (g 2), .ref (g 3), .ref (g 4), .ref (g 5), .int g_tp, .int g_so, .int g_tk, .int g_pl, .int g_va, .long g_wo, .int g_bd, .int g_bp, .int g_fa, .int g_fp, .ref (g 6), .ref (g 7), .ref (g 8), .ref (g 9), .ref (g 10), .ref (g 11), .int g_lw, .int g_we, .int g_cu, .int g_go, .int g_ba, .ref (g 12), .ref (g 13), .int g_jo, .ref (g 14), .ref (g 15), .long g_bt, .int g_sb, .int g_ab, .int g_al, .ref (g 16), .ref (g 17)])), ((g 7), .inl (cI, 35, .inl hs)), ((g 8), .inl (cI, 75, .inl sp))] sz)) 0 0 (va_A [((g 0), .inr (9, [.int g_th, .ref (g 1), .ref (g 2), .ref (g 3), .ref (g 4), .ref (g 5), .int g_tp, .int g_so, .int g_tk, .int g_pl, .int g_va, .long g_wo, .int g_bd, .int g_bp, .int g_fa, .int g_fp, .ref (g 6), .ref (g 7), .ref (g 8), .ref (g 9), .ref (g 10), .ref (g 11), .int g_lw, .int g_we, .int g_cu, .int g_go, .int g_ba, .ref (g 12), .ref (g 13), .int g_jo, .ref (g 14), .ref (g 15), .long g_bt, .int g_sb, .int g_ab, .int g_al, .ref (g 16), .ref (g 17)])), ((g 7), .inl (cI, 35, .inl hs)), ((g 8), .inl (cI, 75, .inl sp))] sz) := by
  refine Met.ofW (cc := cX9_span) (maxL := 3) (ret := (some .int)) (by decide) rfl ?_
  intro p e s m args below meth c s₁ B hml hv
  obtain ⟨rfl, hsz, hP, hK, hD0, hN⟩ := hv
  have hx := B.exec
  have hb := B.bytes
  have hr := B.returns
  have ht : ∀ w ∈ lw_ok, w.before _ s = true := fun w h => atoms_spec (ws := wy yX9_span cX9_span 3 (some .int)) B.pre w (List.mem_cons_of_mem _ h)
  have hown : s.vm.findClass RX9 = some m.cls := findClass_of_methodNamed B.named
  have hlocks := B.notSynchronized
  subst hsz
  have hD := hD0.self (sz := s.heap.size)
  generalize hAe : va_A [((g 0), .inr (9, [.int g_th, .ref (g 1), .ref (g 2), .ref (g 3), .ref (g 4), .ref (g 5), .int g_tp, .int g_so, .int g_tk, .int g_pl, .int g_va, .long g_wo, .int g_bd, .int g_bp, .int g_fa, .int g_fp, .ref (g 6), .ref (g 7), .ref (g 8), .ref (g 9), .ref (g 10), .ref (g 11), .int g_lw, .int g_we, .int g_cu, .int g_go, .int g_ba, .ref (g 12), .ref (g 13), .int g_jo, .ref (g 14), .ref (g 15), .long g_bt, .int g_sb, .int g_ab, .int g_al, .ref (g 16), .ref (g 17)])), ((g 7), .inl (cI, 35, .inl hs)), ((g 8), .inl (cI, 75, .inl sp))] s.heap.size = A at hD ⊢
  have hA : ∀ q : Nat, s.heap.size ≤ q → A q := fun q h => by rw [← hAe]; exact Or.inr h
  have hS : va_S A s.heap s.heap [] := va_S.rf
  clear hAe hD0
  have hl := lv_entry ([.ref (g 0), .int p0, .int p1]) (n := 3) (Nat.le_of_ble_eq_true rfl)
  rw [lg_entry_eq]
  generalize (lg_sl ([.ref (g 0), .int p0, .int p1]) ++ List.replicate (3 - (lg_sl ([.ref (g 0), .int p0, .int p1])).length) Slot.unset).toArray = ls at hl ⊢
  have hl : lv_has ls 3 [(0, .ref (g 0)), (1, .int p0), (2, .int p1)] := hl
  have hP : va_P (dC, dI) vwCl [((g 0), .inr (9, [.int g_th, .ref (g 1), .ref (g 2), .ref (g 3), .ref (g 4), .ref (g 5), .int g_tp, .int g_so, .int g_tk, .int g_pl, .int g_va, .long g_wo, .int g_bd, .int g_bp, .int g_fa, .int g_fp, .ref (g 6), .ref (g 7), .ref (g 8), .ref (g 9), .ref (g 10), .ref (g 11), .int g_lw, .int g_we, .int g_cu, .int g_go, .int g_ba, .ref (g 12), .ref (g 13), .int g_jo, .ref (g 14), .ref (g 15), .long g_bt, .int g_sb, .int g_ab, .int g_al, .ref (g 16), .ref (g 17)])), ((g 7), .inl (cI, 35, .inl hs)), ((g 8), .inl (cI, 75, .inl sp))] s.heap := hP
  have hD : va_D A [((g 0), .inr (9, [.int g_th, .ref (g 1), .ref (g 2), .ref (g 3), .ref (g 4), .ref (g 5), .int g_tp, .int g_so, .int g_tk, .int g_pl, .int g_va, .long g_wo, .int g_bd, .int g_bp, .int g_fa, .int g_fp, .ref (g 6), .ref (g 7), .ref (g 8), .ref (g 9), .ref (g 10), .ref (g 11), .int g_lw, .int g_we, .int g_cu, .int g_go, .int g_ba, .ref (g 12), .ref (g 13), .int g_jo, .ref (g 14), .ref (g 15), .long g_bt, .int g_sb, .int g_ab, .int g_al, .ref (g 16), .ref (g 17)])), ((g 7), .inl (cI, 35, .inl hs)), ((g 8), .inl (cI, 75, .inl sp))] := hD
  have rg_p0 := rgI p0
  have rg_p1 := rgI p1
  refine lv_aload_n hx hb dX9_span_0 rfl (lv_at hl 0 rfl) ?_
  refine lv_iconst (v := 0) hx hb dX9_span_1 (by decide) ?_
  refine va_put (D := (dC, dI)) (ci := 9) (v := .int 0) (ty := .int) (C := RX9) (T := TX9) (N := 38) hx hb ht iX9 tyX9 tyX9_ok nmX9 hown hK hP hD hS 0 rfl rfl 0 (by decide) (ht _ w_1262) (fun _ h9 => h9) rfl (by decide +kernel) rfl rfl (Nat.le_of_ble_eq_true rfl) dX9_span_2 (fun H locs hP hD hS => ?_)
  have hP : va_P (dC, dI) vwCl [((g 0), .inr (9, [.int 0, .ref (g 1), .ref (g 2), .ref (g 3), .ref (g 4), .ref (g 5), .int g_tp, .int g_so, .int g_tk, .int g_pl, .int g_va, .long g_wo, .int g_bd, .int g_bp, .int g_fa, .int g_fp, .ref (g 6), .ref (g 7), .ref (g 8), .ref (g 9), .ref (g 10), .ref (g 11), .int g_lw, .int g_we, .int g_cu, .int g_go, .int g_ba, .ref (g 12), .ref (g 13), .int g_jo, .ref (g 14), .ref (g 15), .long g_bt, .int g_sb, .int g_ab, .int g_al, .ref (g 16), .ref (g 17)])), ((g 7), .inl (cI, 35, .inl hs)), ((g 8), .inl (cI, 75, .inl sp))] H := hP
  have hD : va_D A [((g 0), .inr (9, [.int 0, .ref (g 1), .ref (g 2), .ref (g 3), .ref (g 4), .ref (g 5), .int g_tp, .int g_so, .int g_tk, .int g_pl, .int g_va, .long g_wo, .int g_bd, .int g_bp, .int g_fa, .int g_fp, .ref (g 6), .ref (g 7), .ref (g 8), .ref (g 9), .ref (g 10), .ref (g 11), .int g_lw, .int g_we, .int g_cu, .int g_go, .int g_ba, .ref (g 12), .ref (g 13), .int g_jo, .ref (g 14), .ref (g 15), .long g_bt, .int g_sb, .int g_ab, .int g_al, .ref (g 16), .ref (g 17)])), ((g 7), .inl (cI, 35, .inl hs)), ((g 8), .inl (cI, 75, .inl sp))] := hD
  refine lv_aload_n hx hb dX9_span_5 rfl (lv_at hl 0 rfl) ?_
  refine lv_iload_n hx hb dX9_span_6 rfl (lv_at hl 1 rfl) ?_
  have hPc := hP.sub (ws' := [((g 0), .inr (9, [.int 0, .ref (g 1), .ref (g 2), .ref (g 3), .ref (g 4), .ref (g 5), .int g_tp, .int g_so, .int g_tk, .int g_pl, .int g_va, .long g_wo, .int g_bd, .int g_bp, .int g_fa, .int g_fp, .ref (g 6), .ref (g 7), .ref (g 8), .ref (g 9), .ref (g 10), .ref (g 11), .int g_lw, .int g_we, .int g_cu, .int g_go, .int g_ba, .ref (g 12), .ref (g 13), .int g_jo, .ref (g 14), .ref (g 15), .long g_bt, .int g_sb, .int g_ab, .int g_al, .ref (g 16), .ref (g 17)])), ((g 7), .inl (cI, 35, .inl hs))]) [0, 1] rfl
  refine vp_callSi (W.runV (As := [.int p0]) (rest := []) ⟨hx, hb, hml, hown, ht⟩ (s_X9_isSpan l dC dI cB cI cJ cZ cL g 0 g_tp g_so g_tk g_pl g_va g_wo g_bd g_bp g_fa g_fp g_lw g_we g_cu g_go g_ba g_jo g_bt g_sb g_ab g_al hs p0 (by first | assumption | omega | decide | (simp only [T0, T1, T2, T3, Tm1]; omega))) (cwV 1 ht (gV w_1517 w_1519 w_66 w_114 w_1520) rfl rfl rfl (by decide +kernel) ⟨Nat.le_of_ble_eq_true rfl, Nat.le_of_ble_eq_true rfl⟩) (pVSn hN hK hPc (ci := 9) (q0 := 0) rfl rfl) rfl rfl hl.1 rfl (lv_room (Nat.le_of_ble_eq_true rfl)) dX9_span_7 ⟨Nat.le_of_ble_eq_true rfl, Nat.le_of_ble_eq_true rfl⟩) (fun r_1 hw => ?_)
  clear hPc
  (try dsimp only at hw)
  have hw_2 := hw
  clear hw
  rcases hw_2 with ⟨hw, c_3⟩ | ⟨hw, c_3⟩
  · subst hw
    refine lv_if_eq (tgt := 38) hx hb dX9_span_10 (by decide) (fun c9 => by first | exact absurd c9 (by decide) | exact absurd (by decide) c9) (fun _ => ?_)
    refine lv_iload_n hx hb dX9_span_13 rfl (lv_at hl 2 rfl) ?_
    refine lv_i2l hx hb dX9_span_14 rfl ?_
    refine lv_topl (fun y_4 ey_4 => ?_)
    have ty_4 := i2lF ey_4
    clear ey_4
    refine lv_lconst (v := 0) hx hb dX9_span_15 (by decide) ?_
    refine lv_ldc2 hx hb hown (ht _ w_1525) dX9_span_16 ?_
    have hPc := hP.sub (ws' := []) [] rfl
    refine vp_callSi (W.runS (As := [.long y_4, .long 0, .long 2]) (rest := []) ⟨hx, hb, hml, hown, ht⟩ (s_X9_in l dC dI cB cI cJ cZ cL y_4 0 2) (va_cwS 3 ht (gQ w_1386 w_1387 w_114 w_1388) rfl rfl rfl (by decide +kernel) ⟨Nat.le_of_ble_eq_true rfl, Nat.le_of_ble_eq_true rfl⟩) (pSSn hN hK hPc) rfl rfl hl.1 rfl (lv_room (Nat.le_of_ble_eq_true rfl)) dX9_span_19 ⟨Nat.le_of_ble_eq_true rfl, Nat.le_of_ble_eq_true rfl⟩) (fun r_5 hw => ?_)
    clear hPc
    (try dsimp only at hw)
    have hw_6 := hw
    clear hw
    (try simp only [L0, L2] at hw_6)
    rcases hw_6 with ⟨hw, c_7⟩ | ⟨hw, c_7⟩
    · subst hw
      refine lv_if_eq (tgt := 38) hx hb dX9_span_22 (by decide) (fun c9 => by first | exact absurd c9 (by decide) | exact absurd (by decide) c9) (fun _ => ?_)
      refine lv_aload_n hx hb dX9_span_25 rfl (lv_at hl 0 rfl) ?_
      refine va_get (D := (dC, dI)) (ci := 9) (v := .ref (g 8)) (C := RX9) (T := TX9) (N := 38) hx hb ht iX9 hown hK hP 0 rfl rfl 18 (by decide) (ht _ w_1280) (fun _ h9 => h9) rfl dX9_span_26 ?_
      refine lv_iconst (v := 3) hx hb dX9_span_29 (by decide) ?_
      refine lv_iload_n hx hb dX9_span_30 rfl (lv_at hl 1 rfl) ?_
      refine lv_imul hx hb dX9_span_31 ?_
      refine lv_topi (fun y_8 ey_8 => ?_)
      have ty_8 := imulF ey_8
      simp only [T3] at ty_8
      clear ey_8
      refine lv_iload_n hx hb dX9_span_32 rfl (lv_at hl 2 rfl) ?_
      refine lv_iadd hx hb dX9_span_33 ?_
      refine lv_topi (fun y_9 ey_9 => ?_)
      have ty_9 := iaddF ey_9
      clear ey_9
      refine va_iald hx hb hK hP 2 1 rfl rfl (vp_in_iff.mpr (by omega)) dX9_span_34 ?_
      refine lv_topi (fun y_10 ey_10 => ?_)
      refine lv_goto (tgt := 40) hx hb dX9_span_35 (by decide) ?_
      have hP9 := hP.sub (ws' := [((g 0), .inr (9, [.int 0, .ref (g 1), .ref (g 2), .ref (g 3), .ref (g 4), .ref (g 5), .int g_tp, .int g_so, .int g_tk, .int g_pl, .int g_va, .long g_wo, .int g_bd, .int g_bp, .int g_fa, .int g_fp, .ref (g 6), .ref (g 7), .ref (g 8), .ref (g 9), .ref (g 10), .ref (g 11), .int g_lw, .int g_we, .int g_cu, .int g_go, .int g_ba, .ref (g 12), .ref (g 13), .int g_jo, .ref (g 14), .ref (g 15), .long g_bt, .int g_sb, .int g_ab, .int g_al, .ref (g 16), .ref (g 17)])), ((g 7), .inl (cI, 35, .inl hs)), ((g 8), .inl (cI, 75, .inl sp))]) [0, 1, 2] rfl
      have hD9 := hD.sub (ws' := [((g 0), .inr (9, [.int 0, .ref (g 1), .ref (g 2), .ref (g 3), .ref (g 4), .ref (g 5), .int g_tp, .int g_so, .int g_tk, .int g_pl, .int g_va, .long g_wo, .int g_bd, .int g_bp, .int g_fa, .int g_fp, .ref (g 6), .ref (g 7), .ref (g 8), .ref (g 9), .ref (g 10), .ref (g 11), .int g_lw, .int g_we, .int g_cu, .int g_go, .int g_ba, .ref (g 12), .ref (g 13), .int g_jo, .ref (g 14), .ref (g 15), .long g_bt, .int g_sb, .int g_ab, .int g_al, .ref (g 16), .ref (g 17)])), ((g 7), .inl (cI, 35, .inl hs)), ((g 8), .inl (cI, 75, .inl sp))]) [0, 1, 2] (by decide) rfl
      exact W.iret (v := y_10) hx hb hr (fun t ht hW => ⟨⟨y_10, 0, rfl, trivial, ⟨by rw [ht]; exact hP9, hD9⟩⟩, hS.F ht⟩) hS.2.2 dX9_span_40
    · subst hw
      refine lv_if_eq (tgt := 38) hx hb dX9_span_22 (by decide) (fun _ => ?_) (fun c9 => by first | exact absurd (by decide) c9 | exact absurd c9 (by decide))
      refine lv_bipush (v := (-2)) hx hb dX9_span_38 (by decide) ?_
      have hP9 := hP.sub (ws' := [((g 0), .inr (9, [.int 0, .ref (g 1), .ref (g 2), .ref (g 3), .ref (g 4), .ref (g 5), .int g_tp, .int g_so, .int g_tk, .int g_pl, .int g_va, .long g_wo, .int g_bd, .int g_bp, .int g_fa, .int g_fp, .ref (g 6), .ref (g 7), .ref (g 8), .ref (g 9), .ref (g 10), .ref (g 11), .int g_lw, .int g_we, .int g_cu, .int g_go, .int g_ba, .ref (g 12), .ref (g 13), .int g_jo, .ref (g 14), .ref (g 15), .long g_bt, .int g_sb, .int g_ab, .int g_al, .ref (g 16), .ref (g 17)])), ((g 7), .inl (cI, 35, .inl hs)), ((g 8), .inl (cI, 75, .inl sp))]) [0, 1, 2] rfl
      have hD9 := hD.sub (ws' := [((g 0), .inr (9, [.int 0, .ref (g 1), .ref (g 2), .ref (g 3), .ref (g 4), .ref (g 5), .int g_tp, .int g_so, .int g_tk, .int g_pl, .int g_va, .long g_wo, .int g_bd, .int g_bp, .int g_fa, .int g_fp, .ref (g 6), .ref (g 7), .ref (g 8), .ref (g 9), .ref (g 10), .ref (g 11), .int g_lw, .int g_we, .int g_cu, .int g_go, .int g_ba, .ref (g 12), .ref (g 13), .int g_jo, .ref (g 14), .ref (g 15), .long g_bt, .int g_sb, .int g_ab, .int g_al, .ref (g 16), .ref (g 17)])), ((g 7), .inl (cI, 35, .inl hs)), ((g 8), .inl (cI, 75, .inl sp))]) [0, 1, 2] (by decide) rfl
      exact W.iret (v := (-2)) hx hb hr (fun t ht hW => ⟨⟨(-2), 0, rfl, trivial, ⟨by rw [ht]; exact hP9, hD9⟩⟩, hS.F ht⟩) hS.2.2 dX9_span_40
  · subst hw
    refine lv_if_eq (tgt := 38) hx hb dX9_span_10 (by decide) (fun _ => ?_) (fun c9 => by first | exact absurd (by decide) c9 | exact absurd c9 (by decide))
    refine lv_bipush (v := (-2)) hx hb dX9_span_38 (by decide) ?_
    have hP9 := hP.sub (ws' := [((g 0), .inr (9, [.int 0, .ref (g 1), .ref (g 2), .ref (g 3), .ref (g 4), .ref (g 5), .int g_tp, .int g_so, .int g_tk, .int g_pl, .int g_va, .long g_wo, .int g_bd, .int g_bp, .int g_fa, .int g_fp, .ref (g 6), .ref (g 7), .ref (g 8), .ref (g 9), .ref (g 10), .ref (g 11), .int g_lw, .int g_we, .int g_cu, .int g_go, .int g_ba, .ref (g 12), .ref (g 13), .int g_jo, .ref (g 14), .ref (g 15), .long g_bt, .int g_sb, .int g_ab, .int g_al, .ref (g 16), .ref (g 17)])), ((g 7), .inl (cI, 35, .inl hs)), ((g 8), .inl (cI, 75, .inl sp))]) [0, 1, 2] rfl
    have hD9 := hD.sub (ws' := [((g 0), .inr (9, [.int 0, .ref (g 1), .ref (g 2), .ref (g 3), .ref (g 4), .ref (g 5), .int g_tp, .int g_so, .int g_tk, .int g_pl, .int g_va, .long g_wo, .int g_bd, .int g_bp, .int g_fa, .int g_fp, .ref (g 6), .ref (g 7), .ref (g 8), .ref (g 9), .ref (g 10), .ref (g 11), .int g_lw, .int g_we, .int g_cu, .int g_go, .int g_ba, .ref (g 12), .ref (g 13), .int g_jo, .ref (g 14), .ref (g 15), .long g_bt, .int g_sb, .int g_ab, .int g_al, .ref (g 16), .ref (g 17)])), ((g 7), .inl (cI, 35, .inl hs)), ((g 8), .inl (cI, 75, .inl sp))]) [0, 1, 2] (by decide) rfl
    exact W.iret (v := (-2)) hx hb hr (fun t ht hW => ⟨⟨(-2), 0, rfl, trivial, ⟨by rw [ht]; exact hP9, hD9⟩⟩, hS.F ht⟩) hS.2.2 dX9_span_40
