set_option maxHeartbeats 8000000 in
set_option maxRecDepth 100000 in
theorem s_X9_lineHere (l : Launch) (dC : Nat → ClassId) (dI : Nat → Nat → Nat) (cB cI cJ cZ cL : ClassId) (sz : Nat) (g : Nat → Nat) (g_th : Int32) (g_tp : Int32) (g_so : Int32) (g_tk : Int32) (g_pl : Int32) (g_va : Int32) (g_wo : Int64) (g_bd : Int32) (g_bp : Int32) (g_fa : Int32) (g_fp : Int32) (g_lw : Int32) (g_we : Int32) (g_cu : Int32) (g_go : Int32) (g_ba : Int32) (g_jo : Int32) (g_bt : Int64) (g_sb : Int32) (g_ab : Int32) (g_al : Int32) (tb : Nat → Int32) (hs : Nat → Int32) (sp : Nat → Int32) (wt : Nat → Int32)  (htp : 0 ≤ Int32.toInt g_tp ∧ Int32.toInt g_tp ≤ 500) (hso : 0 ≤ Int32.toInt g_so ∧ Int32.toInt g_so ≤ Int32.toInt g_tp) (hwi : WI hs sp) : Met l yX9_lineHere (wy yX9_lineHere cX9_lineHere 1 none) ({ frames := 6, cells := 0, slots := 0, locals := 240 }) (va_Pc [.ref (g 0)] (fun U => U.heap.size = sz ∧ va_P (dC, dI) vwCl [((g 0), .inr (9, [.int g_th, .ref (g 1), .ref (g 2), .ref (g 3), .ref (g 4), .ref (g 5), .int g_tp, .int g_so, .int g_tk, .int g_pl, .int g_va, .long g_wo, .int g_bd, .int g_bp, .int g_fa, .int g_fp, .ref (g 6), .ref (g 7), .ref (g 8), .ref (g 9), .ref (g 10), .ref (g 11), .int g_lw, .int g_we, .int g_cu, .int g_go, .int g_ba, .ref (g 12), .ref (g 13), .int g_jo, .ref (g 14), .ref (g 15), .long g_bt, .int g_sb, .int g_ab, .int g_al, .ref (g 16), .ref (g 17)])), ((g 5), .inl (cB, 500, .inl tb)), ((g 7), .inl (cI, 35, .inl hs)), ((g 8), .inl (cI, 75, .inl sp)), ((g 9), .inl (cI, 40, .inl wt))] U.heap ∧ va_K (dC, dI) vwCl (tyL cB cI cJ cZ cL) U ∧ va_D (fun _ => True) [((g 0), .inr (9, [.int g_th, .ref (g 1), .ref (g 2), .ref (g 3), .ref (g 4), .ref (g 5), .int g_tp, .int g_so, .int g_tk, .int g_pl, .int g_va, .long g_wo, .int g_bd, .int g_bp, .int g_fa, .int g_fp, .ref (g 6), .ref (g 7), .ref (g 8), .ref (g 9), .ref (g 10), .ref (g 11), .int g_lw, .int g_we, .int g_cu, .int g_go, .int g_ba, .ref (g 12), .ref (g 13), .int g_jo, .ref (g 14), .ref (g 15), .long g_bt, .int g_sb, .int g_ab, .int g_al, .ref (g 16), .ref (g 17)])), ((g 5), .inl (cB, 500, .inl tb)), ((g 7), .inl (cI, 35, .inl hs)), ((g 8), .inl (cI, 75, .inl sp)), ((g 9), .inl (cI, 40, .inl wt))] ∧ NW U)) (va_Qv (fun u => (WI u.2.2.2.2.2.2.2.1 u.2.2.2.2.2.2.2.2.1) ∧ (Int32.toInt g_so ≤ Int32.toInt u.1) ∧ (Int32.toInt u.1 ≤ Int32.toInt g_tp)) (fun (u : (Int32) × (Int32) × (Int32) × (Int32) × (Int64) × (Int32) × (Int32) × (Nat → Int32) × (Nat → Int32) × (Nat → Int32)) t => va_P (dC, dI) vwCl [((g 0), .inr (9, [.int g_th, .ref (g 1), .ref (g 2), .ref (g 3), .ref (g 4), .ref (g 5), .int g_tp, .int u.1, .int u.2.1, .int u.2.2.1, .int u.2.2.2.1, .long u.2.2.2.2.1, .int u.2.2.2.2.2.1, .int u.2.2.2.2.2.2.1, .int g_fa, .int g_fp, .ref (g 6), .ref (g 7), .ref (g 8), .ref (g 9), .ref (g 10), .ref (g 11), .int g_lw, .int g_we, .int g_cu, .int g_go, .int g_ba, .ref (g 12), .ref (g 13), .int g_jo, .ref (g 14), .ref (g 15), .long g_bt, .int g_sb, .int g_ab, .int g_al, .ref (g 16), .ref (g 17)])), ((g 5), .inl (cB, 500, .inl tb)), ((g 7), .inl (cI, 35, .inl u.2.2.2.2.2.2.2.1)), ((g 8), .inl (cI, 75, .inl u.2.2.2.2.2.2.2.2.1)), ((g 9), .inl (cI, 40, .inl u.2.2.2.2.2.2.2.2.2))] t.heap ∧ va_D (va_A [((g 0), .inr (9, [.int g_th, .ref (g 1), .ref (g 2), .ref (g 3), .ref (g 4), .ref (g 5), .int g_tp, .int g_so, .int g_tk, .int g_pl, .int g_va, .long g_wo, .int g_bd, .int g_bp, .int g_fa, .int g_fp, .ref (g 6), .ref (g 7), .ref (g 8), .ref (g 9), .ref (g 10), .ref (g 11), .int g_lw, .int g_we, .int g_cu, .int g_go, .int g_ba, .ref (g 12), .ref (g 13), .int g_jo, .ref (g 14), .ref (g 15), .long g_bt, .int g_sb, .int g_ab, .int g_al, .ref (g 16), .ref (g 17)])), ((g 5), .inl (cB, 500, .inl tb)), ((g 7), .inl (cI, 35, .inl hs)), ((g 8), .inl (cI, 75, .inl sp)), ((g 9), .inl (cI, 40, .inl wt))] sz) [((g 0), .inr (9, [.int g_th, .ref (g 1), .ref (g 2), .ref (g 3), .ref (g 4), .ref (g 5), .int g_tp, .int u.1, .int u.2.1, .int u.2.2.1, .int u.2.2.2.1, .long u.2.2.2.2.1, .int u.2.2.2.2.2.1, .int u.2.2.2.2.2.2.1, .int g_fa, .int g_fp, .ref (g 6), .ref (g 7), .ref (g 8), .ref (g 9), .ref (g 10), .ref (g 11), .int g_lw, .int g_we, .int g_cu, .int g_go, .int g_ba, .ref (g 12), .ref (g 13), .int g_jo, .ref (g 14), .ref (g 15), .long g_bt, .int g_sb, .int g_ab, .int g_al, .ref (g 16), .ref (g 17)])), ((g 5), .inl (cB, 500, .inl tb)), ((g 7), .inl (cI, 35, .inl u.2.2.2.2.2.2.2.1)), ((g 8), .inl (cI, 75, .inl u.2.2.2.2.2.2.2.2.1)), ((g 9), .inl (cI, 40, .inl u.2.2.2.2.2.2.2.2.2))]) (va_A [((g 0), .inr (9, [.int g_th, .ref (g 1), .ref (g 2), .ref (g 3), .ref (g 4), .ref (g 5), .int g_tp, .int g_so, .int g_tk, .int g_pl, .int g_va, .long g_wo, .int g_bd, .int g_bp, .int g_fa, .int g_fp, .ref (g 6), .ref (g 7), .ref (g 8), .ref (g 9), .ref (g 10), .ref (g 11), .int g_lw, .int g_we, .int g_cu, .int g_go, .int g_ba, .ref (g 12), .ref (g 13), .int g_jo, .ref (g 14), .ref (g 15), .long g_bt, .int g_sb, .int g_ab, .int g_al, .ref (g 16), .ref (g 17)])), ((g 5), .inl (cB, 500, .inl tb)), ((g 7), .inl (cI, 35, .inl hs)), ((g 8), .inl (cI, 75, .inl sp)), ((g 9), .inl (cI, 40, .inl wt))] sz)) 0 0 (va_A [((g 0), .inr (9, [.int g_th, .ref (g 1), .ref (g 2), .ref (g 3), .ref (g 4), .ref (g 5), .int g_tp, .int g_so, .int g_tk, .int g_pl, .int g_va, .long g_wo, .int g_bd, .int g_bp, .int g_fa, .int g_fp, .ref (g 6), .ref (g 7), .ref (g 8), .ref (g 9), .ref (g 10), .ref (g 11), .int g_lw, .int g_we, .int g_cu, .int g_go, .int g_ba, .ref (g 12), .ref (g 13), .int g_jo, .ref (g 14), .ref (g 15), .long g_bt, .int g_sb, .int g_ab, .int g_al, .ref (g 16), .ref (g 17)])), ((g 5), .inl (cB, 500, .inl tb)), ((g 7), .inl (cI, 35, .inl hs)), ((g 8), .inl (cI, 75, .inl sp)), ((g 9), .inl (cI, 40, .inl wt))] sz) := by
  refine Met.ofW (cc := cX9_lineHere) (maxL := 1) (ret := none) (by decide) rfl ?_
  intro p e s m args below meth c s₁ B hml hv
  obtain ⟨rfl, hsz, hP, hK, hD0, hN⟩ := hv
  have hx := B.exec
  have hb := B.bytes
  have hr := B.returns
  have ht : ∀ w ∈ lw_ok, w.before _ s = true := fun w h => atoms_spec (ws := wy yX9_lineHere cX9_lineHere 1 none) B.pre w (List.mem_cons_of_mem _ h)
  have hown : s.vm.findClass RX9 = some m.cls := findClass_of_methodNamed B.named
  have hlocks := B.notSynchronized
  subst hsz
  have hD := hD0.self (sz := s.heap.size)
  generalize hAe : va_A [((g 0), .inr (9, [.int g_th, .ref (g 1), .ref (g 2), .ref (g 3), .ref (g 4), .ref (g 5), .int g_tp, .int g_so, .int g_tk, .int g_pl, .int g_va, .long g_wo, .int g_bd, .int g_bp, .int g_fa, .int g_fp, .ref (g 6), .ref (g 7), .ref (g 8), .ref (g 9), .ref (g 10), .ref (g 11), .int g_lw, .int g_we, .int g_cu, .int g_go, .int g_ba, .ref (g 12), .ref (g 13), .int g_jo, .ref (g 14), .ref (g 15), .long g_bt, .int g_sb, .int g_ab, .int g_al, .ref (g 16), .ref (g 17)])), ((g 5), .inl (cB, 500, .inl tb)), ((g 7), .inl (cI, 35, .inl hs)), ((g 8), .inl (cI, 75, .inl sp)), ((g 9), .inl (cI, 40, .inl wt))] s.heap.size = A at hD ⊢
  have hA : ∀ q : Nat, s.heap.size ≤ q → A q := fun q h => by rw [← hAe]; exact Or.inr h
  have hS : va_S A s.heap s.heap [] := va_S.rf
  clear hAe hD0
  have hl := lv_entry ([.ref (g 0)]) (n := 1) (Nat.le_of_ble_eq_true rfl)
  rw [lg_entry_eq]
  generalize (lg_sl ([.ref (g 0)]) ++ List.replicate (1 - (lg_sl ([.ref (g 0)])).length) Slot.unset).toArray = ls at hl ⊢
  have hl : lv_has ls 1 [(0, .ref (g 0))] := hl
  have hP : va_P (dC, dI) vwCl [((g 0), .inr (9, [.int g_th, .ref (g 1), .ref (g 2), .ref (g 3), .ref (g 4), .ref (g 5), .int g_tp, .int g_so, .int g_tk, .int g_pl, .int g_va, .long g_wo, .int g_bd, .int g_bp, .int g_fa, .int g_fp, .ref (g 6), .ref (g 7), .ref (g 8), .ref (g 9), .ref (g 10), .ref (g 11), .int g_lw, .int g_we, .int g_cu, .int g_go, .int g_ba, .ref (g 12), .ref (g 13), .int g_jo, .ref (g 14), .ref (g 15), .long g_bt, .int g_sb, .int g_ab, .int g_al, .ref (g 16), .ref (g 17)])), ((g 5), .inl (cB, 500, .inl tb)), ((g 7), .inl (cI, 35, .inl hs)), ((g 8), .inl (cI, 75, .inl sp)), ((g 9), .inl (cI, 40, .inl wt))] s.heap := hP
  have hD : va_D A [((g 0), .inr (9, [.int g_th, .ref (g 1), .ref (g 2), .ref (g 3), .ref (g 4), .ref (g 5), .int g_tp, .int g_so, .int g_tk, .int g_pl, .int g_va, .long g_wo, .int g_bd, .int g_bp, .int g_fa, .int g_fp, .ref (g 6), .ref (g 7), .ref (g 8), .ref (g 9), .ref (g 10), .ref (g 11), .int g_lw, .int g_we, .int g_cu, .int g_go, .int g_ba, .ref (g 12), .ref (g 13), .int g_jo, .ref (g 14), .ref (g 15), .long g_bt, .int g_sb, .int g_ab, .int g_al, .ref (g 16), .ref (g 17)])), ((g 5), .inl (cB, 500, .inl tb)), ((g 7), .inl (cI, 35, .inl hs)), ((g 8), .inl (cI, 75, .inl sp)), ((g 9), .inl (cI, 40, .inl wt))] := hD
  refine lv_aload_n hx hb dX9_lineHere_0 rfl (lv_at hl 0 rfl) ?_
  refine lv_aload_n hx hb dX9_lineHere_1 rfl (lv_at hl 0 rfl) ?_
  refine lv_ldc2 hx hb hown (ht _ w_1482) dX9_lineHere_2 ?_
  have hPc := hP.sub (ws' := [((g 0), .inr (9, [.int g_th, .ref (g 1), .ref (g 2), .ref (g 3), .ref (g 4), .ref (g 5), .int g_tp, .int g_so, .int g_tk, .int g_pl, .int g_va, .long g_wo, .int g_bd, .int g_bp, .int g_fa, .int g_fp, .ref (g 6), .ref (g 7), .ref (g 8), .ref (g 9), .ref (g 10), .ref (g 11), .int g_lw, .int g_we, .int g_cu, .int g_go, .int g_ba, .ref (g 12), .ref (g 13), .int g_jo, .ref (g 14), .ref (g 15), .long g_bt, .int g_sb, .int g_ab, .int g_al, .ref (g 16), .ref (g 17)]))]) [0] rfl
  refine vp_callSi (W.runV (As := [.long 385682]) (rest := [.ref (g 0)]) ⟨hx, hb, hml, hown, ht⟩ (s_X9_is l dC dI cB cI cJ cZ cL g g_th g_tp g_so g_tk g_pl g_va g_wo g_bd g_bp g_fa g_fp g_lw g_we g_cu g_go g_ba g_jo g_bt g_sb g_ab g_al 385682) (cwV 1 ht (gV w_1458 w_1460 w_55 w_114 w_1461) rfl rfl rfl (by decide +kernel) ⟨Nat.le_of_ble_eq_true rfl, Nat.le_of_ble_eq_true rfl⟩) (pVSn hN hK hPc (ci := 9) (q0 := 0) rfl rfl) rfl rfl hl.1 rfl (lv_room (Nat.le_of_ble_eq_true rfl)) dX9_lineHere_5 ⟨Nat.le_of_ble_eq_true rfl, Nat.le_of_ble_eq_true rfl⟩) (fun r_1 hw => ?_)
  clear hPc
  clear hw
  refine lv_iconst (v := 4) hx hb dX9_lineHere_8 (by decide) ?_
  refine lv_iconst (v := 5) hx hb dX9_lineHere_9 (by decide) ?_
  have hPc := hP.sub (ws' := [((g 0), .inr (9, [.int g_th, .ref (g 1), .ref (g 2), .ref (g 3), .ref (g 4), .ref (g 5), .int g_tp, .int g_so, .int g_tk, .int g_pl, .int g_va, .long g_wo, .int g_bd, .int g_bp, .int g_fa, .int g_fp, .ref (g 6), .ref (g 7), .ref (g 8), .ref (g 9), .ref (g 10), .ref (g 11), .int g_lw, .int g_we, .int g_cu, .int g_go, .int g_ba, .ref (g 12), .ref (g 13), .int g_jo, .ref (g 14), .ref (g 15), .long g_bt, .int g_sb, .int g_ab, .int g_al, .ref (g 16), .ref (g 17)])), ((g 5), .inl (cB, 500, .inl tb)), ((g 7), .inl (cI, 35, .inl hs))]) [0, 1, 2] rfl
  have hDc := hD.sub (ws' := [((g 0), .inr (9, [.int g_th, .ref (g 1), .ref (g 2), .ref (g 3), .ref (g 4), .ref (g 5), .int g_tp, .int g_so, .int g_tk, .int g_pl, .int g_va, .long g_wo, .int g_bd, .int g_bp, .int g_fa, .int g_fp, .ref (g 6), .ref (g 7), .ref (g 8), .ref (g 9), .ref (g 10), .ref (g 11), .int g_lw, .int g_we, .int g_cu, .int g_go, .int g_ba, .ref (g 12), .ref (g 13), .int g_jo, .ref (g 14), .ref (g 15), .long g_bt, .int g_sb, .int g_ab, .int g_al, .ref (g 16), .ref (g 17)])), ((g 5), .inl (cB, 500, .inl tb)), ((g 7), .inl (cI, 35, .inl hs))]) [0, 1, 2] (by decide) rfl
  have hFc := va_free (wc := [((g 0), .inr (9, [.int g_th, .ref (g 1), .ref (g 2), .ref (g 3), .ref (g 4), .ref (g 5), .int g_tp, .int g_so, .int g_tk, .int g_pl, .int g_va, .long g_wo, .int g_bd, .int g_bp, .int g_fa, .int g_fp, .ref (g 6), .ref (g 7), .ref (g 8), .ref (g 9), .ref (g 10), .ref (g 11), .int g_lw, .int g_we, .int g_cu, .int g_go, .int g_ba, .ref (g 12), .ref (g 13), .int g_jo, .ref (g 14), .ref (g 15), .long g_bt, .int g_sb, .int g_ab, .int g_al, .ref (g 16), .ref (g 17)])), ((g 5), .inl (cB, 500, .inl tb)), ((g 7), .inl (cI, 35, .inl hs))]) hD hS hA [0, 1, 2] rfl
  refine va_calli (va_runV (As := [.int r_1, .int 4, .int 5]) (rest := []) ⟨hx, hb, hml, hown, ht⟩ (s_X9_isRoom l dC dI cB cI cJ cZ cL s.heap.size g g_th g_tp g_so g_tk g_pl g_va g_wo g_bd g_bp g_fa g_fp g_lw g_we g_cu g_go g_ba g_jo g_bt g_sb g_ab g_al tb hs r_1 4 5 (by first | assumption | omega | decide | (simp only [T0, T1, T2, T3, Tm1]; omega)) (by first | assumption | omega | decide | (simp only [T0, T1, T2, T3, Tm1]; omega)) (by first | assumption | omega | decide | (simp only [T0, T1, T2, T3, Tm1]; omega))) (cwV 3 ht (gV w_1483 w_1485 w_60 w_114 w_1486) rfl rfl rfl (by decide +kernel) ⟨Nat.le_of_ble_eq_true rfl, Nat.le_of_ble_eq_true rfl⟩) (pVQn hN hK hPc hDc (ci := 9) (q0 := 0) rfl rfl) rfl rfl hl.1 rfl (lv_room (Nat.le_of_ble_eq_true rfl)) dX9_lineHere_10 ⟨Nat.le_of_ble_eq_true rfl, Nat.le_of_ble_eq_true rfl⟩) hS (fun q _ h => hFc q h) hFc (fun r_2 u_3 t1 H1 locs ht1 hvm hw hB hz1 hk1 hS => ?_)
  obtain ⟨z_4, z_5, z_6, z_7, z_8, z_9, z_10⟩ := u_3
  obtain ⟨hP1, hD1⟩ := hB
  rw [ht1] at hP1
  obtain ⟨hP, hD⟩ := va_join (wr := [((g 8), .inl (cI, 75, .inl sp)), ((g 9), .inl (cI, 40, .inl wt))]) (w1 := [((g 0), .inr (9, [.int g_th, .ref (g 1), .ref (g 2), .ref (g 3), .ref (g 4), .ref (g 5), .int g_tp, .int z_4, .int z_5, .int z_6, .int z_7, .long z_8, .int z_9, .int z_10, .int g_fa, .int g_fp, .ref (g 6), .ref (g 7), .ref (g 8), .ref (g 9), .ref (g 10), .ref (g 11), .int g_lw, .int g_we, .int g_cu, .int g_go, .int g_ba, .ref (g 12), .ref (g 13), .int g_jo, .ref (g 14), .ref (g 15), .long g_bt, .int g_sb, .int g_ab, .int g_al, .ref (g 16), .ref (g 17)])), ((g 5), .inl (cB, 500, .inl tb)), ((g 7), .inl (cI, 35, .inl hs))]) hP hD [0, 1, 2] [3, 4] rfl rfl (by decide) (by decide) hk1 hFc hP1 hD1
  clear hFc hDc hPc hP1 hD1 hz1 hk1 hvm
  generalize H1 = H at hP hS ⊢
  have hP : va_P (dC, dI) vwCl [((g 8), .inl (cI, 75, .inl sp)), ((g 9), .inl (cI, 40, .inl wt)), ((g 0), .inr (9, [.int g_th, .ref (g 1), .ref (g 2), .ref (g 3), .ref (g 4), .ref (g 5), .int g_tp, .int z_4, .int z_5, .int z_6, .int z_7, .long z_8, .int z_9, .int z_10, .int g_fa, .int g_fp, .ref (g 6), .ref (g 7), .ref (g 8), .ref (g 9), .ref (g 10), .ref (g 11), .int g_lw, .int g_we, .int g_cu, .int g_go, .int g_ba, .ref (g 12), .ref (g 13), .int g_jo, .ref (g 14), .ref (g 15), .long g_bt, .int g_sb, .int g_ab, .int g_al, .ref (g 16), .ref (g 17)])), ((g 5), .inl (cB, 500, .inl tb)), ((g 7), .inl (cI, 35, .inl hs))] H := hP
  have hD : va_D A [((g 8), .inl (cI, 75, .inl sp)), ((g 9), .inl (cI, 40, .inl wt)), ((g 0), .inr (9, [.int g_th, .ref (g 1), .ref (g 2), .ref (g 3), .ref (g 4), .ref (g 5), .int g_tp, .int z_4, .int z_5, .int z_6, .int z_7, .long z_8, .int z_9, .int z_10, .int g_fa, .int g_fp, .ref (g 6), .ref (g 7), .ref (g 8), .ref (g 9), .ref (g 10), .ref (g 11), .int g_lw, .int g_we, .int g_cu, .int g_go, .int g_ba, .ref (g 12), .ref (g 13), .int g_jo, .ref (g 14), .ref (g 15), .long g_bt, .int g_sb, .int g_ab, .int g_al, .ref (g 16), .ref (g 17)])), ((g 5), .inl (cB, 500, .inl tb)), ((g 7), .inl (cI, 35, .inl hs))] := hD
  (try dsimp only at hw)
  have hw_11 := hw
  clear hw
  obtain ⟨hb_12, hb_13, hb_14⟩ := hw_11
  rcases hb_12 with ⟨hw, c_15⟩ | hw
  · subst hw
    have hqc_15 : ¬ Int32.toInt (hs 32) = 5 := by have h9 := c_15; simp only [T5] at h9; exact h9
    refine lv_if_eq (tgt := 23) hx hb dX9_lineHere_13 (by decide) (fun c9 => by first | exact absurd c9 (by decide) | exact absurd (by decide) c9) (fun _ => ?_)
    have h32 := hwi.h32
    refine lv_aload_n hx hb dX9_lineHere_16 rfl (lv_at hl 0 rfl) ?_
    have hPc := hP.sub (ws' := [((g 0), .inr (9, [.int g_th, .ref (g 1), .ref (g 2), .ref (g 3), .ref (g 4), .ref (g 5), .int g_tp, .int z_4, .int z_5, .int z_6, .int z_7, .long z_8, .int z_9, .int z_10, .int g_fa, .int g_fp, .ref (g 6), .ref (g 7), .ref (g 8), .ref (g 9), .ref (g 10), .ref (g 11), .int g_lw, .int g_we, .int g_cu, .int g_go, .int g_ba, .ref (g 12), .ref (g 13), .int g_jo, .ref (g 14), .ref (g 15), .long g_bt, .int g_sb, .int g_ab, .int g_al, .ref (g 16), .ref (g 17)])), ((g 5), .inl (cB, 500, .inl tb)), ((g 7), .inl (cI, 35, .inl hs)), ((g 8), .inl (cI, 75, .inl sp))]) [2, 3, 4, 0] rfl
    have hDc := hD.sub (ws' := [((g 0), .inr (9, [.int g_th, .ref (g 1), .ref (g 2), .ref (g 3), .ref (g 4), .ref (g 5), .int g_tp, .int z_4, .int z_5, .int z_6, .int z_7, .long z_8, .int z_9, .int z_10, .int g_fa, .int g_fp, .ref (g 6), .ref (g 7), .ref (g 8), .ref (g 9), .ref (g 10), .ref (g 11), .int g_lw, .int g_we, .int g_cu, .int g_go, .int g_ba, .ref (g 12), .ref (g 13), .int g_jo, .ref (g 14), .ref (g 15), .long g_bt, .int g_sb, .int g_ab, .int g_al, .ref (g 16), .ref (g 17)])), ((g 5), .inl (cB, 500, .inl tb)), ((g 7), .inl (cI, 35, .inl hs)), ((g 8), .inl (cI, 75, .inl sp))]) [2, 3, 4, 0] (by decide) rfl
    have hFc := va_free (wc := [((g 0), .inr (9, [.int g_th, .ref (g 1), .ref (g 2), .ref (g 3), .ref (g 4), .ref (g 5), .int g_tp, .int z_4, .int z_5, .int z_6, .int z_7, .long z_8, .int z_9, .int z_10, .int g_fa, .int g_fp, .ref (g 6), .ref (g 7), .ref (g 8), .ref (g 9), .ref (g 10), .ref (g 11), .int g_lw, .int g_we, .int g_cu, .int g_go, .int g_ba, .ref (g 12), .ref (g 13), .int g_jo, .ref (g 14), .ref (g 15), .long g_bt, .int g_sb, .int g_ab, .int g_al, .ref (g 16), .ref (g 17)])), ((g 5), .inl (cB, 500, .inl tb)), ((g 7), .inl (cI, 35, .inl hs)), ((g 8), .inl (cI, 75, .inl sp))]) hD hS hA [2, 3, 4, 0] rfl
    refine va_callv (va_runV (As := []) (rest := []) ⟨hx, hb, hml, hown, ht⟩ (s_X9_spanLine l dC dI cB cI cJ cZ cL H.size g g_th g_tp z_4 z_5 z_6 z_7 z_8 z_9 z_10 g_fa g_fp g_lw g_we g_cu g_go g_ba g_jo g_bt g_sb g_ab g_al tb hs sp (by first | assumption | omega | decide | (simp only [T0, T1, T2, T3, Tm1]; omega)) (by first | assumption | omega | decide | (simp only [T0, T1, T2, T3, Tm1]; omega)) (by first | assumption | omega | decide | (simp only [T0, T1, T2, T3, Tm1]; omega)) (by first | assumption | omega | decide | (simp only [T0, T1, T2, T3, Tm1]; omega))) (cwV 0 ht (gV w_1491 w_1493 w_62 w_114 w_1494) rfl rfl rfl (by decide +kernel) ⟨Nat.le_of_ble_eq_true rfl, Nat.le_of_ble_eq_true rfl⟩) (pVQn hN hK hPc hDc (ci := 9) (q0 := 0) rfl rfl) rfl rfl hl.1 rfl (lv_room (Nat.le_of_ble_eq_true rfl)) dX9_lineHere_17 ⟨Nat.le_of_ble_eq_true rfl, Nat.le_of_ble_eq_true rfl⟩) hS (fun q _ h => hFc q h) hFc (fun u_17 t1 H1 locs ht1 hvm hw hB hz1 hk1 hS => ?_)
    obtain ⟨z_18, z_19, z_20, z_21, z_22, z_23, z_24, z_25, z_26⟩ := u_17
    obtain ⟨hP1, hD1⟩ := hB
    rw [ht1] at hP1
    obtain ⟨hP, hD⟩ := va_join (wr := [((g 9), .inl (cI, 40, .inl wt))]) (w1 := [((g 0), .inr (9, [.int g_th, .ref (g 1), .ref (g 2), .ref (g 3), .ref (g 4), .ref (g 5), .int g_tp, .int z_18, .int z_19, .int z_20, .int z_21, .long z_22, .int z_23, .int z_24, .int g_fa, .int g_fp, .ref (g 6), .ref (g 7), .ref (g 8), .ref (g 9), .ref (g 10), .ref (g 11), .int g_lw, .int g_we, .int g_cu, .int g_go, .int g_ba, .ref (g 12), .ref (g 13), .int g_jo, .ref (g 14), .ref (g 15), .long g_bt, .int g_sb, .int g_ab, .int g_al, .ref (g 16), .ref (g 17)])), ((g 5), .inl (cB, 500, .inl tb)), ((g 7), .inl (cI, 35, .inl z_25)), ((g 8), .inl (cI, 75, .inl z_26))]) hP hD [2, 3, 4, 0] [1] rfl rfl (by decide) (by decide) hk1 hFc hP1 hD1
    clear hFc hDc hPc hP1 hD1 hz1 hk1 hvm
    generalize H1 = H at hP hS ⊢
    have hP : va_P (dC, dI) vwCl [((g 9), .inl (cI, 40, .inl wt)), ((g 0), .inr (9, [.int g_th, .ref (g 1), .ref (g 2), .ref (g 3), .ref (g 4), .ref (g 5), .int g_tp, .int z_18, .int z_19, .int z_20, .int z_21, .long z_22, .int z_23, .int z_24, .int g_fa, .int g_fp, .ref (g 6), .ref (g 7), .ref (g 8), .ref (g 9), .ref (g 10), .ref (g 11), .int g_lw, .int g_we, .int g_cu, .int g_go, .int g_ba, .ref (g 12), .ref (g 13), .int g_jo, .ref (g 14), .ref (g 15), .long g_bt, .int g_sb, .int g_ab, .int g_al, .ref (g 16), .ref (g 17)])), ((g 5), .inl (cB, 500, .inl tb)), ((g 7), .inl (cI, 35, .inl z_25)), ((g 8), .inl (cI, 75, .inl z_26))] H := hP
    have hD : va_D A [((g 9), .inl (cI, 40, .inl wt)), ((g 0), .inr (9, [.int g_th, .ref (g 1), .ref (g 2), .ref (g 3), .ref (g 4), .ref (g 5), .int g_tp, .int z_18, .int z_19, .int z_20, .int z_21, .long z_22, .int z_23, .int z_24, .int g_fa, .int g_fp, .ref (g 6), .ref (g 7), .ref (g 8), .ref (g 9), .ref (g 10), .ref (g 11), .int g_lw, .int g_we, .int g_cu, .int g_go, .int g_ba, .ref (g 12), .ref (g 13), .int g_jo, .ref (g 14), .ref (g 15), .long g_bt, .int g_sb, .int g_ab, .int g_al, .ref (g 16), .ref (g 17)])), ((g 5), .inl (cB, 500, .inl tb)), ((g 7), .inl (cI, 35, .inl z_25)), ((g 8), .inl (cI, 75, .inl z_26))] := hD
    (try dsimp only at hw)
    have hw_27 := hw
    clear hw
    obtain ⟨hw_27_0, hw_27_1, hw_27_2⟩ := hw_27
    refine lv_goto (tgt := 94) hx hb dX9_lineHere_20 (by decide) ?_
    have hP9 := hP.sub (ws' := [((g 0), .inr (9, [.int g_th, .ref (g 1), .ref (g 2), .ref (g 3), .ref (g 4), .ref (g 5), .int g_tp, .int z_18, .int z_19, .int z_20, .int z_21, .long z_22, .int z_23, .int z_24, .int g_fa, .int g_fp, .ref (g 6), .ref (g 7), .ref (g 8), .ref (g 9), .ref (g 10), .ref (g 11), .int g_lw, .int g_we, .int g_cu, .int g_go, .int g_ba, .ref (g 12), .ref (g 13), .int g_jo, .ref (g 14), .ref (g 15), .long g_bt, .int g_sb, .int g_ab, .int g_al, .ref (g 16), .ref (g 17)])), ((g 5), .inl (cB, 500, .inl tb)), ((g 7), .inl (cI, 35, .inl z_25)), ((g 8), .inl (cI, 75, .inl z_26)), ((g 9), .inl (cI, 40, .inl wt))]) [1, 2, 3, 4, 0] rfl
    have hD9 := hD.sub (ws' := [((g 0), .inr (9, [.int g_th, .ref (g 1), .ref (g 2), .ref (g 3), .ref (g 4), .ref (g 5), .int g_tp, .int z_18, .int z_19, .int z_20, .int z_21, .long z_22, .int z_23, .int z_24, .int g_fa, .int g_fp, .ref (g 6), .ref (g 7), .ref (g 8), .ref (g 9), .ref (g 10), .ref (g 11), .int g_lw, .int g_we, .int g_cu, .int g_go, .int g_ba, .ref (g 12), .ref (g 13), .int g_jo, .ref (g 14), .ref (g 15), .long g_bt, .int g_sb, .int g_ab, .int g_al, .ref (g 16), .ref (g 17)])), ((g 5), .inl (cB, 500, .inl tb)), ((g 7), .inl (cI, 35, .inl z_25)), ((g 8), .inl (cI, 75, .inl z_26)), ((g 9), .inl (cI, 40, .inl wt))]) [1, 2, 3, 4, 0] (by decide) rfl
    exact W.vret hx hb hr (fun t ht hW => ⟨⟨(z_18, z_19, z_20, z_21, z_22, z_23, z_24, z_25, z_26, wt), rfl, ⟨(by first | omega | assumption | decide | exact LK_mono (by assumption) (by omega) | exact OM_mono (by assumption) (by omega) | exact CLR_mono (by assumption) (by omega) | (have e0 := T0; have e1 := T1; have e2 := T2; have e3 := T3; have em1 := Tm1; omega) | (dsimp only; done) | (dsimp only; first | omega | assumption | decide | exact LK_mono (by assumption) (by omega) | exact OM_mono (by assumption) (by omega) | exact CLR_mono (by assumption) (by omega) | (have e0 := T0; have e1 := T1; have e2 := T2; have e3 := T3; have em1 := Tm1; omega))), (by first | omega | assumption | decide | exact LK_mono (by assumption) (by omega) | exact OM_mono (by assumption) (by omega) | exact CLR_mono (by assumption) (by omega) | (have e0 := T0; have e1 := T1; have e2 := T2; have e3 := T3; have em1 := Tm1; omega) | (dsimp only; done) | (dsimp only; first | omega | assumption | decide | exact LK_mono (by assumption) (by omega) | exact OM_mono (by assumption) (by omega) | exact CLR_mono (by assumption) (by omega) | (have e0 := T0; have e1 := T1; have e2 := T2; have e3 := T3; have em1 := Tm1; omega))), (by first | omega | assumption | decide | exact LK_mono (by assumption) (by omega) | exact OM_mono (by assumption) (by omega) | exact CLR_mono (by assumption) (by omega) | (have e0 := T0; have e1 := T1; have e2 := T2; have e3 := T3; have em1 := Tm1; omega) | (dsimp only; done) | (dsimp only; first | omega | assumption | decide | exact LK_mono (by assumption) (by omega) | exact OM_mono (by assumption) (by omega) | exact CLR_mono (by assumption) (by omega) | (have e0 := T0; have e1 := T1; have e2 := T2; have e3 := T3; have em1 := Tm1; omega)))⟩, ⟨by rw [ht]; exact hP9, hD9⟩⟩, hS.F ht⟩) hS.2.2 dX9_lineHere_94
  · subst hw
    refine lv_if_eq (tgt := 23) hx hb dX9_lineHere_13 (by decide) (fun _ => ?_) (fun c9 => by first | exact absurd (by decide) c9 | exact absurd c9 (by decide))
    refine lv_aload_n hx hb dX9_lineHere_23 rfl (lv_at hl 0 rfl) ?_
    refine va_get (D := (dC, dI)) (ci := 9) (v := .int z_9) (C := RX9) (T := TX9) (N := 38) hx hb ht iX9 hown hK hP 2 rfl rfl 12 (by decide) (ht _ w_1274) (fun _ h9 => h9) rfl dX9_lineHere_24 ?_
    refine lv_if_ne (tgt := 82) hx hb dX9_lineHere_27 (by decide) (fun c_28 => ?_) (fun c_28 => ?_)
    · (try simp only [i_lt, i_le, i_eq, T0] at c_28)
      refine lv_aload_n hx hb dX9_lineHere_82 rfl (lv_at hl 0 rfl) ?_
      refine va_get (D := (dC, dI)) (ci := 9) (v := .int z_9) (C := RX9) (T := TX9) (N := 38) hx hb ht iX9 hown hK hP 2 rfl rfl 12 (by decide) (ht _ w_1274) (fun _ h9 => h9) rfl dX9_lineHere_83 ?_
      refine lv_if_ne (tgt := 94) hx hb dX9_lineHere_86 (by decide) (fun c_29 => ?_) (fun c_29 => ?_)
      · (try simp only [i_lt, i_le, i_eq, T0] at c_29)
        have hP9 := hP.sub (ws' := [((g 0), .inr (9, [.int g_th, .ref (g 1), .ref (g 2), .ref (g 3), .ref (g 4), .ref (g 5), .int g_tp, .int z_4, .int z_5, .int z_6, .int z_7, .long z_8, .int z_9, .int z_10, .int g_fa, .int g_fp, .ref (g 6), .ref (g 7), .ref (g 8), .ref (g 9), .ref (g 10), .ref (g 11), .int g_lw, .int g_we, .int g_cu, .int g_go, .int g_ba, .ref (g 12), .ref (g 13), .int g_jo, .ref (g 14), .ref (g 15), .long g_bt, .int g_sb, .int g_ab, .int g_al, .ref (g 16), .ref (g 17)])), ((g 5), .inl (cB, 500, .inl tb)), ((g 7), .inl (cI, 35, .inl hs)), ((g 8), .inl (cI, 75, .inl sp)), ((g 9), .inl (cI, 40, .inl wt))]) [2, 3, 4, 0, 1] rfl
        have hD9 := hD.sub (ws' := [((g 0), .inr (9, [.int g_th, .ref (g 1), .ref (g 2), .ref (g 3), .ref (g 4), .ref (g 5), .int g_tp, .int z_4, .int z_5, .int z_6, .int z_7, .long z_8, .int z_9, .int z_10, .int g_fa, .int g_fp, .ref (g 6), .ref (g 7), .ref (g 8), .ref (g 9), .ref (g 10), .ref (g 11), .int g_lw, .int g_we, .int g_cu, .int g_go, .int g_ba, .ref (g 12), .ref (g 13), .int g_jo, .ref (g 14), .ref (g 15), .long g_bt, .int g_sb, .int g_ab, .int g_al, .ref (g 16), .ref (g 17)])), ((g 5), .inl (cB, 500, .inl tb)), ((g 7), .inl (cI, 35, .inl hs)), ((g 8), .inl (cI, 75, .inl sp)), ((g 9), .inl (cI, 40, .inl wt))]) [2, 3, 4, 0, 1] (by decide) rfl
        exact W.vret hx hb hr (fun t ht hW => ⟨⟨(z_4, z_5, z_6, z_7, z_8, z_9, z_10, hs, sp, wt), rfl, ⟨(by first | omega | assumption | decide | exact LK_mono (by assumption) (by omega) | exact OM_mono (by assumption) (by omega) | exact CLR_mono (by assumption) (by omega) | (have e0 := T0; have e1 := T1; have e2 := T2; have e3 := T3; have em1 := Tm1; omega) | (dsimp only; done) | (dsimp only; first | omega | assumption | decide | exact LK_mono (by assumption) (by omega) | exact OM_mono (by assumption) (by omega) | exact CLR_mono (by assumption) (by omega) | (have e0 := T0; have e1 := T1; have e2 := T2; have e3 := T3; have em1 := Tm1; omega))), (by first | omega | assumption | decide | exact LK_mono (by assumption) (by omega) | exact OM_mono (by assumption) (by omega) | exact CLR_mono (by assumption) (by omega) | (have e0 := T0; have e1 := T1; have e2 := T2; have e3 := T3; have em1 := Tm1; omega) | (dsimp only; done) | (dsimp only; first | omega | assumption | decide | exact LK_mono (by assumption) (by omega) | exact OM_mono (by assumption) (by omega) | exact CLR_mono (by assumption) (by omega) | (have e0 := T0; have e1 := T1; have e2 := T2; have e3 := T3; have em1 := Tm1; omega))), (by first | omega | assumption | decide | exact LK_mono (by assumption) (by omega) | exact OM_mono (by assumption) (by omega) | exact CLR_mono (by assumption) (by omega) | (have e0 := T0; have e1 := T1; have e2 := T2; have e3 := T3; have em1 := Tm1; omega) | (dsimp only; done) | (dsimp only; first | omega | assumption | decide | exact LK_mono (by assumption) (by omega) | exact OM_mono (by assumption) (by omega) | exact CLR_mono (by assumption) (by omega) | (have e0 := T0; have e1 := T1; have e2 := T2; have e3 := T3; have em1 := Tm1; omega)))⟩, ⟨by rw [ht]; exact hP9, hD9⟩⟩, hS.F ht⟩) hS.2.2 dX9_lineHere_94
      · (try simp only [i_lt, i_le, i_eq, T0] at c_29)
        exfalso; omega
    · (try simp only [i_lt, i_le, i_eq, T0] at c_28)
      refine lv_aload_n hx hb dX9_lineHere_30 rfl (lv_at hl 0 rfl) ?_
      refine lv_aload_n hx hb dX9_lineHere_31 rfl (lv_at hl 0 rfl) ?_
      refine lv_ldc2 hx hb hown (ht _ w_1497) dX9_lineHere_32 ?_
      have hPc := hP.sub (ws' := [((g 0), .inr (9, [.int g_th, .ref (g 1), .ref (g 2), .ref (g 3), .ref (g 4), .ref (g 5), .int g_tp, .int z_4, .int z_5, .int z_6, .int z_7, .long z_8, .int z_9, .int z_10, .int g_fa, .int g_fp, .ref (g 6), .ref (g 7), .ref (g 8), .ref (g 9), .ref (g 10), .ref (g 11), .int g_lw, .int g_we, .int g_cu, .int g_go, .int g_ba, .ref (g 12), .ref (g 13), .int g_jo, .ref (g 14), .ref (g 15), .long g_bt, .int g_sb, .int g_ab, .int g_al, .ref (g 16), .ref (g 17)]))]) [2] rfl
      refine vp_callSi (W.runV (As := [.long 16922]) (rest := [.ref (g 0)]) ⟨hx, hb, hml, hown, ht⟩ (s_X9_is l dC dI cB cI cJ cZ cL g g_th g_tp z_4 z_5 z_6 z_7 z_8 z_9 z_10 g_fa g_fp g_lw g_we g_cu g_go g_ba g_jo g_bt g_sb g_ab g_al 16922) (cwV 1 ht (gV w_1458 w_1460 w_55 w_114 w_1461) rfl rfl rfl (by decide +kernel) ⟨Nat.le_of_ble_eq_true rfl, Nat.le_of_ble_eq_true rfl⟩) (pVSn hN hK hPc (ci := 9) (q0 := 0) rfl rfl) rfl rfl hl.1 rfl (lv_room (Nat.le_of_ble_eq_true rfl)) dX9_lineHere_35 ⟨Nat.le_of_ble_eq_true rfl, Nat.le_of_ble_eq_true rfl⟩) (fun r_30 hw => ?_)
      clear hPc
      clear hw
      refine lv_iconst (v := 5) hx hb dX9_lineHere_38 (by decide) ?_
      refine lv_bipush (v := 8) hx hb dX9_lineHere_39 (by decide) ?_
      have hPc := hP.sub (ws' := [((g 0), .inr (9, [.int g_th, .ref (g 1), .ref (g 2), .ref (g 3), .ref (g 4), .ref (g 5), .int g_tp, .int z_4, .int z_5, .int z_6, .int z_7, .long z_8, .int z_9, .int z_10, .int g_fa, .int g_fp, .ref (g 6), .ref (g 7), .ref (g 8), .ref (g 9), .ref (g 10), .ref (g 11), .int g_lw, .int g_we, .int g_cu, .int g_go, .int g_ba, .ref (g 12), .ref (g 13), .int g_jo, .ref (g 14), .ref (g 15), .long g_bt, .int g_sb, .int g_ab, .int g_al, .ref (g 16), .ref (g 17)])), ((g 5), .inl (cB, 500, .inl tb)), ((g 7), .inl (cI, 35, .inl hs))]) [2, 3, 4] rfl
      have hDc := hD.sub (ws' := [((g 0), .inr (9, [.int g_th, .ref (g 1), .ref (g 2), .ref (g 3), .ref (g 4), .ref (g 5), .int g_tp, .int z_4, .int z_5, .int z_6, .int z_7, .long z_8, .int z_9, .int z_10, .int g_fa, .int g_fp, .ref (g 6), .ref (g 7), .ref (g 8), .ref (g 9), .ref (g 10), .ref (g 11), .int g_lw, .int g_we, .int g_cu, .int g_go, .int g_ba, .ref (g 12), .ref (g 13), .int g_jo, .ref (g 14), .ref (g 15), .long g_bt, .int g_sb, .int g_ab, .int g_al, .ref (g 16), .ref (g 17)])), ((g 5), .inl (cB, 500, .inl tb)), ((g 7), .inl (cI, 35, .inl hs))]) [2, 3, 4] (by decide) rfl
      have hFc := va_free (wc := [((g 0), .inr (9, [.int g_th, .ref (g 1), .ref (g 2), .ref (g 3), .ref (g 4), .ref (g 5), .int g_tp, .int z_4, .int z_5, .int z_6, .int z_7, .long z_8, .int z_9, .int z_10, .int g_fa, .int g_fp, .ref (g 6), .ref (g 7), .ref (g 8), .ref (g 9), .ref (g 10), .ref (g 11), .int g_lw, .int g_we, .int g_cu, .int g_go, .int g_ba, .ref (g 12), .ref (g 13), .int g_jo, .ref (g 14), .ref (g 15), .long g_bt, .int g_sb, .int g_ab, .int g_al, .ref (g 16), .ref (g 17)])), ((g 5), .inl (cB, 500, .inl tb)), ((g 7), .inl (cI, 35, .inl hs))]) hD hS hA [2, 3, 4] rfl
      refine va_calli (va_runV (As := [.int r_30, .int 5, .int 8]) (rest := []) ⟨hx, hb, hml, hown, ht⟩ (s_X9_isRoom l dC dI cB cI cJ cZ cL H.size g g_th g_tp z_4 z_5 z_6 z_7 z_8 z_9 z_10 g_fa g_fp g_lw g_we g_cu g_go g_ba g_jo g_bt g_sb g_ab g_al tb hs r_30 5 8 (by first | assumption | omega | decide | (simp only [T0, T1, T2, T3, Tm1]; omega)) (by first | assumption | omega | decide | (simp only [T0, T1, T2, T3, Tm1]; omega)) (by first | assumption | omega | decide | (simp only [T0, T1, T2, T3, Tm1]; omega))) (cwV 3 ht (gV w_1483 w_1485 w_60 w_114 w_1486) rfl rfl rfl (by decide +kernel) ⟨Nat.le_of_ble_eq_true rfl, Nat.le_of_ble_eq_true rfl⟩) (pVQn hN hK hPc hDc (ci := 9) (q0 := 0) rfl rfl) rfl rfl hl.1 rfl (lv_room (Nat.le_of_ble_eq_true rfl)) dX9_lineHere_41 ⟨Nat.le_of_ble_eq_true rfl, Nat.le_of_ble_eq_true rfl⟩) hS (fun q _ h => hFc q h) hFc (fun r_31 u_32 t1 H1 locs ht1 hvm hw hB hz1 hk1 hS => ?_)
      obtain ⟨z_33, z_34, z_35, z_36, z_37, z_38, z_39⟩ := u_32
      obtain ⟨hP1, hD1⟩ := hB
      rw [ht1] at hP1
      obtain ⟨hP, hD⟩ := va_join (wr := [((g 8), .inl (cI, 75, .inl sp)), ((g 9), .inl (cI, 40, .inl wt))]) (w1 := [((g 0), .inr (9, [.int g_th, .ref (g 1), .ref (g 2), .ref (g 3), .ref (g 4), .ref (g 5), .int g_tp, .int z_33, .int z_34, .int z_35, .int z_36, .long z_37, .int z_38, .int z_39, .int g_fa, .int g_fp, .ref (g 6), .ref (g 7), .ref (g 8), .ref (g 9), .ref (g 10), .ref (g 11), .int g_lw, .int g_we, .int g_cu, .int g_go, .int g_ba, .ref (g 12), .ref (g 13), .int g_jo, .ref (g 14), .ref (g 15), .long g_bt, .int g_sb, .int g_ab, .int g_al, .ref (g 16), .ref (g 17)])), ((g 5), .inl (cB, 500, .inl tb)), ((g 7), .inl (cI, 35, .inl hs))]) hP hD [2, 3, 4] [0, 1] rfl rfl (by decide) (by decide) hk1 hFc hP1 hD1
      clear hFc hDc hPc hP1 hD1 hz1 hk1 hvm
      generalize H1 = H at hP hS ⊢
      have hP : va_P (dC, dI) vwCl [((g 8), .inl (cI, 75, .inl sp)), ((g 9), .inl (cI, 40, .inl wt)), ((g 0), .inr (9, [.int g_th, .ref (g 1), .ref (g 2), .ref (g 3), .ref (g 4), .ref (g 5), .int g_tp, .int z_33, .int z_34, .int z_35, .int z_36, .long z_37, .int z_38, .int z_39, .int g_fa, .int g_fp, .ref (g 6), .ref (g 7), .ref (g 8), .ref (g 9), .ref (g 10), .ref (g 11), .int g_lw, .int g_we, .int g_cu, .int g_go, .int g_ba, .ref (g 12), .ref (g 13), .int g_jo, .ref (g 14), .ref (g 15), .long g_bt, .int g_sb, .int g_ab, .int g_al, .ref (g 16), .ref (g 17)])), ((g 5), .inl (cB, 500, .inl tb)), ((g 7), .inl (cI, 35, .inl hs))] H := hP
      have hD : va_D A [((g 8), .inl (cI, 75, .inl sp)), ((g 9), .inl (cI, 40, .inl wt)), ((g 0), .inr (9, [.int g_th, .ref (g 1), .ref (g 2), .ref (g 3), .ref (g 4), .ref (g 5), .int g_tp, .int z_33, .int z_34, .int z_35, .int z_36, .long z_37, .int z_38, .int z_39, .int g_fa, .int g_fp, .ref (g 6), .ref (g 7), .ref (g 8), .ref (g 9), .ref (g 10), .ref (g 11), .int g_lw, .int g_we, .int g_cu, .int g_go, .int g_ba, .ref (g 12), .ref (g 13), .int g_jo, .ref (g 14), .ref (g 15), .long g_bt, .int g_sb, .int g_ab, .int g_al, .ref (g 16), .ref (g 17)])), ((g 5), .inl (cB, 500, .inl tb)), ((g 7), .inl (cI, 35, .inl hs))] := hD
      (try dsimp only at hw)
      have hw_40 := hw
      clear hw
      obtain ⟨hb_41, hb_42, hb_43⟩ := hw_40
      rcases hb_41 with ⟨hw, c_44⟩ | hw
      · subst hw
        have hqc_44 : ¬ Int32.toInt (hs 33) = 8 := by have h9 := c_44; simp only [T8] at h9; exact h9
        refine lv_if_eq (tgt := 82) hx hb dX9_lineHere_44 (by decide) (fun c9 => by first | exact absurd c9 (by decide) | exact absurd (by decide) c9) (fun _ => ?_)
        have h33 := hwi.h33
        refine lv_aload_n hx hb dX9_lineHere_47 rfl (lv_at hl 0 rfl) ?_
        refine va_get (D := (dC, dI)) (ci := 9) (v := .ref (g 9)) (C := RX9) (T := TX9) (N := 38) hx hb ht iX9 hown hK hP 2 rfl rfl 19 (by decide) (ht _ w_1281) (fun _ h9 => h9) rfl dX9_lineHere_48 ?_
        refine lv_bipush (v := 32) hx hb dX9_lineHere_51 (by decide) ?_
        refine lv_aload_n hx hb dX9_lineHere_53 rfl (lv_at hl 0 rfl) ?_
        refine lv_iconst (v := 5) hx hb dX9_lineHere_54 (by decide) ?_
        have hPc := hP.sub (ws' := [((g 0), .inr (9, [.int g_th, .ref (g 1), .ref (g 2), .ref (g 3), .ref (g 4), .ref (g 5), .int g_tp, .int z_33, .int z_34, .int z_35, .int z_36, .long z_37, .int z_38, .int z_39, .int g_fa, .int g_fp, .ref (g 6), .ref (g 7), .ref (g 8), .ref (g 9), .ref (g 10), .ref (g 11), .int g_lw, .int g_we, .int g_cu, .int g_go, .int g_ba, .ref (g 12), .ref (g 13), .int g_jo, .ref (g 14), .ref (g 15), .long g_bt, .int g_sb, .int g_ab, .int g_al, .ref (g 16), .ref (g 17)])), ((g 7), .inl (cI, 35, .inl hs))]) [2, 4] rfl
        refine vp_callSi (W.runV (As := [.int 5]) (rest := [.int 32, .ref (g 9)]) ⟨hx, hb, hml, hown, ht⟩ (s_X9_hasRead l dC dI cB cI cJ cZ cL g g_th g_tp z_33 z_34 z_35 z_36 z_37 z_38 z_39 g_fa g_fp g_lw g_we g_cu g_go g_ba g_jo g_bt g_sb g_ab g_al hs 5 (by first | assumption | omega | decide | (simp only [T0, T1, T2, T3, Tm1]; omega))) (cwV 1 ht (gV w_1487 w_1489 w_61 w_114 w_1490) rfl rfl rfl (by decide +kernel) ⟨Nat.le_of_ble_eq_true rfl, Nat.le_of_ble_eq_true rfl⟩) (pVSn hN hK hPc (ci := 9) (q0 := 0) rfl rfl) rfl rfl hl.1 rfl (lv_room (Nat.le_of_ble_eq_true rfl)) dX9_lineHere_55 ⟨Nat.le_of_ble_eq_true rfl, Nat.le_of_ble_eq_true rfl⟩) (fun r_45 hw => ?_)
        clear hPc
        (try dsimp only at hw)
        have hw_46 := hw
        clear hw
        have qr_45 : Int32.toInt r_45 = Int32.toInt (hs 33) := hw_46
        refine lv_iadd hx hb dX9_lineHere_58 ?_
        refine lv_topi (fun y_47 ey_47 => ?_)
        have ty_47 := iaddF ey_47
        simp only [T32] at ty_47
        clear ey_47
        refine lv_aload_n hx hb dX9_lineHere_59 rfl (lv_at hl 0 rfl) ?_
        refine lv_iconst (v := 0) hx hb dX9_lineHere_60 (by decide) ?_
        refine lv_bipush (v := 13) hx hb dX9_lineHere_61 (by decide) ?_
        have hPc := hP.sub (ws' := [((g 0), .inr (9, [.int g_th, .ref (g 1), .ref (g 2), .ref (g 3), .ref (g 4), .ref (g 5), .int g_tp, .int z_33, .int z_34, .int z_35, .int z_36, .long z_37, .int z_38, .int z_39, .int g_fa, .int g_fp, .ref (g 6), .ref (g 7), .ref (g 8), .ref (g 9), .ref (g 10), .ref (g 11), .int g_lw, .int g_we, .int g_cu, .int g_go, .int g_ba, .ref (g 12), .ref (g 13), .int g_jo, .ref (g 14), .ref (g 15), .long g_bt, .int g_sb, .int g_ab, .int g_al, .ref (g 16), .ref (g 17)])), ((g 5), .inl (cB, 500, .inl tb))]) [2, 3] rfl
        have hDc := hD.sub (ws' := [((g 0), .inr (9, [.int g_th, .ref (g 1), .ref (g 2), .ref (g 3), .ref (g 4), .ref (g 5), .int g_tp, .int z_33, .int z_34, .int z_35, .int z_36, .long z_37, .int z_38, .int z_39, .int g_fa, .int g_fp, .ref (g 6), .ref (g 7), .ref (g 8), .ref (g 9), .ref (g 10), .ref (g 11), .int g_lw, .int g_we, .int g_cu, .int g_go, .int g_ba, .ref (g 12), .ref (g 13), .int g_jo, .ref (g 14), .ref (g 15), .long g_bt, .int g_sb, .int g_ab, .int g_al, .ref (g 16), .ref (g 17)])), ((g 5), .inl (cB, 500, .inl tb))]) [2, 3] (by decide) rfl
        have hFc := va_free (wc := [((g 0), .inr (9, [.int g_th, .ref (g 1), .ref (g 2), .ref (g 3), .ref (g 4), .ref (g 5), .int g_tp, .int z_33, .int z_34, .int z_35, .int z_36, .long z_37, .int z_38, .int z_39, .int g_fa, .int g_fp, .ref (g 6), .ref (g 7), .ref (g 8), .ref (g 9), .ref (g 10), .ref (g 11), .int g_lw, .int g_we, .int g_cu, .int g_go, .int g_ba, .ref (g 12), .ref (g 13), .int g_jo, .ref (g 14), .ref (g 15), .long g_bt, .int g_sb, .int g_ab, .int g_al, .ref (g 16), .ref (g 17)])), ((g 5), .inl (cB, 500, .inl tb))]) hD hS hA [2, 3] rfl
        refine va_calli (va_runV (As := [.int 0, .int 13]) (rest := [.int y_47, .ref (g 9)]) ⟨hx, hb, hml, hown, ht⟩ (s_X9_number l dC dI cB cI cJ cZ cL H.size g g_th g_tp z_33 z_34 z_35 z_36 z_37 z_38 z_39 g_fa g_fp g_lw g_we g_cu g_go g_ba g_jo g_bt g_sb g_ab g_al tb 0 13 (by first | assumption | omega | decide | (simp only [T0, T1, T2, T3, Tm1]; omega)) (by first | assumption | omega | decide | (simp only [T0, T1, T2, T3, Tm1]; omega)) (by first | assumption | omega | decide | (simp only [T0, T1, T2, T3, Tm1]; omega))) (cwV 2 ht (gV w_1471 w_1473 w_58 w_114 w_1474) rfl rfl rfl (by decide +kernel) ⟨Nat.le_of_ble_eq_true rfl, Nat.le_of_ble_eq_true rfl⟩) (pVQn hN hK hPc hDc (ci := 9) (q0 := 0) rfl rfl) rfl rfl hl.1 rfl (lv_room (Nat.le_of_ble_eq_true rfl)) dX9_lineHere_63 ⟨Nat.le_of_ble_eq_true rfl, Nat.le_of_ble_eq_true rfl⟩) hS (fun q _ h => hFc q h) hFc (fun r_48 u_49 t1 H1 locs ht1 hvm hw hB hz1 hk1 hS => ?_)
        obtain ⟨z_50, z_51, z_52, z_53, z_54, z_55, z_56⟩ := u_49
        obtain ⟨hP1, hD1⟩ := hB
        rw [ht1] at hP1
        obtain ⟨hP, hD⟩ := va_join (wr := [((g 8), .inl (cI, 75, .inl sp)), ((g 9), .inl (cI, 40, .inl wt)), ((g 7), .inl (cI, 35, .inl hs))]) (w1 := [((g 0), .inr (9, [.int g_th, .ref (g 1), .ref (g 2), .ref (g 3), .ref (g 4), .ref (g 5), .int g_tp, .int z_50, .int z_51, .int z_52, .int z_53, .long z_54, .int z_55, .int z_56, .int g_fa, .int g_fp, .ref (g 6), .ref (g 7), .ref (g 8), .ref (g 9), .ref (g 10), .ref (g 11), .int g_lw, .int g_we, .int g_cu, .int g_go, .int g_ba, .ref (g 12), .ref (g 13), .int g_jo, .ref (g 14), .ref (g 15), .long g_bt, .int g_sb, .int g_ab, .int g_al, .ref (g 16), .ref (g 17)])), ((g 5), .inl (cB, 500, .inl tb))]) hP hD [2, 3] [0, 1, 4] rfl rfl (by decide) (by decide) hk1 hFc hP1 hD1
        clear hFc hDc hPc hP1 hD1 hz1 hk1 hvm
        generalize H1 = H at hP hS ⊢
        have hP : va_P (dC, dI) vwCl [((g 8), .inl (cI, 75, .inl sp)), ((g 9), .inl (cI, 40, .inl wt)), ((g 7), .inl (cI, 35, .inl hs)), ((g 0), .inr (9, [.int g_th, .ref (g 1), .ref (g 2), .ref (g 3), .ref (g 4), .ref (g 5), .int g_tp, .int z_50, .int z_51, .int z_52, .int z_53, .long z_54, .int z_55, .int z_56, .int g_fa, .int g_fp, .ref (g 6), .ref (g 7), .ref (g 8), .ref (g 9), .ref (g 10), .ref (g 11), .int g_lw, .int g_we, .int g_cu, .int g_go, .int g_ba, .ref (g 12), .ref (g 13), .int g_jo, .ref (g 14), .ref (g 15), .long g_bt, .int g_sb, .int g_ab, .int g_al, .ref (g 16), .ref (g 17)])), ((g 5), .inl (cB, 500, .inl tb))] H := hP
        have hD : va_D A [((g 8), .inl (cI, 75, .inl sp)), ((g 9), .inl (cI, 40, .inl wt)), ((g 7), .inl (cI, 35, .inl hs)), ((g 0), .inr (9, [.int g_th, .ref (g 1), .ref (g 2), .ref (g 3), .ref (g 4), .ref (g 5), .int g_tp, .int z_50, .int z_51, .int z_52, .int z_53, .long z_54, .int z_55, .int z_56, .int g_fa, .int g_fp, .ref (g 6), .ref (g 7), .ref (g 8), .ref (g 9), .ref (g 10), .ref (g 11), .int g_lw, .int g_we, .int g_cu, .int g_go, .int g_ba, .ref (g 12), .ref (g 13), .int g_jo, .ref (g 14), .ref (g 15), .long g_bt, .int g_sb, .int g_ab, .int g_al, .ref (g 16), .ref (g 17)])), ((g 5), .inl (cB, 500, .inl tb))] := hD
        (try dsimp only at hw)
        have hw_57 := hw
        clear hw
        obtain ⟨hw_57_0, hw_57_1, hw_57_2, hw_57_3⟩ := hw_57
        (try simp only [T0, T13] at hw_57_0 hw_57_1 hw_57_2 hw_57_3)
        refine va_iast hx hb hK hP hD hS 1 1 rfl rfl (vp_in_iff.mpr (by omega)) dX9_lineHere_66 (fun H locs hP hD hS => ?_)
        obtain ⟨f_58, ef_58⟩ : ∃ z : Nat → Int32, z = upd wt (Int32.toNatClampNeg y_47) r_48 := ⟨_, rfl⟩
        rw [← ef_58] at hP hD
        clear ef_58
        have hP : va_P (dC, dI) vwCl [((g 8), .inl (cI, 75, .inl sp)), ((g 9), .inl (cI, 40, .inl f_58)), ((g 7), .inl (cI, 35, .inl hs)), ((g 0), .inr (9, [.int g_th, .ref (g 1), .ref (g 2), .ref (g 3), .ref (g 4), .ref (g 5), .int g_tp, .int z_50, .int z_51, .int z_52, .int z_53, .long z_54, .int z_55, .int z_56, .int g_fa, .int g_fp, .ref (g 6), .ref (g 7), .ref (g 8), .ref (g 9), .ref (g 10), .ref (g 11), .int g_lw, .int g_we, .int g_cu, .int g_go, .int g_ba, .ref (g 12), .ref (g 13), .int g_jo, .ref (g 14), .ref (g 15), .long g_bt, .int g_sb, .int g_ab, .int g_al, .ref (g 16), .ref (g 17)])), ((g 5), .inl (cB, 500, .inl tb))] H := hP
        have hD : va_D A [((g 8), .inl (cI, 75, .inl sp)), ((g 9), .inl (cI, 40, .inl f_58)), ((g 7), .inl (cI, 35, .inl hs)), ((g 0), .inr (9, [.int g_th, .ref (g 1), .ref (g 2), .ref (g 3), .ref (g 4), .ref (g 5), .int g_tp, .int z_50, .int z_51, .int z_52, .int z_53, .long z_54, .int z_55, .int z_56, .int g_fa, .int g_fp, .ref (g 6), .ref (g 7), .ref (g 8), .ref (g 9), .ref (g 10), .ref (g 11), .int g_lw, .int g_we, .int g_cu, .int g_go, .int g_ba, .ref (g 12), .ref (g 13), .int g_jo, .ref (g 14), .ref (g 15), .long g_bt, .int g_sb, .int g_ab, .int g_al, .ref (g 16), .ref (g 17)])), ((g 5), .inl (cB, 500, .inl tb))] := hD
        refine lv_aload_n hx hb dX9_lineHere_67 rfl (lv_at hl 0 rfl) ?_
        refine lv_iconst (v := 5) hx hb dX9_lineHere_68 (by decide) ?_
        refine lv_aload_n hx hb dX9_lineHere_69 rfl (lv_at hl 0 rfl) ?_
        refine lv_iconst (v := 5) hx hb dX9_lineHere_70 (by decide) ?_
        have hPc := hP.sub (ws' := [((g 0), .inr (9, [.int g_th, .ref (g 1), .ref (g 2), .ref (g 3), .ref (g 4), .ref (g 5), .int g_tp, .int z_50, .int z_51, .int z_52, .int z_53, .long z_54, .int z_55, .int z_56, .int g_fa, .int g_fp, .ref (g 6), .ref (g 7), .ref (g 8), .ref (g 9), .ref (g 10), .ref (g 11), .int g_lw, .int g_we, .int g_cu, .int g_go, .int g_ba, .ref (g 12), .ref (g 13), .int g_jo, .ref (g 14), .ref (g 15), .long g_bt, .int g_sb, .int g_ab, .int g_al, .ref (g 16), .ref (g 17)])), ((g 7), .inl (cI, 35, .inl hs))]) [3, 2] rfl
        refine vp_callSi (W.runV (As := [.int 5]) (rest := [.int 5, .ref (g 0)]) ⟨hx, hb, hml, hown, ht⟩ (s_X9_hasRead l dC dI cB cI cJ cZ cL g g_th g_tp z_50 z_51 z_52 z_53 z_54 z_55 z_56 g_fa g_fp g_lw g_we g_cu g_go g_ba g_jo g_bt g_sb g_ab g_al hs 5 (by first | assumption | omega | decide | (simp only [T0, T1, T2, T3, Tm1]; omega))) (cwV 1 ht (gV w_1487 w_1489 w_61 w_114 w_1490) rfl rfl rfl (by decide +kernel) ⟨Nat.le_of_ble_eq_true rfl, Nat.le_of_ble_eq_true rfl⟩) (pVSn hN hK hPc (ci := 9) (q0 := 0) rfl rfl) rfl rfl hl.1 rfl (lv_room (Nat.le_of_ble_eq_true rfl)) dX9_lineHere_71 ⟨Nat.le_of_ble_eq_true rfl, Nat.le_of_ble_eq_true rfl⟩) (fun r_59 hw => ?_)
        clear hPc
        (try dsimp only at hw)
        have hw_60 := hw
        clear hw
        have qr_59 : Int32.toInt r_59 = Int32.toInt (hs 33) := hw_60
        refine lv_iconst (v := 1) hx hb dX9_lineHere_74 (by decide) ?_
        refine lv_iadd hx hb dX9_lineHere_75 ?_
        refine lv_topi (fun y_61 ey_61 => ?_)
        have ty_61 := iaddF ey_61
        simp only [T1] at ty_61
        clear ey_61
        have hPc := hP.sub (ws' := [((g 0), .inr (9, [.int g_th, .ref (g 1), .ref (g 2), .ref (g 3), .ref (g 4), .ref (g 5), .int g_tp, .int z_50, .int z_51, .int z_52, .int z_53, .long z_54, .int z_55, .int z_56, .int g_fa, .int g_fp, .ref (g 6), .ref (g 7), .ref (g 8), .ref (g 9), .ref (g 10), .ref (g 11), .int g_lw, .int g_we, .int g_cu, .int g_go, .int g_ba, .ref (g 12), .ref (g 13), .int g_jo, .ref (g 14), .ref (g 15), .long g_bt, .int g_sb, .int g_ab, .int g_al, .ref (g 16), .ref (g 17)])), ((g 7), .inl (cI, 35, .inl hs))]) [3, 2] rfl
        have hDc := hD.sub (ws' := [((g 0), .inr (9, [.int g_th, .ref (g 1), .ref (g 2), .ref (g 3), .ref (g 4), .ref (g 5), .int g_tp, .int z_50, .int z_51, .int z_52, .int z_53, .long z_54, .int z_55, .int z_56, .int g_fa, .int g_fp, .ref (g 6), .ref (g 7), .ref (g 8), .ref (g 9), .ref (g 10), .ref (g 11), .int g_lw, .int g_we, .int g_cu, .int g_go, .int g_ba, .ref (g 12), .ref (g 13), .int g_jo, .ref (g 14), .ref (g 15), .long g_bt, .int g_sb, .int g_ab, .int g_al, .ref (g 16), .ref (g 17)])), ((g 7), .inl (cI, 35, .inl hs))]) [3, 2] (by decide) rfl
        have hFc := va_free (wc := [((g 0), .inr (9, [.int g_th, .ref (g 1), .ref (g 2), .ref (g 3), .ref (g 4), .ref (g 5), .int g_tp, .int z_50, .int z_51, .int z_52, .int z_53, .long z_54, .int z_55, .int z_56, .int g_fa, .int g_fp, .ref (g 6), .ref (g 7), .ref (g 8), .ref (g 9), .ref (g 10), .ref (g 11), .int g_lw, .int g_we, .int g_cu, .int g_go, .int g_ba, .ref (g 12), .ref (g 13), .int g_jo, .ref (g 14), .ref (g 15), .long g_bt, .int g_sb, .int g_ab, .int g_al, .ref (g 16), .ref (g 17)])), ((g 7), .inl (cI, 35, .inl hs))]) hD hS hA [3, 2] rfl
        refine va_callv (va_runV (As := [.int 5, .int y_61]) (rest := []) ⟨hx, hb, hml, hown, ht⟩ (s_X9_tells l dC dI cB cI cJ cZ cL H.size g g_th g_tp z_50 z_51 z_52 z_53 z_54 z_55 z_56 g_fa g_fp g_lw g_we g_cu g_go g_ba g_jo g_bt g_sb g_ab g_al hs 5 y_61 (by first | assumption | omega | decide | (simp only [T0, T1, T2, T3, Tm1]; omega))) (cwV 2 ht (gV w_1424 w_1426 w_48 w_114 w_1427) rfl rfl rfl (by decide +kernel) ⟨Nat.le_of_ble_eq_true rfl, Nat.le_of_ble_eq_true rfl⟩) (pVQn hN hK hPc hDc (ci := 9) (q0 := 0) rfl rfl) rfl rfl hl.1 rfl (lv_room (Nat.le_of_ble_eq_true rfl)) dX9_lineHere_76 ⟨Nat.le_of_ble_eq_true rfl, Nat.le_of_ble_eq_true rfl⟩) hS (fun q _ h => hFc q h) hFc (fun u_63 t1 H1 locs ht1 hvm hw hB hz1 hk1 hS => ?_)
        obtain ⟨hP1, hD1⟩ := hB
        rw [ht1] at hP1
        obtain ⟨hP, hD⟩ := va_join (wr := [((g 8), .inl (cI, 75, .inl sp)), ((g 9), .inl (cI, 40, .inl f_58)), ((g 5), .inl (cB, 500, .inl tb))]) (w1 := [((g 0), .inr (9, [.int g_th, .ref (g 1), .ref (g 2), .ref (g 3), .ref (g 4), .ref (g 5), .int g_tp, .int z_50, .int z_51, .int z_52, .int z_53, .long z_54, .int z_55, .int z_56, .int g_fa, .int g_fp, .ref (g 6), .ref (g 7), .ref (g 8), .ref (g 9), .ref (g 10), .ref (g 11), .int g_lw, .int g_we, .int g_cu, .int g_go, .int g_ba, .ref (g 12), .ref (g 13), .int g_jo, .ref (g 14), .ref (g 15), .long g_bt, .int g_sb, .int g_ab, .int g_al, .ref (g 16), .ref (g 17)])), ((g 7), .inl (cI, 35, .inl u_63))]) hP hD [3, 2] [0, 1, 4] rfl rfl (by decide) (by decide) hk1 hFc hP1 hD1
        clear hFc hDc hPc hP1 hD1 hz1 hk1 hvm
        generalize H1 = H at hP hS ⊢
        have hP : va_P (dC, dI) vwCl [((g 8), .inl (cI, 75, .inl sp)), ((g 9), .inl (cI, 40, .inl f_58)), ((g 5), .inl (cB, 500, .inl tb)), ((g 0), .inr (9, [.int g_th, .ref (g 1), .ref (g 2), .ref (g 3), .ref (g 4), .ref (g 5), .int g_tp, .int z_50, .int z_51, .int z_52, .int z_53, .long z_54, .int z_55, .int z_56, .int g_fa, .int g_fp, .ref (g 6), .ref (g 7), .ref (g 8), .ref (g 9), .ref (g 10), .ref (g 11), .int g_lw, .int g_we, .int g_cu, .int g_go, .int g_ba, .ref (g 12), .ref (g 13), .int g_jo, .ref (g 14), .ref (g 15), .long g_bt, .int g_sb, .int g_ab, .int g_al, .ref (g 16), .ref (g 17)])), ((g 7), .inl (cI, 35, .inl u_63))] H := hP
        have hD : va_D A [((g 8), .inl (cI, 75, .inl sp)), ((g 9), .inl (cI, 40, .inl f_58)), ((g 5), .inl (cB, 500, .inl tb)), ((g 0), .inr (9, [.int g_th, .ref (g 1), .ref (g 2), .ref (g 3), .ref (g 4), .ref (g 5), .int g_tp, .int z_50, .int z_51, .int z_52, .int z_53, .long z_54, .int z_55, .int z_56, .int g_fa, .int g_fp, .ref (g 6), .ref (g 7), .ref (g 8), .ref (g 9), .ref (g 10), .ref (g 11), .int g_lw, .int g_we, .int g_cu, .int g_go, .int g_ba, .ref (g 12), .ref (g 13), .int g_jo, .ref (g 14), .ref (g 15), .long g_bt, .int g_sb, .int g_ab, .int g_al, .ref (g 16), .ref (g 17)])), ((g 7), .inl (cI, 35, .inl u_63))] := hD
        (try dsimp only at hw)
        have hw_64 := hw
        clear hw
        have hwi2 := WI_t5 hwi hw_64 (by omega)
        refine lv_goto (tgt := 94) hx hb dX9_lineHere_79 (by decide) ?_
        have hP9 := hP.sub (ws' := [((g 0), .inr (9, [.int g_th, .ref (g 1), .ref (g 2), .ref (g 3), .ref (g 4), .ref (g 5), .int g_tp, .int z_50, .int z_51, .int z_52, .int z_53, .long z_54, .int z_55, .int z_56, .int g_fa, .int g_fp, .ref (g 6), .ref (g 7), .ref (g 8), .ref (g 9), .ref (g 10), .ref (g 11), .int g_lw, .int g_we, .int g_cu, .int g_go, .int g_ba, .ref (g 12), .ref (g 13), .int g_jo, .ref (g 14), .ref (g 15), .long g_bt, .int g_sb, .int g_ab, .int g_al, .ref (g 16), .ref (g 17)])), ((g 5), .inl (cB, 500, .inl tb)), ((g 7), .inl (cI, 35, .inl u_63)), ((g 8), .inl (cI, 75, .inl sp)), ((g 9), .inl (cI, 40, .inl f_58))]) [3, 2, 4, 0, 1] rfl
        have hD9 := hD.sub (ws' := [((g 0), .inr (9, [.int g_th, .ref (g 1), .ref (g 2), .ref (g 3), .ref (g 4), .ref (g 5), .int g_tp, .int z_50, .int z_51, .int z_52, .int z_53, .long z_54, .int z_55, .int z_56, .int g_fa, .int g_fp, .ref (g 6), .ref (g 7), .ref (g 8), .ref (g 9), .ref (g 10), .ref (g 11), .int g_lw, .int g_we, .int g_cu, .int g_go, .int g_ba, .ref (g 12), .ref (g 13), .int g_jo, .ref (g 14), .ref (g 15), .long g_bt, .int g_sb, .int g_ab, .int g_al, .ref (g 16), .ref (g 17)])), ((g 5), .inl (cB, 500, .inl tb)), ((g 7), .inl (cI, 35, .inl u_63)), ((g 8), .inl (cI, 75, .inl sp)), ((g 9), .inl (cI, 40, .inl f_58))]) [3, 2, 4, 0, 1] (by decide) rfl
        exact W.vret hx hb hr (fun t ht hW => ⟨⟨(z_50, z_51, z_52, z_53, z_54, z_55, z_56, u_63, sp, f_58), rfl, ⟨(by first | omega | assumption | decide | exact LK_mono (by assumption) (by omega) | exact OM_mono (by assumption) (by omega) | exact CLR_mono (by assumption) (by omega) | (have e0 := T0; have e1 := T1; have e2 := T2; have e3 := T3; have em1 := Tm1; omega) | (dsimp only; done) | (dsimp only; first | omega | assumption | decide | exact LK_mono (by assumption) (by omega) | exact OM_mono (by assumption) (by omega) | exact CLR_mono (by assumption) (by omega) | (have e0 := T0; have e1 := T1; have e2 := T2; have e3 := T3; have em1 := Tm1; omega))), (by first | omega | assumption | decide | exact LK_mono (by assumption) (by omega) | exact OM_mono (by assumption) (by omega) | exact CLR_mono (by assumption) (by omega) | (have e0 := T0; have e1 := T1; have e2 := T2; have e3 := T3; have em1 := Tm1; omega) | (dsimp only; done) | (dsimp only; first | omega | assumption | decide | exact LK_mono (by assumption) (by omega) | exact OM_mono (by assumption) (by omega) | exact CLR_mono (by assumption) (by omega) | (have e0 := T0; have e1 := T1; have e2 := T2; have e3 := T3; have em1 := Tm1; omega))), (by first | omega | assumption | decide | exact LK_mono (by assumption) (by omega) | exact OM_mono (by assumption) (by omega) | exact CLR_mono (by assumption) (by omega) | (have e0 := T0; have e1 := T1; have e2 := T2; have e3 := T3; have em1 := Tm1; omega) | (dsimp only; done) | (dsimp only; first | omega | assumption | decide | exact LK_mono (by assumption) (by omega) | exact OM_mono (by assumption) (by omega) | exact CLR_mono (by assumption) (by omega) | (have e0 := T0; have e1 := T1; have e2 := T2; have e3 := T3; have em1 := Tm1; omega)))⟩, ⟨by rw [ht]; exact hP9, hD9⟩⟩, hS.F ht⟩) hS.2.2 dX9_lineHere_94
      · subst hw
        refine lv_if_eq (tgt := 82) hx hb dX9_lineHere_44 (by decide) (fun _ => ?_) (fun c9 => by first | exact absurd (by decide) c9 | exact absurd c9 (by decide))
        refine lv_aload_n hx hb dX9_lineHere_82 rfl (lv_at hl 0 rfl) ?_
        refine va_get (D := (dC, dI)) (ci := 9) (v := .int z_38) (C := RX9) (T := TX9) (N := 38) hx hb ht iX9 hown hK hP 2 rfl rfl 12 (by decide) (ht _ w_1274) (fun _ h9 => h9) rfl dX9_lineHere_83 ?_
        refine lv_if_ne (tgt := 94) hx hb dX9_lineHere_86 (by decide) (fun c_65 => ?_) (fun c_65 => ?_)
        · (try simp only [i_lt, i_le, i_eq, T0] at c_65)
          have hP9 := hP.sub (ws' := [((g 0), .inr (9, [.int g_th, .ref (g 1), .ref (g 2), .ref (g 3), .ref (g 4), .ref (g 5), .int g_tp, .int z_33, .int z_34, .int z_35, .int z_36, .long z_37, .int z_38, .int z_39, .int g_fa, .int g_fp, .ref (g 6), .ref (g 7), .ref (g 8), .ref (g 9), .ref (g 10), .ref (g 11), .int g_lw, .int g_we, .int g_cu, .int g_go, .int g_ba, .ref (g 12), .ref (g 13), .int g_jo, .ref (g 14), .ref (g 15), .long g_bt, .int g_sb, .int g_ab, .int g_al, .ref (g 16), .ref (g 17)])), ((g 5), .inl (cB, 500, .inl tb)), ((g 7), .inl (cI, 35, .inl hs)), ((g 8), .inl (cI, 75, .inl sp)), ((g 9), .inl (cI, 40, .inl wt))]) [2, 3, 4, 0, 1] rfl
          have hD9 := hD.sub (ws' := [((g 0), .inr (9, [.int g_th, .ref (g 1), .ref (g 2), .ref (g 3), .ref (g 4), .ref (g 5), .int g_tp, .int z_33, .int z_34, .int z_35, .int z_36, .long z_37, .int z_38, .int z_39, .int g_fa, .int g_fp, .ref (g 6), .ref (g 7), .ref (g 8), .ref (g 9), .ref (g 10), .ref (g 11), .int g_lw, .int g_we, .int g_cu, .int g_go, .int g_ba, .ref (g 12), .ref (g 13), .int g_jo, .ref (g 14), .ref (g 15), .long g_bt, .int g_sb, .int g_ab, .int g_al, .ref (g 16), .ref (g 17)])), ((g 5), .inl (cB, 500, .inl tb)), ((g 7), .inl (cI, 35, .inl hs)), ((g 8), .inl (cI, 75, .inl sp)), ((g 9), .inl (cI, 40, .inl wt))]) [2, 3, 4, 0, 1] (by decide) rfl
          exact W.vret hx hb hr (fun t ht hW => ⟨⟨(z_33, z_34, z_35, z_36, z_37, z_38, z_39, hs, sp, wt), rfl, ⟨(by first | omega | assumption | decide | exact LK_mono (by assumption) (by omega) | exact OM_mono (by assumption) (by omega) | exact CLR_mono (by assumption) (by omega) | (have e0 := T0; have e1 := T1; have e2 := T2; have e3 := T3; have em1 := Tm1; omega) | (dsimp only; done) | (dsimp only; first | omega | assumption | decide | exact LK_mono (by assumption) (by omega) | exact OM_mono (by assumption) (by omega) | exact CLR_mono (by assumption) (by omega) | (have e0 := T0; have e1 := T1; have e2 := T2; have e3 := T3; have em1 := Tm1; omega))), (by first | omega | assumption | decide | exact LK_mono (by assumption) (by omega) | exact OM_mono (by assumption) (by omega) | exact CLR_mono (by assumption) (by omega) | (have e0 := T0; have e1 := T1; have e2 := T2; have e3 := T3; have em1 := Tm1; omega) | (dsimp only; done) | (dsimp only; first | omega | assumption | decide | exact LK_mono (by assumption) (by omega) | exact OM_mono (by assumption) (by omega) | exact CLR_mono (by assumption) (by omega) | (have e0 := T0; have e1 := T1; have e2 := T2; have e3 := T3; have em1 := Tm1; omega))), (by first | omega | assumption | decide | exact LK_mono (by assumption) (by omega) | exact OM_mono (by assumption) (by omega) | exact CLR_mono (by assumption) (by omega) | (have e0 := T0; have e1 := T1; have e2 := T2; have e3 := T3; have em1 := Tm1; omega) | (dsimp only; done) | (dsimp only; first | omega | assumption | decide | exact LK_mono (by assumption) (by omega) | exact OM_mono (by assumption) (by omega) | exact CLR_mono (by assumption) (by omega) | (have e0 := T0; have e1 := T1; have e2 := T2; have e3 := T3; have em1 := Tm1; omega)))⟩, ⟨by rw [ht]; exact hP9, hD9⟩⟩, hS.F ht⟩) hS.2.2 dX9_lineHere_94
        · (try simp only [i_lt, i_le, i_eq, T0] at c_65)
          refine lv_aload_n hx hb dX9_lineHere_89 rfl (lv_at hl 0 rfl) ?_
          refine lv_iconst (v := 1) hx hb dX9_lineHere_90 (by decide) ?_
          have hPc := hP.sub (ws' := [((g 0), .inr (9, [.int g_th, .ref (g 1), .ref (g 2), .ref (g 3), .ref (g 4), .ref (g 5), .int g_tp, .int z_33, .int z_34, .int z_35, .int z_36, .long z_37, .int z_38, .int z_39, .int g_fa, .int g_fp, .ref (g 6), .ref (g 7), .ref (g 8), .ref (g 9), .ref (g 10), .ref (g 11), .int g_lw, .int g_we, .int g_cu, .int g_go, .int g_ba, .ref (g 12), .ref (g 13), .int g_jo, .ref (g 14), .ref (g 15), .long g_bt, .int g_sb, .int g_ab, .int g_al, .ref (g 16), .ref (g 17)]))]) [2] rfl
          have hDc := hD.sub (ws' := [((g 0), .inr (9, [.int g_th, .ref (g 1), .ref (g 2), .ref (g 3), .ref (g 4), .ref (g 5), .int g_tp, .int z_33, .int z_34, .int z_35, .int z_36, .long z_37, .int z_38, .int z_39, .int g_fa, .int g_fp, .ref (g 6), .ref (g 7), .ref (g 8), .ref (g 9), .ref (g 10), .ref (g 11), .int g_lw, .int g_we, .int g_cu, .int g_go, .int g_ba, .ref (g 12), .ref (g 13), .int g_jo, .ref (g 14), .ref (g 15), .long g_bt, .int g_sb, .int g_ab, .int g_al, .ref (g 16), .ref (g 17)]))]) [2] (by decide) rfl
          have hFc := va_free (wc := [((g 0), .inr (9, [.int g_th, .ref (g 1), .ref (g 2), .ref (g 3), .ref (g 4), .ref (g 5), .int g_tp, .int z_33, .int z_34, .int z_35, .int z_36, .long z_37, .int z_38, .int z_39, .int g_fa, .int g_fp, .ref (g 6), .ref (g 7), .ref (g 8), .ref (g 9), .ref (g 10), .ref (g 11), .int g_lw, .int g_we, .int g_cu, .int g_go, .int g_ba, .ref (g 12), .ref (g 13), .int g_jo, .ref (g 14), .ref (g 15), .long g_bt, .int g_sb, .int g_ab, .int g_al, .ref (g 16), .ref (g 17)]))]) hD hS hA [2] rfl
          refine va_callv (va_runV (As := [.int 1]) (rest := []) ⟨hx, hb, hml, hown, ht⟩ (s_X9_fails l dC dI cB cI cJ cZ cL H.size g g_th g_tp z_33 z_34 z_35 z_36 z_37 z_38 z_39 g_fa g_fp g_lw g_we g_cu g_go g_ba g_jo g_bt g_sb g_ab g_al 1 (by first | assumption | omega | decide | (simp only [T0, T1, T2, T3, Tm1]; omega))) (cwV 1 ht (gV w_1462 w_1464 w_56 w_114 w_1465) rfl rfl rfl (by decide +kernel) ⟨Nat.le_of_ble_eq_true rfl, Nat.le_of_ble_eq_true rfl⟩) (pVQn hN hK hPc hDc (ci := 9) (q0 := 0) rfl rfl) rfl rfl hl.1 rfl (lv_room (Nat.le_of_ble_eq_true rfl)) dX9_lineHere_91 ⟨Nat.le_of_ble_eq_true rfl, Nat.le_of_ble_eq_true rfl⟩) hS (fun q _ h => hFc q h) hFc (fun u_67 t1 H1 locs ht1 hvm hw hB hz1 hk1 hS => ?_)
          obtain ⟨z_68, z_69⟩ := u_67
          obtain ⟨hP1, hD1⟩ := hB
          rw [ht1] at hP1
          obtain ⟨hP, hD⟩ := va_join (wr := [((g 8), .inl (cI, 75, .inl sp)), ((g 9), .inl (cI, 40, .inl wt)), ((g 5), .inl (cB, 500, .inl tb)), ((g 7), .inl (cI, 35, .inl hs))]) (w1 := [((g 0), .inr (9, [.int g_th, .ref (g 1), .ref (g 2), .ref (g 3), .ref (g 4), .ref (g 5), .int g_tp, .int z_33, .int z_34, .int z_35, .int z_36, .long z_37, .int z_68, .int z_69, .int g_fa, .int g_fp, .ref (g 6), .ref (g 7), .ref (g 8), .ref (g 9), .ref (g 10), .ref (g 11), .int g_lw, .int g_we, .int g_cu, .int g_go, .int g_ba, .ref (g 12), .ref (g 13), .int g_jo, .ref (g 14), .ref (g 15), .long g_bt, .int g_sb, .int g_ab, .int g_al, .ref (g 16), .ref (g 17)]))]) hP hD [2] [0, 1, 3, 4] rfl rfl (by decide) (by decide) hk1 hFc hP1 hD1
          clear hFc hDc hPc hP1 hD1 hz1 hk1 hvm
          generalize H1 = H at hP hS ⊢
          have hP : va_P (dC, dI) vwCl [((g 8), .inl (cI, 75, .inl sp)), ((g 9), .inl (cI, 40, .inl wt)), ((g 5), .inl (cB, 500, .inl tb)), ((g 7), .inl (cI, 35, .inl hs)), ((g 0), .inr (9, [.int g_th, .ref (g 1), .ref (g 2), .ref (g 3), .ref (g 4), .ref (g 5), .int g_tp, .int z_33, .int z_34, .int z_35, .int z_36, .long z_37, .int z_68, .int z_69, .int g_fa, .int g_fp, .ref (g 6), .ref (g 7), .ref (g 8), .ref (g 9), .ref (g 10), .ref (g 11), .int g_lw, .int g_we, .int g_cu, .int g_go, .int g_ba, .ref (g 12), .ref (g 13), .int g_jo, .ref (g 14), .ref (g 15), .long g_bt, .int g_sb, .int g_ab, .int g_al, .ref (g 16), .ref (g 17)]))] H := hP
          have hD : va_D A [((g 8), .inl (cI, 75, .inl sp)), ((g 9), .inl (cI, 40, .inl wt)), ((g 5), .inl (cB, 500, .inl tb)), ((g 7), .inl (cI, 35, .inl hs)), ((g 0), .inr (9, [.int g_th, .ref (g 1), .ref (g 2), .ref (g 3), .ref (g 4), .ref (g 5), .int g_tp, .int z_33, .int z_34, .int z_35, .int z_36, .long z_37, .int z_68, .int z_69, .int g_fa, .int g_fp, .ref (g 6), .ref (g 7), .ref (g 8), .ref (g 9), .ref (g 10), .ref (g 11), .int g_lw, .int g_we, .int g_cu, .int g_go, .int g_ba, .ref (g 12), .ref (g 13), .int g_jo, .ref (g 14), .ref (g 15), .long g_bt, .int g_sb, .int g_ab, .int g_al, .ref (g 16), .ref (g 17)]))] := hD
          (try dsimp only at hw)
          have hw_70 := hw
          clear hw
          have hP9 := hP.sub (ws' := [((g 0), .inr (9, [.int g_th, .ref (g 1), .ref (g 2), .ref (g 3), .ref (g 4), .ref (g 5), .int g_tp, .int z_33, .int z_34, .int z_35, .int z_36, .long z_37, .int z_68, .int z_69, .int g_fa, .int g_fp, .ref (g 6), .ref (g 7), .ref (g 8), .ref (g 9), .ref (g 10), .ref (g 11), .int g_lw, .int g_we, .int g_cu, .int g_go, .int g_ba, .ref (g 12), .ref (g 13), .int g_jo, .ref (g 14), .ref (g 15), .long g_bt, .int g_sb, .int g_ab, .int g_al, .ref (g 16), .ref (g 17)])), ((g 5), .inl (cB, 500, .inl tb)), ((g 7), .inl (cI, 35, .inl hs)), ((g 8), .inl (cI, 75, .inl sp)), ((g 9), .inl (cI, 40, .inl wt))]) [4, 2, 3, 0, 1] rfl
          have hD9 := hD.sub (ws' := [((g 0), .inr (9, [.int g_th, .ref (g 1), .ref (g 2), .ref (g 3), .ref (g 4), .ref (g 5), .int g_tp, .int z_33, .int z_34, .int z_35, .int z_36, .long z_37, .int z_68, .int z_69, .int g_fa, .int g_fp, .ref (g 6), .ref (g 7), .ref (g 8), .ref (g 9), .ref (g 10), .ref (g 11), .int g_lw, .int g_we, .int g_cu, .int g_go, .int g_ba, .ref (g 12), .ref (g 13), .int g_jo, .ref (g 14), .ref (g 15), .long g_bt, .int g_sb, .int g_ab, .int g_al, .ref (g 16), .ref (g 17)])), ((g 5), .inl (cB, 500, .inl tb)), ((g 7), .inl (cI, 35, .inl hs)), ((g 8), .inl (cI, 75, .inl sp)), ((g 9), .inl (cI, 40, .inl wt))]) [4, 2, 3, 0, 1] (by decide) rfl
          exact W.vret hx hb hr (fun t ht hW => ⟨⟨(z_33, z_34, z_35, z_36, z_37, z_68, z_69, hs, sp, wt), rfl, ⟨(by first | omega | assumption | decide | exact LK_mono (by assumption) (by omega) | exact OM_mono (by assumption) (by omega) | exact CLR_mono (by assumption) (by omega) | (have e0 := T0; have e1 := T1; have e2 := T2; have e3 := T3; have em1 := Tm1; omega) | (dsimp only; done) | (dsimp only; first | omega | assumption | decide | exact LK_mono (by assumption) (by omega) | exact OM_mono (by assumption) (by omega) | exact CLR_mono (by assumption) (by omega) | (have e0 := T0; have e1 := T1; have e2 := T2; have e3 := T3; have em1 := Tm1; omega))), (by first | omega | assumption | decide | exact LK_mono (by assumption) (by omega) | exact OM_mono (by assumption) (by omega) | exact CLR_mono (by assumption) (by omega) | (have e0 := T0; have e1 := T1; have e2 := T2; have e3 := T3; have em1 := Tm1; omega) | (dsimp only; done) | (dsimp only; first | omega | assumption | decide | exact LK_mono (by assumption) (by omega) | exact OM_mono (by assumption) (by omega) | exact CLR_mono (by assumption) (by omega) | (have e0 := T0; have e1 := T1; have e2 := T2; have e3 := T3; have em1 := Tm1; omega))), (by first | omega | assumption | decide | exact LK_mono (by assumption) (by omega) | exact OM_mono (by assumption) (by omega) | exact CLR_mono (by assumption) (by omega) | (have e0 := T0; have e1 := T1; have e2 := T2; have e3 := T3; have em1 := Tm1; omega) | (dsimp only; done) | (dsimp only; first | omega | assumption | decide | exact LK_mono (by assumption) (by omega) | exact OM_mono (by assumption) (by omega) | exact CLR_mono (by assumption) (by omega) | (have e0 := T0; have e1 := T1; have e2 := T2; have e3 := T3; have em1 := Tm1; omega)))⟩, ⟨by rw [ht]; exact hP9, hD9⟩⟩, hS.F ht⟩) hS.2.2 dX9_lineHere_94
set_option maxHeartbeats 8000000 in
set_option maxRecDepth 100000 in
theorem s_X9_clears (l : Launch) (dC : Nat → ClassId) (dI : Nat → Nat → Nat) (cB cI cJ cZ cL : ClassId) (sz : Nat) (g : Nat → Nat) (g_th : Int32) (g_tp : Int32) (g_so : Int32) (g_tk : Int32) (g_pl : Int32) (g_va : Int32) (g_wo : Int64) (g_bd : Int32) (g_bp : Int32) (g_fa : Int32) (g_fp : Int32) (g_lw : Int32) (g_we : Int32) (g_cu : Int32) (g_go : Int32) (g_ba : Int32) (g_jo : Int32) (g_bt : Int64) (g_sb : Int32) (g_ab : Int32) (g_al : Int32) (li : Nat → Int32) (hs : Nat → Int32)   : Met l yX9_clears (wy yX9_clears cX9_clears 2 none) ({ frames := 1, cells := 0, slots := 0, locals := 40 }) (va_Pc [.ref (g 0)] (fun U => U.heap.size = sz ∧ va_P (dC, dI) vwCl [((g 0), .inr (9, [.int g_th, .ref (g 1), .ref (g 2), .ref (g 3), .ref (g 4), .ref (g 5), .int g_tp, .int g_so, .int g_tk, .int g_pl, .int g_va, .long g_wo, .int g_bd, .int g_bp, .int g_fa, .int g_fp, .ref (g 6), .ref (g 7), .ref (g 8), .ref (g 9), .ref (g 10), .ref (g 11), .int g_lw, .int g_we, .int g_cu, .int g_go, .int g_ba, .ref (g 12), .ref (g 13), .int g_jo, .ref (g 14), .ref (g 15), .long g_bt, .int g_sb, .int g_ab, .int g_al, .ref (g 16), .ref (g 17)])), ((g 6), .inl (cI, 5, .inl li)), ((g 7), .inl (cI, 35, .inl hs))] U.heap ∧ va_K (dC, dI) vwCl (tyL cB cI cJ cZ cL) U ∧ va_D (fun _ => True) [((g 0), .inr (9, [.int g_th, .ref (g 1), .ref (g 2), .ref (g 3), .ref (g 4), .ref (g 5), .int g_tp, .int g_so, .int g_tk, .int g_pl, .int g_va, .long g_wo, .int g_bd, .int g_bp, .int g_fa, .int g_fp, .ref (g 6), .ref (g 7), .ref (g 8), .ref (g 9), .ref (g 10), .ref (g 11), .int g_lw, .int g_we, .int g_cu, .int g_go, .int g_ba, .ref (g 12), .ref (g 13), .int g_jo, .ref (g 14), .ref (g 15), .long g_bt, .int g_sb, .int g_ab, .int g_al, .ref (g 16), .ref (g 17)])), ((g 6), .inl (cI, 5, .inl li)), ((g 7), .inl (cI, 35, .inl hs))] ∧ NW U)) (va_Qv (fun u => (CLR hs u.2 7)) (fun (u : (Nat → Int32) × (Nat → Int32)) t => va_P (dC, dI) vwCl [((g 0), .inr (9, [.int g_th, .ref (g 1), .ref (g 2), .ref (g 3), .ref (g 4), .ref (g 5), .int g_tp, .int g_so, .int g_tk, .int g_pl, .int g_va, .long g_wo, .int g_bd, .int g_bp, .int g_fa, .int g_fp, .ref (g 6), .ref (g 7), .ref (g 8), .ref (g 9), .ref (g 10), .ref (g 11), .int g_lw, .int g_we, .int g_cu, .int g_go, .int g_ba, .ref (g 12), .ref (g 13), .int g_jo, .ref (g 14), .ref (g 15), .long g_bt, .int g_sb, .int g_ab, .int g_al, .ref (g 16), .ref (g 17)])), ((g 6), .inl (cI, 5, .inl u.1)), ((g 7), .inl (cI, 35, .inl u.2))] t.heap ∧ va_D (va_A [((g 0), .inr (9, [.int g_th, .ref (g 1), .ref (g 2), .ref (g 3), .ref (g 4), .ref (g 5), .int g_tp, .int g_so, .int g_tk, .int g_pl, .int g_va, .long g_wo, .int g_bd, .int g_bp, .int g_fa, .int g_fp, .ref (g 6), .ref (g 7), .ref (g 8), .ref (g 9), .ref (g 10), .ref (g 11), .int g_lw, .int g_we, .int g_cu, .int g_go, .int g_ba, .ref (g 12), .ref (g 13), .int g_jo, .ref (g 14), .ref (g 15), .long g_bt, .int g_sb, .int g_ab, .int g_al, .ref (g 16), .ref (g 17)])), ((g 6), .inl (cI, 5, .inl li)), ((g 7), .inl (cI, 35, .inl hs))] sz) [((g 0), .inr (9, [.int g_th, .ref (g 1), .ref (g 2), .ref (g 3), .ref (g 4), .ref (g 5), .int g_tp, .int g_so, .int g_tk, .int g_pl, .int g_va, .long g_wo, .int g_bd, .int g_bp, .int g_fa, .int g_fp, .ref (g 6), .ref (g 7), .ref (g 8), .ref (g 9), .ref (g 10), .ref (g 11), .int g_lw, .int g_we, .int g_cu, .int g_go, .int g_ba, .ref (g 12), .ref (g 13), .int g_jo, .ref (g 14), .ref (g 15), .long g_bt, .int g_sb, .int g_ab, .int g_al, .ref (g 16), .ref (g 17)])), ((g 6), .inl (cI, 5, .inl u.1)), ((g 7), .inl (cI, 35, .inl u.2))]) (va_A [((g 0), .inr (9, [.int g_th, .ref (g 1), .ref (g 2), .ref (g 3), .ref (g 4), .ref (g 5), .int g_tp, .int g_so, .int g_tk, .int g_pl, .int g_va, .long g_wo, .int g_bd, .int g_bp, .int g_fa, .int g_fp, .ref (g 6), .ref (g 7), .ref (g 8), .ref (g 9), .ref (g 10), .ref (g 11), .int g_lw, .int g_we, .int g_cu, .int g_go, .int g_ba, .ref (g 12), .ref (g 13), .int g_jo, .ref (g 14), .ref (g 15), .long g_bt, .int g_sb, .int g_ab, .int g_al, .ref (g 16), .ref (g 17)])), ((g 6), .inl (cI, 5, .inl li)), ((g 7), .inl (cI, 35, .inl hs))] sz)) 0 0 (va_A [((g 0), .inr (9, [.int g_th, .ref (g 1), .ref (g 2), .ref (g 3), .ref (g 4), .ref (g 5), .int g_tp, .int g_so, .int g_tk, .int g_pl, .int g_va, .long g_wo, .int g_bd, .int g_bp, .int g_fa, .int g_fp, .ref (g 6), .ref (g 7), .ref (g 8), .ref (g 9), .ref (g 10), .ref (g 11), .int g_lw, .int g_we, .int g_cu, .int g_go, .int g_ba, .ref (g 12), .ref (g 13), .int g_jo, .ref (g 14), .ref (g 15), .long g_bt, .int g_sb, .int g_ab, .int g_al, .ref (g 16), .ref (g 17)])), ((g 6), .inl (cI, 5, .inl li)), ((g 7), .inl (cI, 35, .inl hs))] sz) := by
  refine Met.ofW (cc := cX9_clears) (maxL := 2) (ret := none) (by decide) rfl ?_
  intro p e s m args below meth c s₁ B hml hv
  obtain ⟨rfl, hsz, hP, hK, hD0, hN⟩ := hv
  have hx := B.exec
  have hb := B.bytes
  have hr := B.returns
  have ht : ∀ w ∈ lw_ok, w.before _ s = true := fun w h => atoms_spec (ws := wy yX9_clears cX9_clears 2 none) B.pre w (List.mem_cons_of_mem _ h)
  have hown : s.vm.findClass RX9 = some m.cls := findClass_of_methodNamed B.named
  have hlocks := B.notSynchronized
  subst hsz
  have hD := hD0.self (sz := s.heap.size)
  generalize hAe : va_A [((g 0), .inr (9, [.int g_th, .ref (g 1), .ref (g 2), .ref (g 3), .ref (g 4), .ref (g 5), .int g_tp, .int g_so, .int g_tk, .int g_pl, .int g_va, .long g_wo, .int g_bd, .int g_bp, .int g_fa, .int g_fp, .ref (g 6), .ref (g 7), .ref (g 8), .ref (g 9), .ref (g 10), .ref (g 11), .int g_lw, .int g_we, .int g_cu, .int g_go, .int g_ba, .ref (g 12), .ref (g 13), .int g_jo, .ref (g 14), .ref (g 15), .long g_bt, .int g_sb, .int g_ab, .int g_al, .ref (g 16), .ref (g 17)])), ((g 6), .inl (cI, 5, .inl li)), ((g 7), .inl (cI, 35, .inl hs))] s.heap.size = A at hD ⊢
  have hA : ∀ q : Nat, s.heap.size ≤ q → A q := fun q h => by rw [← hAe]; exact Or.inr h
  have hS : va_S A s.heap s.heap [] := va_S.rf
  clear hAe hD0
  have hl := lv_entry ([.ref (g 0)]) (n := 2) (Nat.le_of_ble_eq_true rfl)
  rw [lg_entry_eq]
  generalize (lg_sl ([.ref (g 0)]) ++ List.replicate (2 - (lg_sl ([.ref (g 0)])).length) Slot.unset).toArray = ls at hl ⊢
  have hl : lv_has ls 2 [(0, .ref (g 0))] := hl
  have hP : va_P (dC, dI) vwCl [((g 0), .inr (9, [.int g_th, .ref (g 1), .ref (g 2), .ref (g 3), .ref (g 4), .ref (g 5), .int g_tp, .int g_so, .int g_tk, .int g_pl, .int g_va, .long g_wo, .int g_bd, .int g_bp, .int g_fa, .int g_fp, .ref (g 6), .ref (g 7), .ref (g 8), .ref (g 9), .ref (g 10), .ref (g 11), .int g_lw, .int g_we, .int g_cu, .int g_go, .int g_ba, .ref (g 12), .ref (g 13), .int g_jo, .ref (g 14), .ref (g 15), .long g_bt, .int g_sb, .int g_ab, .int g_al, .ref (g 16), .ref (g 17)])), ((g 6), .inl (cI, 5, .inl li)), ((g 7), .inl (cI, 35, .inl hs))] s.heap := hP
  have hD : va_D A [((g 0), .inr (9, [.int g_th, .ref (g 1), .ref (g 2), .ref (g 3), .ref (g 4), .ref (g 5), .int g_tp, .int g_so, .int g_tk, .int g_pl, .int g_va, .long g_wo, .int g_bd, .int g_bp, .int g_fa, .int g_fp, .ref (g 6), .ref (g 7), .ref (g 8), .ref (g 9), .ref (g 10), .ref (g 11), .int g_lw, .int g_we, .int g_cu, .int g_go, .int g_ba, .ref (g 12), .ref (g 13), .int g_jo, .ref (g 14), .ref (g 15), .long g_bt, .int g_sb, .int g_ab, .int g_al, .ref (g 16), .ref (g 17)])), ((g 6), .inl (cI, 5, .inl li)), ((g 7), .inl (cI, 35, .inl hs))] := hD
  refine lv_aload_n hx hb dX9_clears_0 rfl (lv_at hl 0 rfl) ?_
  refine va_get (D := (dC, dI)) (ci := 9) (v := .ref (g 6)) (C := RX9) (T := TX9) (N := 38) hx hb ht iX9 hown hK hP 0 rfl rfl 16 (by decide) (ht _ w_1278) (fun _ h9 => h9) rfl dX9_clears_1 ?_
  refine lv_iconst (v := 4) hx hb dX9_clears_4 (by decide) ?_
  refine lv_iconst (v := 0) hx hb dX9_clears_5 (by decide) ?_
  refine va_iast hx hb hK hP hD hS 1 1 rfl rfl (by unfold vp_in; decide) dX9_clears_6 (fun H locs hP hD hS => ?_)
  obtain ⟨f_1, ef_1⟩ : ∃ z : Nat → Int32, z = upd li (Int32.toNatClampNeg 4) 0 := ⟨_, rfl⟩
  rw [← ef_1] at hP hD
  clear ef_1
  have hP : va_P (dC, dI) vwCl [((g 0), .inr (9, [.int g_th, .ref (g 1), .ref (g 2), .ref (g 3), .ref (g 4), .ref (g 5), .int g_tp, .int g_so, .int g_tk, .int g_pl, .int g_va, .long g_wo, .int g_bd, .int g_bp, .int g_fa, .int g_fp, .ref (g 6), .ref (g 7), .ref (g 8), .ref (g 9), .ref (g 10), .ref (g 11), .int g_lw, .int g_we, .int g_cu, .int g_go, .int g_ba, .ref (g 12), .ref (g 13), .int g_jo, .ref (g 14), .ref (g 15), .long g_bt, .int g_sb, .int g_ab, .int g_al, .ref (g 16), .ref (g 17)])), ((g 6), .inl (cI, 5, .inl f_1)), ((g 7), .inl (cI, 35, .inl hs))] H := hP
  have hD : va_D A [((g 0), .inr (9, [.int g_th, .ref (g 1), .ref (g 2), .ref (g 3), .ref (g 4), .ref (g 5), .int g_tp, .int g_so, .int g_tk, .int g_pl, .int g_va, .long g_wo, .int g_bd, .int g_bp, .int g_fa, .int g_fp, .ref (g 6), .ref (g 7), .ref (g 8), .ref (g 9), .ref (g 10), .ref (g 11), .int g_lw, .int g_we, .int g_cu, .int g_go, .int g_ba, .ref (g 12), .ref (g 13), .int g_jo, .ref (g 14), .ref (g 15), .long g_bt, .int g_sb, .int g_ab, .int g_al, .ref (g 16), .ref (g 17)])), ((g 6), .inl (cI, 5, .inl f_1)), ((g 7), .inl (cI, 35, .inl hs))] := hD
  refine lv_iconst (v := 0) hx hb dX9_clears_7 (by decide) ?_
  refine lv_istore_n (lv' := [(1, .int 0), (0, .ref (g 0))]) hx hb dX9_clears_8 rfl hl (by decide) rfl (fun ls hl => ?_)
  have lp_12 : ∀ (d : Nat) (v_5 : Int32) (wv_6 : Nat → Int32) (H : Heap) (locs : List Loc) (ls : Array Slot), ((0 ≤ Int32.toInt v_5 ∧ Int32.toInt v_5 ≤ 7) ∧ (CLR hs wv_6 (Int32.toInt v_5))) → ((7 - Int32.toInt v_5).toNat < d) → va_P (dC, dI) vwCl [((g 0), .inr (9, [.int g_th, .ref (g 1), .ref (g 2), .ref (g 3), .ref (g 4), .ref (g 5), .int g_tp, .int g_so, .int g_tk, .int g_pl, .int g_va, .long g_wo, .int g_bd, .int g_bp, .int g_fa, .int g_fp, .ref (g 6), .ref (g 7), .ref (g 8), .ref (g 9), .ref (g 10), .ref (g 11), .int g_lw, .int g_we, .int g_cu, .int g_go, .int g_ba, .ref (g 12), .ref (g 13), .int g_jo, .ref (g 14), .ref (g 15), .long g_bt, .int g_sb, .int g_ab, .int g_al, .ref (g 16), .ref (g 17)])), ((g 6), .inl (cI, 5, .inl f_1)), ((g 7), .inl (cI, 35, .inl wv_6))] H → va_D A [((g 0), .inr (9, [.int g_th, .ref (g 1), .ref (g 2), .ref (g 3), .ref (g 4), .ref (g 5), .int g_tp, .int g_so, .int g_tk, .int g_pl, .int g_va, .long g_wo, .int g_bd, .int g_bp, .int g_fa, .int g_fp, .ref (g 6), .ref (g 7), .ref (g 8), .ref (g 9), .ref (g 10), .ref (g 11), .int g_lw, .int g_we, .int g_cu, .int g_go, .int g_ba, .ref (g 12), .ref (g 13), .int g_jo, .ref (g 14), .ref (g 15), .long g_bt, .int g_sb, .int g_ab, .int g_al, .ref (g 16), .ref (g 17)])), ((g 6), .inl (cI, 5, .inl f_1)), ((g 7), .inl (cI, 35, .inl wv_6))] → va_S A s.heap H locs → lv_has ls 2 [(1, .int v_5), (0, .ref (g 0))] → W p l e (headSpec (wy yX9_clears cX9_clears 2 none) ({ frames := 1, cells := 0, slots := 0, locals := 40 })).room s m ([.ref (g 0)] : List Value).toArray below meth c H locs 0 0 (MQ below (va_Qv (fun u => (CLR hs u.2 7)) (fun (u : (Nat → Int32) × (Nat → Int32)) t => va_P (dC, dI) vwCl [((g 0), .inr (9, [.int g_th, .ref (g 1), .ref (g 2), .ref (g 3), .ref (g 4), .ref (g 5), .int g_tp, .int g_so, .int g_tk, .int g_pl, .int g_va, .long g_wo, .int g_bd, .int g_bp, .int g_fa, .int g_fp, .ref (g 6), .ref (g 7), .ref (g 8), .ref (g 9), .ref (g 10), .ref (g 11), .int g_lw, .int g_we, .int g_cu, .int g_go, .int g_ba, .ref (g 12), .ref (g 13), .int g_jo, .ref (g 14), .ref (g 15), .long g_bt, .int g_sb, .int g_ab, .int g_al, .ref (g 16), .ref (g 17)])), ((g 6), .inl (cI, 5, .inl u.1)), ((g 7), .inl (cI, 35, .inl u.2))] t.heap ∧ va_D A [((g 0), .inr (9, [.int g_th, .ref (g 1), .ref (g 2), .ref (g 3), .ref (g 4), .ref (g 5), .int g_tp, .int g_so, .int g_tk, .int g_pl, .int g_va, .long g_wo, .int g_bd, .int g_bp, .int g_fa, .int g_fp, .ref (g 6), .ref (g 7), .ref (g 8), .ref (g 9), .ref (g 10), .ref (g 11), .int g_lw, .int g_we, .int g_cu, .int g_go, .int g_ba, .ref (g 12), .ref (g 13), .int g_jo, .ref (g 14), .ref (g 15), .long g_bt, .int g_sb, .int g_ab, .int g_al, .ref (g 16), .ref (g 17)])), ((g 6), .inl (cI, 5, .inl u.1)), ((g 7), .inl (cI, 35, .inl u.2))]) A) ([.ref (g 0)] : List Value).toArray s 0 0 A) (F0 m 9 ls []) := by
    intro d
    induction d with
    | zero => intro v_5 wv_6 H locs ls hI hM; exfalso; exact absurd hM (Nat.not_lt_zero _)
    | succ d ih_13 =>
      intro v_5 wv_6 H locs ls hI hM hP hD hS hl
      obtain ⟨hI_14, hI_15⟩ := hI
      refine lv_iload_n hx hb dX9_clears_9 rfl (lv_at hl 0 rfl) ?_
      refine lv_bipush (v := 7) hx hb dX9_clears_10 (by decide) ?_
      refine lv_icmp_ge (tgt := 27) hx hb dX9_clears_12 (by decide) (fun c_16 => ?_) (fun c_16 => ?_)
      · (try simp only [i_lt, i_le, i_eq, T7] at c_16)
        have hP9 := hP.sub (ws' := [((g 0), .inr (9, [.int g_th, .ref (g 1), .ref (g 2), .ref (g 3), .ref (g 4), .ref (g 5), .int g_tp, .int g_so, .int g_tk, .int g_pl, .int g_va, .long g_wo, .int g_bd, .int g_bp, .int g_fa, .int g_fp, .ref (g 6), .ref (g 7), .ref (g 8), .ref (g 9), .ref (g 10), .ref (g 11), .int g_lw, .int g_we, .int g_cu, .int g_go, .int g_ba, .ref (g 12), .ref (g 13), .int g_jo, .ref (g 14), .ref (g 15), .long g_bt, .int g_sb, .int g_ab, .int g_al, .ref (g 16), .ref (g 17)])), ((g 6), .inl (cI, 5, .inl f_1)), ((g 7), .inl (cI, 35, .inl wv_6))]) [0, 1, 2] rfl
        have hD9 := hD.sub (ws' := [((g 0), .inr (9, [.int g_th, .ref (g 1), .ref (g 2), .ref (g 3), .ref (g 4), .ref (g 5), .int g_tp, .int g_so, .int g_tk, .int g_pl, .int g_va, .long g_wo, .int g_bd, .int g_bp, .int g_fa, .int g_fp, .ref (g 6), .ref (g 7), .ref (g 8), .ref (g 9), .ref (g 10), .ref (g 11), .int g_lw, .int g_we, .int g_cu, .int g_go, .int g_ba, .ref (g 12), .ref (g 13), .int g_jo, .ref (g 14), .ref (g 15), .long g_bt, .int g_sb, .int g_ab, .int g_al, .ref (g 16), .ref (g 17)])), ((g 6), .inl (cI, 5, .inl f_1)), ((g 7), .inl (cI, 35, .inl wv_6))]) [0, 1, 2] (by decide) rfl
        exact W.vret hx hb hr (fun t ht hW => ⟨⟨(f_1, wv_6), rfl, (by first | omega | assumption | decide | exact LK_mono (by assumption) (by omega) | exact OM_mono (by assumption) (by omega) | exact CLR_mono (by assumption) (by omega) | (have e0 := T0; have e1 := T1; have e2 := T2; have e3 := T3; have em1 := Tm1; omega) | (dsimp only; done) | (dsimp only; first | omega | assumption | decide | exact LK_mono (by assumption) (by omega) | exact OM_mono (by assumption) (by omega) | exact CLR_mono (by assumption) (by omega) | (have e0 := T0; have e1 := T1; have e2 := T2; have e3 := T3; have em1 := Tm1; omega))), ⟨by rw [ht]; exact hP9, hD9⟩⟩, hS.F ht⟩) hS.2.2 dX9_clears_27
      · (try simp only [i_lt, i_le, i_eq, T7] at c_16)
        refine lv_aload_n hx hb dX9_clears_15 rfl (lv_at hl 1 rfl) ?_
        refine lv_iload_n hx hb dX9_clears_16 rfl (lv_at hl 0 rfl) ?_
        refine lv_iconst (v := 0) hx hb dX9_clears_17 (by decide) ?_
        have hPc := hP.sub (ws' := [((g 0), .inr (9, [.int g_th, .ref (g 1), .ref (g 2), .ref (g 3), .ref (g 4), .ref (g 5), .int g_tp, .int g_so, .int g_tk, .int g_pl, .int g_va, .long g_wo, .int g_bd, .int g_bp, .int g_fa, .int g_fp, .ref (g 6), .ref (g 7), .ref (g 8), .ref (g 9), .ref (g 10), .ref (g 11), .int g_lw, .int g_we, .int g_cu, .int g_go, .int g_ba, .ref (g 12), .ref (g 13), .int g_jo, .ref (g 14), .ref (g 15), .long g_bt, .int g_sb, .int g_ab, .int g_al, .ref (g 16), .ref (g 17)])), ((g 7), .inl (cI, 35, .inl wv_6))]) [0, 2] rfl
        have hDc := hD.sub (ws' := [((g 0), .inr (9, [.int g_th, .ref (g 1), .ref (g 2), .ref (g 3), .ref (g 4), .ref (g 5), .int g_tp, .int g_so, .int g_tk, .int g_pl, .int g_va, .long g_wo, .int g_bd, .int g_bp, .int g_fa, .int g_fp, .ref (g 6), .ref (g 7), .ref (g 8), .ref (g 9), .ref (g 10), .ref (g 11), .int g_lw, .int g_we, .int g_cu, .int g_go, .int g_ba, .ref (g 12), .ref (g 13), .int g_jo, .ref (g 14), .ref (g 15), .long g_bt, .int g_sb, .int g_ab, .int g_al, .ref (g 16), .ref (g 17)])), ((g 7), .inl (cI, 35, .inl wv_6))]) [0, 2] (by decide) rfl
        have hFc := va_free (wc := [((g 0), .inr (9, [.int g_th, .ref (g 1), .ref (g 2), .ref (g 3), .ref (g 4), .ref (g 5), .int g_tp, .int g_so, .int g_tk, .int g_pl, .int g_va, .long g_wo, .int g_bd, .int g_bp, .int g_fa, .int g_fp, .ref (g 6), .ref (g 7), .ref (g 8), .ref (g 9), .ref (g 10), .ref (g 11), .int g_lw, .int g_we, .int g_cu, .int g_go, .int g_ba, .ref (g 12), .ref (g 13), .int g_jo, .ref (g 14), .ref (g 15), .long g_bt, .int g_sb, .int g_ab, .int g_al, .ref (g 16), .ref (g 17)])), ((g 7), .inl (cI, 35, .inl wv_6))]) hD hS hA [0, 2] rfl
        refine va_callv (va_runV (As := [.int v_5, .int 0]) (rest := []) ⟨hx, hb, hml, hown, ht⟩ (s_X9_tells l dC dI cB cI cJ cZ cL H.size g g_th g_tp g_so g_tk g_pl g_va g_wo g_bd g_bp g_fa g_fp g_lw g_we g_cu g_go g_ba g_jo g_bt g_sb g_ab g_al wv_6 v_5 0 (by first | assumption | omega | decide | (simp only [T0, T1, T2, T3, Tm1]; omega))) (cwV 2 ht (gV w_1424 w_1426 w_48 w_114 w_1427) rfl rfl rfl (by decide +kernel) ⟨Nat.le_of_ble_eq_true rfl, Nat.le_of_ble_eq_true rfl⟩) (pVQn hN hK hPc hDc (ci := 9) (q0 := 0) rfl rfl) rfl rfl hl.1 rfl (lv_room (Nat.le_of_ble_eq_true rfl)) dX9_clears_18 ⟨Nat.le_of_ble_eq_true rfl, Nat.le_of_ble_eq_true rfl⟩) hS (fun q _ h => hFc q h) hFc (fun u_18 t1 H1 locs ht1 hvm hw hB hz1 hk1 hS => ?_)
        obtain ⟨hP1, hD1⟩ := hB
        rw [ht1] at hP1
        obtain ⟨hP, hD⟩ := va_join (wr := [((g 6), .inl (cI, 5, .inl f_1))]) (w1 := [((g 0), .inr (9, [.int g_th, .ref (g 1), .ref (g 2), .ref (g 3), .ref (g 4), .ref (g 5), .int g_tp, .int g_so, .int g_tk, .int g_pl, .int g_va, .long g_wo, .int g_bd, .int g_bp, .int g_fa, .int g_fp, .ref (g 6), .ref (g 7), .ref (g 8), .ref (g 9), .ref (g 10), .ref (g 11), .int g_lw, .int g_we, .int g_cu, .int g_go, .int g_ba, .ref (g 12), .ref (g 13), .int g_jo, .ref (g 14), .ref (g 15), .long g_bt, .int g_sb, .int g_ab, .int g_al, .ref (g 16), .ref (g 17)])), ((g 7), .inl (cI, 35, .inl u_18))]) hP hD [0, 2] [1] rfl rfl (by decide) (by decide) hk1 hFc hP1 hD1
        clear hFc hDc hPc hP1 hD1 hz1 hk1 hvm
        generalize H1 = H at hP hS ⊢
        have hP : va_P (dC, dI) vwCl [((g 6), .inl (cI, 5, .inl f_1)), ((g 0), .inr (9, [.int g_th, .ref (g 1), .ref (g 2), .ref (g 3), .ref (g 4), .ref (g 5), .int g_tp, .int g_so, .int g_tk, .int g_pl, .int g_va, .long g_wo, .int g_bd, .int g_bp, .int g_fa, .int g_fp, .ref (g 6), .ref (g 7), .ref (g 8), .ref (g 9), .ref (g 10), .ref (g 11), .int g_lw, .int g_we, .int g_cu, .int g_go, .int g_ba, .ref (g 12), .ref (g 13), .int g_jo, .ref (g 14), .ref (g 15), .long g_bt, .int g_sb, .int g_ab, .int g_al, .ref (g 16), .ref (g 17)])), ((g 7), .inl (cI, 35, .inl u_18))] H := hP
        have hD : va_D A [((g 6), .inl (cI, 5, .inl f_1)), ((g 0), .inr (9, [.int g_th, .ref (g 1), .ref (g 2), .ref (g 3), .ref (g 4), .ref (g 5), .int g_tp, .int g_so, .int g_tk, .int g_pl, .int g_va, .long g_wo, .int g_bd, .int g_bp, .int g_fa, .int g_fp, .ref (g 6), .ref (g 7), .ref (g 8), .ref (g 9), .ref (g 10), .ref (g 11), .int g_lw, .int g_we, .int g_cu, .int g_go, .int g_ba, .ref (g 12), .ref (g 13), .int g_jo, .ref (g 14), .ref (g 15), .long g_bt, .int g_sb, .int g_ab, .int g_al, .ref (g 16), .ref (g 17)])), ((g 7), .inl (cI, 35, .inl u_18))] := hD
        (try dsimp only at hw)
        have hw_19 := hw
        clear hw
        have hcl := CLR_step hI_15 (by omega) hw_19
        obtain ⟨y_20, ey_20⟩ : ∃ z : Int32, z = v_5 + 1 := ⟨_, rfl⟩
        have ty_20 := iaddF ey_20
        simp only [T1] at ty_20
        refine lv_iinc (v := y_20) (lv' := [(1, .int y_20), (0, .ref (g 0))]) hx hb dX9_clears_21 hl (k := 0) rfl (by rw [ey_20]; rfl) (by decide) rfl (fun ls hl => ?_)
        clear ey_20
        refine lv_goto (tgt := 9) hx hb dX9_clears_24 (by decide) ?_
        exact ih_13 y_20 u_18 _ _ _ ⟨(by first | omega | assumption | decide | exact LK_0 | exact OM_0 | exact CE_0 | exact SZI_0 | exact CLR_0 | exact CP_0 | exact PV_0 | exact BV_0 (by assumption) (by omega) (by omega) | exact LK_mono (by assumption) (by omega) | exact OM_mono (by assumption) (by omega) | exact CE_mono (by assumption) (by omega) | exact CLR_mono (by assumption) (by omega) | exact CP_mono (by assumption) (by omega) | (have e0 := T0; have e1 := T1; have e2 := T2; have em1 := Tm1; omega)), (by first | omega | assumption | decide | exact LK_0 | exact OM_0 | exact CE_0 | exact SZI_0 | exact CLR_0 | exact CP_0 | exact PV_0 | exact BV_0 (by assumption) (by omega) (by omega) | exact LK_mono (by assumption) (by omega) | exact OM_mono (by assumption) (by omega) | exact CE_mono (by assumption) (by omega) | exact CLR_mono (by assumption) (by omega) | exact CP_mono (by assumption) (by omega) | (have e0 := T0; have e1 := T1; have e2 := T2; have em1 := Tm1; omega))⟩ (by omega) (hP.sub (ws' := [((g 0), .inr (9, [.int g_th, .ref (g 1), .ref (g 2), .ref (g 3), .ref (g 4), .ref (g 5), .int g_tp, .int g_so, .int g_tk, .int g_pl, .int g_va, .long g_wo, .int g_bd, .int g_bp, .int g_fa, .int g_fp, .ref (g 6), .ref (g 7), .ref (g 8), .ref (g 9), .ref (g 10), .ref (g 11), .int g_lw, .int g_we, .int g_cu, .int g_go, .int g_ba, .ref (g 12), .ref (g 13), .int g_jo, .ref (g 14), .ref (g 15), .long g_bt, .int g_sb, .int g_ab, .int g_al, .ref (g 16), .ref (g 17)])), ((g 6), .inl (cI, 5, .inl f_1)), ((g 7), .inl (cI, 35, .inl u_18))]) [1, 0, 2] rfl) (hD.sub (ws' := [((g 0), .inr (9, [.int g_th, .ref (g 1), .ref (g 2), .ref (g 3), .ref (g 4), .ref (g 5), .int g_tp, .int g_so, .int g_tk, .int g_pl, .int g_va, .long g_wo, .int g_bd, .int g_bp, .int g_fa, .int g_fp, .ref (g 6), .ref (g 7), .ref (g 8), .ref (g 9), .ref (g 10), .ref (g 11), .int g_lw, .int g_we, .int g_cu, .int g_go, .int g_ba, .ref (g 12), .ref (g 13), .int g_jo, .ref (g 14), .ref (g 15), .long g_bt, .int g_sb, .int g_ab, .int g_al, .ref (g 16), .ref (g 17)])), ((g 6), .inl (cI, 5, .inl f_1)), ((g 7), .inl (cI, 35, .inl u_18))]) [1, 0, 2] (by decide) rfl) hS (lv_sub hl [0, 1] rfl)
  exact lp_12 _ 0 hs _ _ _ ⟨(by first | omega | assumption | decide | exact LK_0 | exact OM_0 | exact CE_0 | exact SZI_0 | exact CLR_0 | exact CP_0 | exact PV_0 | exact BV_0 (by assumption) (by omega) (by omega) | exact LK_mono (by assumption) (by omega) | exact OM_mono (by assumption) (by omega) | exact CE_mono (by assumption) (by omega) | exact CLR_mono (by assumption) (by omega) | exact CP_mono (by assumption) (by omega) | (have e0 := T0; have e1 := T1; have e2 := T2; have em1 := Tm1; omega)), (by first | omega | assumption | decide | exact LK_0 | exact OM_0 | exact CE_0 | exact SZI_0 | exact CLR_0 | exact CP_0 | exact PV_0 | exact BV_0 (by assumption) (by omega) (by omega) | exact LK_mono (by assumption) (by omega) | exact OM_mono (by assumption) (by omega) | exact CE_mono (by assumption) (by omega) | exact CLR_mono (by assumption) (by omega) | exact CP_mono (by assumption) (by omega) | (have e0 := T0; have e1 := T1; have e2 := T2; have em1 := Tm1; omega))⟩ (Nat.lt_succ_self _) hP hD hS (lv_sub hl [0, 1] rfl)
set_option maxHeartbeats 8000000 in
set_option maxRecDepth 100000 in
theorem s_X9_copyRow1 (l : Launch) (dC : Nat → ClassId) (dI : Nat → Nat → Nat) (cB cI cJ cZ cL : ClassId) (sz : Nat) (q1 : Nat) (f1 : Nat → Int32) (p0 : Int32) (p1 : Int32) (ha : 0 ≤ Int32.toInt p0 ∧ Int32.toInt p0 ≤ 4) (hb0 : 0 ≤ Int32.toInt p1 ∧ Int32.toInt p1 ≤ 4) (hab : ¬ Int32.toInt p0 = Int32.toInt p1) : Met l yX9_copyRow (wy yX9_copyRow cX9_copyRow 5 none) ({ frames := 0, cells := 0, slots := 0, locals := 0 }) (va_Pc [.ref q1, .int 1, .int p0, .int p1] (fun U => U.heap.size = sz ∧ va_P (dC, dI) vwCl [(q1, .inl (cI, 5, .inl f1))] U.heap ∧ va_K (dC, dI) vwCl (tyL cB cI cJ cZ cL) U ∧ va_D (fun _ => True) [(q1, .inl (cI, 5, .inl f1))] ∧ NW U)) (va_Qv (fun u => CP (1 * Int32.toInt p0) (1 * Int32.toInt p1) 1 f1 u) (fun (u : (Nat → Int32)) t => va_P (dC, dI) vwCl [(q1, .inl (cI, 5, .inl u))] t.heap ∧ va_D (va_A [(q1, .inl (cI, 5, .inl f1))] sz) [(q1, .inl (cI, 5, .inl u))]) (va_A [(q1, .inl (cI, 5, .inl f1))] sz)) 0 0 (va_A [(q1, .inl (cI, 5, .inl f1))] sz) := by
  refine Met.ofW (cc := cX9_copyRow) (maxL := 5) (ret := none) (by decide) rfl ?_
  intro p e s m args below meth c s₁ B hml hv
  obtain ⟨rfl, hsz, hP, hK, hD0, hN⟩ := hv
  have hx := B.exec
  have hb := B.bytes
  have hr := B.returns
  have ht : ∀ w ∈ lw_ok, w.before _ s = true := fun w h => atoms_spec (ws := wy yX9_copyRow cX9_copyRow 5 none) B.pre w (List.mem_cons_of_mem _ h)
  have hown : s.vm.findClass RX9 = some m.cls := findClass_of_methodNamed B.named
  have hlocks := B.notSynchronized
  subst hsz
  have hD := hD0.self (sz := s.heap.size)
  generalize hAe : va_A [(q1, .inl (cI, 5, .inl f1))] s.heap.size = A at hD ⊢
  have hA : ∀ q : Nat, s.heap.size ≤ q → A q := fun q h => by rw [← hAe]; exact Or.inr h
  have hS : va_S A s.heap s.heap [] := va_S.rf
  clear hAe hD0
  have hl := lv_entry ([.ref q1, .int 1, .int p0, .int p1]) (n := 5) (Nat.le_of_ble_eq_true rfl)
  rw [lg_entry_eq]
  generalize (lg_sl ([.ref q1, .int 1, .int p0, .int p1]) ++ List.replicate (5 - (lg_sl ([.ref q1, .int 1, .int p0, .int p1])).length) Slot.unset).toArray = ls at hl ⊢
  have hl : lv_has ls 5 [(0, .ref q1), (1, .int 1), (2, .int p0), (3, .int p1)] := hl
  have hP : va_P (dC, dI) vwCl [(q1, .inl (cI, 5, .inl f1))] s.heap := hP
  have hD : va_D A [(q1, .inl (cI, 5, .inl f1))] := hD
  have rg_p0 := rgI p0
  have rg_p1 := rgI p1
  refine lv_iconst (v := 0) hx hb dX9_copyRow_0 (by decide) ?_
  refine lv_istore (lv' := [(4, .int 0), (0, .ref q1), (1, .int 1), (2, .int p0), (3, .int p1)]) hx hb dX9_copyRow_1 hl (by decide) rfl (fun ls hl => ?_)
  have lp_17 : ∀ (d : Nat) (v_7 : Int32) (wv_8 : Nat → Int32) (H : Heap) (locs : List Loc) (ls : Array Slot), ((0 ≤ Int32.toInt v_7 ∧ Int32.toInt v_7 ≤ 1) ∧ (CP (1 * Int32.toInt p0) (1 * Int32.toInt p1) (Int32.toInt v_7) f1 wv_8)) → ((1 - Int32.toInt v_7).toNat < d) → va_P (dC, dI) vwCl [(q1, .inl (cI, 5, .inl wv_8))] H → va_D A [(q1, .inl (cI, 5, .inl wv_8))] → va_S A s.heap H locs → lv_has ls 5 [(4, .int v_7), (0, .ref q1), (1, .int 1), (2, .int p0), (3, .int p1)] → W p l e (headSpec (wy yX9_copyRow cX9_copyRow 5 none) ({ frames := 0, cells := 0, slots := 0, locals := 0 })).room s m ([.ref q1, .int 1, .int p0, .int p1] : List Value).toArray below meth c H locs 0 0 (MQ below (va_Qv (fun u => CP (1 * Int32.toInt p0) (1 * Int32.toInt p1) 1 f1 u) (fun (u : (Nat → Int32)) t => va_P (dC, dI) vwCl [(q1, .inl (cI, 5, .inl u))] t.heap ∧ va_D A [(q1, .inl (cI, 5, .inl u))]) A) ([.ref q1, .int 1, .int p0, .int p1] : List Value).toArray s 0 0 A) (F0 m 3 ls []) := by
    intro d
    induction d with
    | zero => intro v_7 wv_8 H locs ls hI hM; exfalso; exact absurd hM (Nat.not_lt_zero _)
    | succ d ih_18 =>
      intro v_7 wv_8 H locs ls hI hM hP hD hS hl
      obtain ⟨hI_19, hI_20⟩ := hI
      refine lv_iload hx hb dX9_copyRow_3 (lv_at hl 0 rfl) ?_
      refine lv_iload_n hx hb dX9_copyRow_5 rfl (lv_at hl 2 rfl) ?_
      refine lv_icmp_ge (tgt := 31) hx hb dX9_copyRow_6 (by decide) (fun c_21 => ?_) (fun c_21 => ?_)
      · (try simp only [i_lt, i_le, i_eq, T1] at c_21)
        have hP9 := hP.sub (ws' := [(q1, .inl (cI, 5, .inl wv_8))]) [0] rfl
        have hD9 := hD.sub (ws' := [(q1, .inl (cI, 5, .inl wv_8))]) [0] (by decide) rfl
        exact W.vret hx hb hr (fun t ht hW => ⟨⟨wv_8, rfl, (by first | exact CP_mono (by assumption) (by omega) | (dsimp only; exact CP_mono (by assumption) (by omega))), ⟨by rw [ht]; exact hP9, hD9⟩⟩, hS.F ht⟩) hS.2.2 dX9_copyRow_31
      · (try simp only [i_lt, i_le, i_eq, T1] at c_21)
        refine lv_aload_n hx hb dX9_copyRow_9 rfl (lv_at hl 1 rfl) ?_
        refine lv_iload_n hx hb dX9_copyRow_10 rfl (lv_at hl 2 rfl) ?_
        refine lv_iload_n hx hb dX9_copyRow_11 rfl (lv_at hl 4 rfl) ?_
        refine lv_imul hx hb dX9_copyRow_12 ?_
        refine lv_topi (fun y_22 ey_22 => ?_)
        have ty_22 := imulF ey_22
        simp only [T1] at ty_22
        clear ey_22
        refine lv_iload hx hb dX9_copyRow_13 (lv_at hl 0 rfl) ?_
        refine lv_iadd hx hb dX9_copyRow_15 ?_
        refine lv_topi (fun y_23 ey_23 => ?_)
        have ty_23 := iaddF ey_23
        clear ey_23
        refine lv_aload_n hx hb dX9_copyRow_16 rfl (lv_at hl 1 rfl) ?_
        refine lv_iload_n hx hb dX9_copyRow_17 rfl (lv_at hl 2 rfl) ?_
        refine lv_iload_n hx hb dX9_copyRow_18 rfl (lv_at hl 3 rfl) ?_
        refine lv_imul hx hb dX9_copyRow_19 ?_
        refine lv_topi (fun y_24 ey_24 => ?_)
        have ty_24 := imulF ey_24
        simp only [T1] at ty_24
        clear ey_24
        refine lv_iload hx hb dX9_copyRow_20 (lv_at hl 0 rfl) ?_
        refine lv_iadd hx hb dX9_copyRow_22 ?_
        refine lv_topi (fun y_25 ey_25 => ?_)
        have ty_25 := iaddF ey_25
        clear ey_25
        refine va_iald hx hb hK hP 0 1 rfl rfl (vp_in_iff.mpr (by omega)) dX9_copyRow_23 ?_
        refine lv_topi (fun y_26 ey_26 => ?_)
        refine va_iast hx hb hK hP hD hS 0 1 rfl rfl (vp_in_iff.mpr (by omega)) dX9_copyRow_24 (fun H locs hP hD hS => ?_)
        obtain ⟨f_27, ef_27⟩ : ∃ z : Nat → Int32, z = upd wv_8 (Int32.toNatClampNeg y_23) y_26 := ⟨_, rfl⟩
        rw [← ef_27] at hP hD
        have hcp := CP_step (n := 1) hI_20 (y0 := y_25) (y1 := y_23) (by omega) (by omega) (by omega) (by omega) (by omega) (by omega) (by omega) ey_26 ef_27
        have hP : va_P (dC, dI) vwCl [(q1, .inl (cI, 5, .inl f_27))] H := hP
        have hD : va_D A [(q1, .inl (cI, 5, .inl f_27))] := hD
        obtain ⟨y_28, ey_28⟩ : ∃ z : Int32, z = v_7 + 1 := ⟨_, rfl⟩
        have ty_28 := iaddF ey_28
        simp only [T1] at ty_28
        refine lv_iinc (v := y_28) (lv' := [(4, .int y_28), (0, .ref q1), (1, .int 1), (2, .int p0), (3, .int p1)]) hx hb dX9_copyRow_25 hl (k := 0) rfl (by rw [ey_28]; rfl) (by decide) rfl (fun ls hl => ?_)
        clear ey_28
        refine lv_goto (tgt := 3) hx hb dX9_copyRow_28 (by decide) ?_
        exact ih_18 y_28 f_27 _ _ _ ⟨(by first | omega | assumption | decide | exact LK_0 | exact OM_0 | exact CE_0 | exact SZI_0 | exact CLR_0 | exact CP_0 | exact PV_0 | exact BV_0 (by assumption) (by omega) (by omega) | exact LK_mono (by assumption) (by omega) | exact OM_mono (by assumption) (by omega) | exact CE_mono (by assumption) (by omega) | exact CLR_mono (by assumption) (by omega) | exact CP_mono (by assumption) (by omega) | (have e0 := T0; have e1 := T1; have e2 := T2; have em1 := Tm1; omega)), (by first | omega | assumption | decide | exact LK_0 | exact OM_0 | exact CE_0 | exact SZI_0 | exact CLR_0 | exact CP_0 | exact PV_0 | exact BV_0 (by assumption) (by omega) (by omega) | exact LK_mono (by assumption) (by omega) | exact OM_mono (by assumption) (by omega) | exact CE_mono (by assumption) (by omega) | exact CLR_mono (by assumption) (by omega) | exact CP_mono (by assumption) (by omega) | (have e0 := T0; have e1 := T1; have e2 := T2; have em1 := Tm1; omega))⟩ (by omega) (hP.sub (ws' := [(q1, .inl (cI, 5, .inl f_27))]) [0] rfl) (hD.sub (ws' := [(q1, .inl (cI, 5, .inl f_27))]) [0] (by decide) rfl) hS (lv_sub hl [0, 1, 2, 3, 4] rfl)
  exact lp_17 _ 0 f1 _ _ _ ⟨(by first | omega | assumption | decide | exact LK_0 | exact OM_0 | exact CE_0 | exact SZI_0 | exact CLR_0 | exact CP_0 | exact PV_0 | exact BV_0 (by assumption) (by omega) (by omega) | exact LK_mono (by assumption) (by omega) | exact OM_mono (by assumption) (by omega) | exact CE_mono (by assumption) (by omega) | exact CLR_mono (by assumption) (by omega) | exact CP_mono (by assumption) (by omega) | (have e0 := T0; have e1 := T1; have e2 := T2; have em1 := Tm1; omega)), (by first | omega | assumption | decide | exact LK_0 | exact OM_0 | exact CE_0 | exact SZI_0 | exact CLR_0 | exact CP_0 | exact PV_0 | exact BV_0 (by assumption) (by omega) (by omega) | exact LK_mono (by assumption) (by omega) | exact OM_mono (by assumption) (by omega) | exact CE_mono (by assumption) (by omega) | exact CLR_mono (by assumption) (by omega) | exact CP_mono (by assumption) (by omega) | (have e0 := T0; have e1 := T1; have e2 := T2; have em1 := Tm1; omega))⟩ (Nat.lt_succ_self _) hP hD hS (lv_sub hl [0, 1, 2, 3, 4] rfl)
set_option maxHeartbeats 8000000 in
set_option maxRecDepth 100000 in
theorem s_X9_copyRow7 (l : Launch) (dC : Nat → ClassId) (dI : Nat → Nat → Nat) (cB cI cJ cZ cL : ClassId) (sz : Nat) (q1 : Nat) (f1 : Nat → Int32) (p0 : Int32) (p1 : Int32) (ha : 0 ≤ Int32.toInt p0 ∧ Int32.toInt p0 ≤ 4) (hb0 : 0 ≤ Int32.toInt p1 ∧ Int32.toInt p1 ≤ 4) (hab : ¬ Int32.toInt p0 = Int32.toInt p1) : Met l yX9_copyRow (wy yX9_copyRow cX9_copyRow 5 none) ({ frames := 0, cells := 0, slots := 0, locals := 0 }) (va_Pc [.ref q1, .int 7, .int p0, .int p1] (fun U => U.heap.size = sz ∧ va_P (dC, dI) vwCl [(q1, .inl (cI, 35, .inl f1))] U.heap ∧ va_K (dC, dI) vwCl (tyL cB cI cJ cZ cL) U ∧ va_D (fun _ => True) [(q1, .inl (cI, 35, .inl f1))] ∧ NW U)) (va_Qv (fun u => CP (7 * Int32.toInt p0) (7 * Int32.toInt p1) 7 f1 u) (fun (u : (Nat → Int32)) t => va_P (dC, dI) vwCl [(q1, .inl (cI, 35, .inl u))] t.heap ∧ va_D (va_A [(q1, .inl (cI, 35, .inl f1))] sz) [(q1, .inl (cI, 35, .inl u))]) (va_A [(q1, .inl (cI, 35, .inl f1))] sz)) 0 0 (va_A [(q1, .inl (cI, 35, .inl f1))] sz) := by
  refine Met.ofW (cc := cX9_copyRow) (maxL := 5) (ret := none) (by decide) rfl ?_
  intro p e s m args below meth c s₁ B hml hv
  obtain ⟨rfl, hsz, hP, hK, hD0, hN⟩ := hv
  have hx := B.exec
  have hb := B.bytes
  have hr := B.returns
  have ht : ∀ w ∈ lw_ok, w.before _ s = true := fun w h => atoms_spec (ws := wy yX9_copyRow cX9_copyRow 5 none) B.pre w (List.mem_cons_of_mem _ h)
  have hown : s.vm.findClass RX9 = some m.cls := findClass_of_methodNamed B.named
  have hlocks := B.notSynchronized
  subst hsz
  have hD := hD0.self (sz := s.heap.size)
  generalize hAe : va_A [(q1, .inl (cI, 35, .inl f1))] s.heap.size = A at hD ⊢
  have hA : ∀ q : Nat, s.heap.size ≤ q → A q := fun q h => by rw [← hAe]; exact Or.inr h
  have hS : va_S A s.heap s.heap [] := va_S.rf
  clear hAe hD0
  have hl := lv_entry ([.ref q1, .int 7, .int p0, .int p1]) (n := 5) (Nat.le_of_ble_eq_true rfl)
  rw [lg_entry_eq]
  generalize (lg_sl ([.ref q1, .int 7, .int p0, .int p1]) ++ List.replicate (5 - (lg_sl ([.ref q1, .int 7, .int p0, .int p1])).length) Slot.unset).toArray = ls at hl ⊢
  have hl : lv_has ls 5 [(0, .ref q1), (1, .int 7), (2, .int p0), (3, .int p1)] := hl
  have hP : va_P (dC, dI) vwCl [(q1, .inl (cI, 35, .inl f1))] s.heap := hP
  have hD : va_D A [(q1, .inl (cI, 35, .inl f1))] := hD
  have rg_p0 := rgI p0
  have rg_p1 := rgI p1
  refine lv_iconst (v := 0) hx hb dX9_copyRow_0 (by decide) ?_
  refine lv_istore (lv' := [(4, .int 0), (0, .ref q1), (1, .int 7), (2, .int p0), (3, .int p1)]) hx hb dX9_copyRow_1 hl (by decide) rfl (fun ls hl => ?_)
  have lp_17 : ∀ (d : Nat) (v_7 : Int32) (wv_8 : Nat → Int32) (H : Heap) (locs : List Loc) (ls : Array Slot), ((0 ≤ Int32.toInt v_7 ∧ Int32.toInt v_7 ≤ 7) ∧ (CP (7 * Int32.toInt p0) (7 * Int32.toInt p1) (Int32.toInt v_7) f1 wv_8)) → ((7 - Int32.toInt v_7).toNat < d) → va_P (dC, dI) vwCl [(q1, .inl (cI, 35, .inl wv_8))] H → va_D A [(q1, .inl (cI, 35, .inl wv_8))] → va_S A s.heap H locs → lv_has ls 5 [(4, .int v_7), (0, .ref q1), (1, .int 7), (2, .int p0), (3, .int p1)] → W p l e (headSpec (wy yX9_copyRow cX9_copyRow 5 none) ({ frames := 0, cells := 0, slots := 0, locals := 0 })).room s m ([.ref q1, .int 7, .int p0, .int p1] : List Value).toArray below meth c H locs 0 0 (MQ below (va_Qv (fun u => CP (7 * Int32.toInt p0) (7 * Int32.toInt p1) 7 f1 u) (fun (u : (Nat → Int32)) t => va_P (dC, dI) vwCl [(q1, .inl (cI, 35, .inl u))] t.heap ∧ va_D A [(q1, .inl (cI, 35, .inl u))]) A) ([.ref q1, .int 7, .int p0, .int p1] : List Value).toArray s 0 0 A) (F0 m 3 ls []) := by
    intro d
    induction d with
    | zero => intro v_7 wv_8 H locs ls hI hM; exfalso; exact absurd hM (Nat.not_lt_zero _)
    | succ d ih_18 =>
      intro v_7 wv_8 H locs ls hI hM hP hD hS hl
      obtain ⟨hI_19, hI_20⟩ := hI
      refine lv_iload hx hb dX9_copyRow_3 (lv_at hl 0 rfl) ?_
      refine lv_iload_n hx hb dX9_copyRow_5 rfl (lv_at hl 2 rfl) ?_
      refine lv_icmp_ge (tgt := 31) hx hb dX9_copyRow_6 (by decide) (fun c_21 => ?_) (fun c_21 => ?_)
      · (try simp only [i_lt, i_le, i_eq, T7] at c_21)
        have hP9 := hP.sub (ws' := [(q1, .inl (cI, 35, .inl wv_8))]) [0] rfl
        have hD9 := hD.sub (ws' := [(q1, .inl (cI, 35, .inl wv_8))]) [0] (by decide) rfl
        exact W.vret hx hb hr (fun t ht hW => ⟨⟨wv_8, rfl, (by first | exact CP_mono (by assumption) (by omega) | (dsimp only; exact CP_mono (by assumption) (by omega))), ⟨by rw [ht]; exact hP9, hD9⟩⟩, hS.F ht⟩) hS.2.2 dX9_copyRow_31
      · (try simp only [i_lt, i_le, i_eq, T7] at c_21)
        refine lv_aload_n hx hb dX9_copyRow_9 rfl (lv_at hl 1 rfl) ?_
        refine lv_iload_n hx hb dX9_copyRow_10 rfl (lv_at hl 2 rfl) ?_
        refine lv_iload_n hx hb dX9_copyRow_11 rfl (lv_at hl 4 rfl) ?_
        refine lv_imul hx hb dX9_copyRow_12 ?_
        refine lv_topi (fun y_22 ey_22 => ?_)
        have ty_22 := imulF ey_22
        simp only [T7] at ty_22
        clear ey_22
        refine lv_iload hx hb dX9_copyRow_13 (lv_at hl 0 rfl) ?_
        refine lv_iadd hx hb dX9_copyRow_15 ?_
        refine lv_topi (fun y_23 ey_23 => ?_)
        have ty_23 := iaddF ey_23
        clear ey_23
        refine lv_aload_n hx hb dX9_copyRow_16 rfl (lv_at hl 1 rfl) ?_
        refine lv_iload_n hx hb dX9_copyRow_17 rfl (lv_at hl 2 rfl) ?_
        refine lv_iload_n hx hb dX9_copyRow_18 rfl (lv_at hl 3 rfl) ?_
        refine lv_imul hx hb dX9_copyRow_19 ?_
        refine lv_topi (fun y_24 ey_24 => ?_)
        have ty_24 := imulF ey_24
        simp only [T7] at ty_24
        clear ey_24
        refine lv_iload hx hb dX9_copyRow_20 (lv_at hl 0 rfl) ?_
        refine lv_iadd hx hb dX9_copyRow_22 ?_
        refine lv_topi (fun y_25 ey_25 => ?_)
        have ty_25 := iaddF ey_25
        clear ey_25
        refine va_iald hx hb hK hP 0 1 rfl rfl (vp_in_iff.mpr (by omega)) dX9_copyRow_23 ?_
        refine lv_topi (fun y_26 ey_26 => ?_)
        refine va_iast hx hb hK hP hD hS 0 1 rfl rfl (vp_in_iff.mpr (by omega)) dX9_copyRow_24 (fun H locs hP hD hS => ?_)
        obtain ⟨f_27, ef_27⟩ : ∃ z : Nat → Int32, z = upd wv_8 (Int32.toNatClampNeg y_23) y_26 := ⟨_, rfl⟩
        rw [← ef_27] at hP hD
        have hcp := CP_step (n := 7) hI_20 (y0 := y_25) (y1 := y_23) (by omega) (by omega) (by omega) (by omega) (by omega) (by omega) (by omega) ey_26 ef_27
        have hP : va_P (dC, dI) vwCl [(q1, .inl (cI, 35, .inl f_27))] H := hP
        have hD : va_D A [(q1, .inl (cI, 35, .inl f_27))] := hD
        obtain ⟨y_28, ey_28⟩ : ∃ z : Int32, z = v_7 + 1 := ⟨_, rfl⟩
        have ty_28 := iaddF ey_28
        simp only [T1] at ty_28
        refine lv_iinc (v := y_28) (lv' := [(4, .int y_28), (0, .ref q1), (1, .int 7), (2, .int p0), (3, .int p1)]) hx hb dX9_copyRow_25 hl (k := 0) rfl (by rw [ey_28]; rfl) (by decide) rfl (fun ls hl => ?_)
        clear ey_28
        refine lv_goto (tgt := 3) hx hb dX9_copyRow_28 (by decide) ?_
        exact ih_18 y_28 f_27 _ _ _ ⟨(by first | omega | assumption | decide | exact LK_0 | exact OM_0 | exact CE_0 | exact SZI_0 | exact CLR_0 | exact CP_0 | exact PV_0 | exact BV_0 (by assumption) (by omega) (by omega) | exact LK_mono (by assumption) (by omega) | exact OM_mono (by assumption) (by omega) | exact CE_mono (by assumption) (by omega) | exact CLR_mono (by assumption) (by omega) | exact CP_mono (by assumption) (by omega) | (have e0 := T0; have e1 := T1; have e2 := T2; have em1 := Tm1; omega)), (by first | omega | assumption | decide | exact LK_0 | exact OM_0 | exact CE_0 | exact SZI_0 | exact CLR_0 | exact CP_0 | exact PV_0 | exact BV_0 (by assumption) (by omega) (by omega) | exact LK_mono (by assumption) (by omega) | exact OM_mono (by assumption) (by omega) | exact CE_mono (by assumption) (by omega) | exact CLR_mono (by assumption) (by omega) | exact CP_mono (by assumption) (by omega) | (have e0 := T0; have e1 := T1; have e2 := T2; have em1 := Tm1; omega))⟩ (by omega) (hP.sub (ws' := [(q1, .inl (cI, 35, .inl f_27))]) [0] rfl) (hD.sub (ws' := [(q1, .inl (cI, 35, .inl f_27))]) [0] (by decide) rfl) hS (lv_sub hl [0, 1, 2, 3, 4] rfl)
  exact lp_17 _ 0 f1 _ _ _ ⟨(by first | omega | assumption | decide | exact LK_0 | exact OM_0 | exact CE_0 | exact SZI_0 | exact CLR_0 | exact CP_0 | exact PV_0 | exact BV_0 (by assumption) (by omega) (by omega) | exact LK_mono (by assumption) (by omega) | exact OM_mono (by assumption) (by omega) | exact CE_mono (by assumption) (by omega) | exact CLR_mono (by assumption) (by omega) | exact CP_mono (by assumption) (by omega) | (have e0 := T0; have e1 := T1; have e2 := T2; have em1 := Tm1; omega)), (by first | omega | assumption | decide | exact LK_0 | exact OM_0 | exact CE_0 | exact SZI_0 | exact CLR_0 | exact CP_0 | exact PV_0 | exact BV_0 (by assumption) (by omega) (by omega) | exact LK_mono (by assumption) (by omega) | exact OM_mono (by assumption) (by omega) | exact CE_mono (by assumption) (by omega) | exact CLR_mono (by assumption) (by omega) | exact CP_mono (by assumption) (by omega) | (have e0 := T0; have e1 := T1; have e2 := T2; have em1 := Tm1; omega))⟩ (Nat.lt_succ_self _) hP hD hS (lv_sub hl [0, 1, 2, 3, 4] rfl)
set_option maxHeartbeats 8000000 in
set_option maxRecDepth 100000 in
theorem s_X9_copyRow15 (l : Launch) (dC : Nat → ClassId) (dI : Nat → Nat → Nat) (cB cI cJ cZ cL : ClassId) (sz : Nat) (q1 : Nat) (f1 : Nat → Int32) (p0 : Int32) (p1 : Int32) (ha : 0 ≤ Int32.toInt p0 ∧ Int32.toInt p0 ≤ 4) (hb0 : 0 ≤ Int32.toInt p1 ∧ Int32.toInt p1 ≤ 4) (hab : ¬ Int32.toInt p0 = Int32.toInt p1) : Met l yX9_copyRow (wy yX9_copyRow cX9_copyRow 5 none) ({ frames := 0, cells := 0, slots := 0, locals := 0 }) (va_Pc [.ref q1, .int 15, .int p0, .int p1] (fun U => U.heap.size = sz ∧ va_P (dC, dI) vwCl [(q1, .inl (cI, 75, .inl f1))] U.heap ∧ va_K (dC, dI) vwCl (tyL cB cI cJ cZ cL) U ∧ va_D (fun _ => True) [(q1, .inl (cI, 75, .inl f1))] ∧ NW U)) (va_Qv (fun u => CP (15 * Int32.toInt p0) (15 * Int32.toInt p1) 15 f1 u) (fun (u : (Nat → Int32)) t => va_P (dC, dI) vwCl [(q1, .inl (cI, 75, .inl u))] t.heap ∧ va_D (va_A [(q1, .inl (cI, 75, .inl f1))] sz) [(q1, .inl (cI, 75, .inl u))]) (va_A [(q1, .inl (cI, 75, .inl f1))] sz)) 0 0 (va_A [(q1, .inl (cI, 75, .inl f1))] sz) := by
  refine Met.ofW (cc := cX9_copyRow) (maxL := 5) (ret := none) (by decide) rfl ?_
  intro p e s m args below meth c s₁ B hml hv
  obtain ⟨rfl, hsz, hP, hK, hD0, hN⟩ := hv
  have hx := B.exec
  have hb := B.bytes
  have hr := B.returns
  have ht : ∀ w ∈ lw_ok, w.before _ s = true := fun w h => atoms_spec (ws := wy yX9_copyRow cX9_copyRow 5 none) B.pre w (List.mem_cons_of_mem _ h)
  have hown : s.vm.findClass RX9 = some m.cls := findClass_of_methodNamed B.named
  have hlocks := B.notSynchronized
  subst hsz
  have hD := hD0.self (sz := s.heap.size)
  generalize hAe : va_A [(q1, .inl (cI, 75, .inl f1))] s.heap.size = A at hD ⊢
  have hA : ∀ q : Nat, s.heap.size ≤ q → A q := fun q h => by rw [← hAe]; exact Or.inr h
  have hS : va_S A s.heap s.heap [] := va_S.rf
  clear hAe hD0
  have hl := lv_entry ([.ref q1, .int 15, .int p0, .int p1]) (n := 5) (Nat.le_of_ble_eq_true rfl)
  rw [lg_entry_eq]
  generalize (lg_sl ([.ref q1, .int 15, .int p0, .int p1]) ++ List.replicate (5 - (lg_sl ([.ref q1, .int 15, .int p0, .int p1])).length) Slot.unset).toArray = ls at hl ⊢
  have hl : lv_has ls 5 [(0, .ref q1), (1, .int 15), (2, .int p0), (3, .int p1)] := hl
  have hP : va_P (dC, dI) vwCl [(q1, .inl (cI, 75, .inl f1))] s.heap := hP
  have hD : va_D A [(q1, .inl (cI, 75, .inl f1))] := hD
  have rg_p0 := rgI p0
  have rg_p1 := rgI p1
  refine lv_iconst (v := 0) hx hb dX9_copyRow_0 (by decide) ?_
  refine lv_istore (lv' := [(4, .int 0), (0, .ref q1), (1, .int 15), (2, .int p0), (3, .int p1)]) hx hb dX9_copyRow_1 hl (by decide) rfl (fun ls hl => ?_)
  have lp_17 : ∀ (d : Nat) (v_7 : Int32) (wv_8 : Nat → Int32) (H : Heap) (locs : List Loc) (ls : Array Slot), ((0 ≤ Int32.toInt v_7 ∧ Int32.toInt v_7 ≤ 15) ∧ (CP (15 * Int32.toInt p0) (15 * Int32.toInt p1) (Int32.toInt v_7) f1 wv_8)) → ((15 - Int32.toInt v_7).toNat < d) → va_P (dC, dI) vwCl [(q1, .inl (cI, 75, .inl wv_8))] H → va_D A [(q1, .inl (cI, 75, .inl wv_8))] → va_S A s.heap H locs → lv_has ls 5 [(4, .int v_7), (0, .ref q1), (1, .int 15), (2, .int p0), (3, .int p1)] → W p l e (headSpec (wy yX9_copyRow cX9_copyRow 5 none) ({ frames := 0, cells := 0, slots := 0, locals := 0 })).room s m ([.ref q1, .int 15, .int p0, .int p1] : List Value).toArray below meth c H locs 0 0 (MQ below (va_Qv (fun u => CP (15 * Int32.toInt p0) (15 * Int32.toInt p1) 15 f1 u) (fun (u : (Nat → Int32)) t => va_P (dC, dI) vwCl [(q1, .inl (cI, 75, .inl u))] t.heap ∧ va_D A [(q1, .inl (cI, 75, .inl u))]) A) ([.ref q1, .int 15, .int p0, .int p1] : List Value).toArray s 0 0 A) (F0 m 3 ls []) := by
    intro d
    induction d with
    | zero => intro v_7 wv_8 H locs ls hI hM; exfalso; exact absurd hM (Nat.not_lt_zero _)
    | succ d ih_18 =>
      intro v_7 wv_8 H locs ls hI hM hP hD hS hl
      obtain ⟨hI_19, hI_20⟩ := hI
      refine lv_iload hx hb dX9_copyRow_3 (lv_at hl 0 rfl) ?_
      refine lv_iload_n hx hb dX9_copyRow_5 rfl (lv_at hl 2 rfl) ?_
      refine lv_icmp_ge (tgt := 31) hx hb dX9_copyRow_6 (by decide) (fun c_21 => ?_) (fun c_21 => ?_)
      · (try simp only [i_lt, i_le, i_eq, T15] at c_21)
        have hP9 := hP.sub (ws' := [(q1, .inl (cI, 75, .inl wv_8))]) [0] rfl
        have hD9 := hD.sub (ws' := [(q1, .inl (cI, 75, .inl wv_8))]) [0] (by decide) rfl
        exact W.vret hx hb hr (fun t ht hW => ⟨⟨wv_8, rfl, (by first | exact CP_mono (by assumption) (by omega) | (dsimp only; exact CP_mono (by assumption) (by omega))), ⟨by rw [ht]; exact hP9, hD9⟩⟩, hS.F ht⟩) hS.2.2 dX9_copyRow_31
      · (try simp only [i_lt, i_le, i_eq, T15] at c_21)
        refine lv_aload_n hx hb dX9_copyRow_9 rfl (lv_at hl 1 rfl) ?_
        refine lv_iload_n hx hb dX9_copyRow_10 rfl (lv_at hl 2 rfl) ?_
        refine lv_iload_n hx hb dX9_copyRow_11 rfl (lv_at hl 4 rfl) ?_
        refine lv_imul hx hb dX9_copyRow_12 ?_
        refine lv_topi (fun y_22 ey_22 => ?_)
        have ty_22 := imulF ey_22
        simp only [T15] at ty_22
        clear ey_22
        refine lv_iload hx hb dX9_copyRow_13 (lv_at hl 0 rfl) ?_
        refine lv_iadd hx hb dX9_copyRow_15 ?_
        refine lv_topi (fun y_23 ey_23 => ?_)
        have ty_23 := iaddF ey_23
        clear ey_23
        refine lv_aload_n hx hb dX9_copyRow_16 rfl (lv_at hl 1 rfl) ?_
        refine lv_iload_n hx hb dX9_copyRow_17 rfl (lv_at hl 2 rfl) ?_
        refine lv_iload_n hx hb dX9_copyRow_18 rfl (lv_at hl 3 rfl) ?_
        refine lv_imul hx hb dX9_copyRow_19 ?_
        refine lv_topi (fun y_24 ey_24 => ?_)
        have ty_24 := imulF ey_24
        simp only [T15] at ty_24
        clear ey_24
        refine lv_iload hx hb dX9_copyRow_20 (lv_at hl 0 rfl) ?_
        refine lv_iadd hx hb dX9_copyRow_22 ?_
        refine lv_topi (fun y_25 ey_25 => ?_)
        have ty_25 := iaddF ey_25
        clear ey_25
        refine va_iald hx hb hK hP 0 1 rfl rfl (vp_in_iff.mpr (by omega)) dX9_copyRow_23 ?_
        refine lv_topi (fun y_26 ey_26 => ?_)
        refine va_iast hx hb hK hP hD hS 0 1 rfl rfl (vp_in_iff.mpr (by omega)) dX9_copyRow_24 (fun H locs hP hD hS => ?_)
        obtain ⟨f_27, ef_27⟩ : ∃ z : Nat → Int32, z = upd wv_8 (Int32.toNatClampNeg y_23) y_26 := ⟨_, rfl⟩
        rw [← ef_27] at hP hD
        have hcp := CP_step (n := 15) hI_20 (y0 := y_25) (y1 := y_23) (by omega) (by omega) (by omega) (by omega) (by omega) (by omega) (by omega) ey_26 ef_27
        have hP : va_P (dC, dI) vwCl [(q1, .inl (cI, 75, .inl f_27))] H := hP
        have hD : va_D A [(q1, .inl (cI, 75, .inl f_27))] := hD
        obtain ⟨y_28, ey_28⟩ : ∃ z : Int32, z = v_7 + 1 := ⟨_, rfl⟩
        have ty_28 := iaddF ey_28
        simp only [T1] at ty_28
        refine lv_iinc (v := y_28) (lv' := [(4, .int y_28), (0, .ref q1), (1, .int 15), (2, .int p0), (3, .int p1)]) hx hb dX9_copyRow_25 hl (k := 0) rfl (by rw [ey_28]; rfl) (by decide) rfl (fun ls hl => ?_)
        clear ey_28
        refine lv_goto (tgt := 3) hx hb dX9_copyRow_28 (by decide) ?_
        exact ih_18 y_28 f_27 _ _ _ ⟨(by first | omega | assumption | decide | exact LK_0 | exact OM_0 | exact CE_0 | exact SZI_0 | exact CLR_0 | exact CP_0 | exact PV_0 | exact BV_0 (by assumption) (by omega) (by omega) | exact LK_mono (by assumption) (by omega) | exact OM_mono (by assumption) (by omega) | exact CE_mono (by assumption) (by omega) | exact CLR_mono (by assumption) (by omega) | exact CP_mono (by assumption) (by omega) | (have e0 := T0; have e1 := T1; have e2 := T2; have em1 := Tm1; omega)), (by first | omega | assumption | decide | exact LK_0 | exact OM_0 | exact CE_0 | exact SZI_0 | exact CLR_0 | exact CP_0 | exact PV_0 | exact BV_0 (by assumption) (by omega) (by omega) | exact LK_mono (by assumption) (by omega) | exact OM_mono (by assumption) (by omega) | exact CE_mono (by assumption) (by omega) | exact CLR_mono (by assumption) (by omega) | exact CP_mono (by assumption) (by omega) | (have e0 := T0; have e1 := T1; have e2 := T2; have em1 := Tm1; omega))⟩ (by omega) (hP.sub (ws' := [(q1, .inl (cI, 75, .inl f_27))]) [0] rfl) (hD.sub (ws' := [(q1, .inl (cI, 75, .inl f_27))]) [0] (by decide) rfl) hS (lv_sub hl [0, 1, 2, 3, 4] rfl)
  exact lp_17 _ 0 f1 _ _ _ ⟨(by first | omega | assumption | decide | exact LK_0 | exact OM_0 | exact CE_0 | exact SZI_0 | exact CLR_0 | exact CP_0 | exact PV_0 | exact BV_0 (by assumption) (by omega) (by omega) | exact LK_mono (by assumption) (by omega) | exact OM_mono (by assumption) (by omega) | exact CE_mono (by assumption) (by omega) | exact CLR_mono (by assumption) (by omega) | exact CP_mono (by assumption) (by omega) | (have e0 := T0; have e1 := T1; have e2 := T2; have em1 := Tm1; omega)), (by first | omega | assumption | decide | exact LK_0 | exact OM_0 | exact CE_0 | exact SZI_0 | exact CLR_0 | exact CP_0 | exact PV_0 | exact BV_0 (by assumption) (by omega) (by omega) | exact LK_mono (by assumption) (by omega) | exact OM_mono (by assumption) (by omega) | exact CE_mono (by assumption) (by omega) | exact CLR_mono (by assumption) (by omega) | exact CP_mono (by assumption) (by omega) | (have e0 := T0; have e1 := T1; have e2 := T2; have em1 := Tm1; omega))⟩ (Nat.lt_succ_self _) hP hD hS (lv_sub hl [0, 1, 2, 3, 4] rfl)
set_option maxHeartbeats 8000000 in
set_option maxRecDepth 100000 in
theorem s_X9_copyRow8 (l : Launch) (dC : Nat → ClassId) (dI : Nat → Nat → Nat) (cB cI cJ cZ cL : ClassId) (sz : Nat) (q1 : Nat) (f1 : Nat → Int32) (p0 : Int32) (p1 : Int32) (ha : 0 ≤ Int32.toInt p0 ∧ Int32.toInt p0 ≤ 4) (hb0 : 0 ≤ Int32.toInt p1 ∧ Int32.toInt p1 ≤ 4) (hab : ¬ Int32.toInt p0 = Int32.toInt p1) : Met l yX9_copyRow (wy yX9_copyRow cX9_copyRow 5 none) ({ frames := 0, cells := 0, slots := 0, locals := 0 }) (va_Pc [.ref q1, .int 8, .int p0, .int p1] (fun U => U.heap.size = sz ∧ va_P (dC, dI) vwCl [(q1, .inl (cI, 40, .inl f1))] U.heap ∧ va_K (dC, dI) vwCl (tyL cB cI cJ cZ cL) U ∧ va_D (fun _ => True) [(q1, .inl (cI, 40, .inl f1))] ∧ NW U)) (va_Qv (fun u => CP (8 * Int32.toInt p0) (8 * Int32.toInt p1) 8 f1 u) (fun (u : (Nat → Int32)) t => va_P (dC, dI) vwCl [(q1, .inl (cI, 40, .inl u))] t.heap ∧ va_D (va_A [(q1, .inl (cI, 40, .inl f1))] sz) [(q1, .inl (cI, 40, .inl u))]) (va_A [(q1, .inl (cI, 40, .inl f1))] sz)) 0 0 (va_A [(q1, .inl (cI, 40, .inl f1))] sz) := by
  refine Met.ofW (cc := cX9_copyRow) (maxL := 5) (ret := none) (by decide) rfl ?_
  intro p e s m args below meth c s₁ B hml hv
  obtain ⟨rfl, hsz, hP, hK, hD0, hN⟩ := hv
  have hx := B.exec
  have hb := B.bytes
  have hr := B.returns
  have ht : ∀ w ∈ lw_ok, w.before _ s = true := fun w h => atoms_spec (ws := wy yX9_copyRow cX9_copyRow 5 none) B.pre w (List.mem_cons_of_mem _ h)
  have hown : s.vm.findClass RX9 = some m.cls := findClass_of_methodNamed B.named
  have hlocks := B.notSynchronized
  subst hsz
  have hD := hD0.self (sz := s.heap.size)
  generalize hAe : va_A [(q1, .inl (cI, 40, .inl f1))] s.heap.size = A at hD ⊢
  have hA : ∀ q : Nat, s.heap.size ≤ q → A q := fun q h => by rw [← hAe]; exact Or.inr h
  have hS : va_S A s.heap s.heap [] := va_S.rf
  clear hAe hD0
  have hl := lv_entry ([.ref q1, .int 8, .int p0, .int p1]) (n := 5) (Nat.le_of_ble_eq_true rfl)
  rw [lg_entry_eq]
  generalize (lg_sl ([.ref q1, .int 8, .int p0, .int p1]) ++ List.replicate (5 - (lg_sl ([.ref q1, .int 8, .int p0, .int p1])).length) Slot.unset).toArray = ls at hl ⊢
  have hl : lv_has ls 5 [(0, .ref q1), (1, .int 8), (2, .int p0), (3, .int p1)] := hl
  have hP : va_P (dC, dI) vwCl [(q1, .inl (cI, 40, .inl f1))] s.heap := hP
  have hD : va_D A [(q1, .inl (cI, 40, .inl f1))] := hD
  have rg_p0 := rgI p0
  have rg_p1 := rgI p1
  refine lv_iconst (v := 0) hx hb dX9_copyRow_0 (by decide) ?_
  refine lv_istore (lv' := [(4, .int 0), (0, .ref q1), (1, .int 8), (2, .int p0), (3, .int p1)]) hx hb dX9_copyRow_1 hl (by decide) rfl (fun ls hl => ?_)
  have lp_17 : ∀ (d : Nat) (v_7 : Int32) (wv_8 : Nat → Int32) (H : Heap) (locs : List Loc) (ls : Array Slot), ((0 ≤ Int32.toInt v_7 ∧ Int32.toInt v_7 ≤ 8) ∧ (CP (8 * Int32.toInt p0) (8 * Int32.toInt p1) (Int32.toInt v_7) f1 wv_8)) → ((8 - Int32.toInt v_7).toNat < d) → va_P (dC, dI) vwCl [(q1, .inl (cI, 40, .inl wv_8))] H → va_D A [(q1, .inl (cI, 40, .inl wv_8))] → va_S A s.heap H locs → lv_has ls 5 [(4, .int v_7), (0, .ref q1), (1, .int 8), (2, .int p0), (3, .int p1)] → W p l e (headSpec (wy yX9_copyRow cX9_copyRow 5 none) ({ frames := 0, cells := 0, slots := 0, locals := 0 })).room s m ([.ref q1, .int 8, .int p0, .int p1] : List Value).toArray below meth c H locs 0 0 (MQ below (va_Qv (fun u => CP (8 * Int32.toInt p0) (8 * Int32.toInt p1) 8 f1 u) (fun (u : (Nat → Int32)) t => va_P (dC, dI) vwCl [(q1, .inl (cI, 40, .inl u))] t.heap ∧ va_D A [(q1, .inl (cI, 40, .inl u))]) A) ([.ref q1, .int 8, .int p0, .int p1] : List Value).toArray s 0 0 A) (F0 m 3 ls []) := by
    intro d
    induction d with
    | zero => intro v_7 wv_8 H locs ls hI hM; exfalso; exact absurd hM (Nat.not_lt_zero _)
    | succ d ih_18 =>
      intro v_7 wv_8 H locs ls hI hM hP hD hS hl
      obtain ⟨hI_19, hI_20⟩ := hI
      refine lv_iload hx hb dX9_copyRow_3 (lv_at hl 0 rfl) ?_
      refine lv_iload_n hx hb dX9_copyRow_5 rfl (lv_at hl 2 rfl) ?_
      refine lv_icmp_ge (tgt := 31) hx hb dX9_copyRow_6 (by decide) (fun c_21 => ?_) (fun c_21 => ?_)
      · (try simp only [i_lt, i_le, i_eq, T8] at c_21)
        have hP9 := hP.sub (ws' := [(q1, .inl (cI, 40, .inl wv_8))]) [0] rfl
        have hD9 := hD.sub (ws' := [(q1, .inl (cI, 40, .inl wv_8))]) [0] (by decide) rfl
        exact W.vret hx hb hr (fun t ht hW => ⟨⟨wv_8, rfl, (by first | exact CP_mono (by assumption) (by omega) | (dsimp only; exact CP_mono (by assumption) (by omega))), ⟨by rw [ht]; exact hP9, hD9⟩⟩, hS.F ht⟩) hS.2.2 dX9_copyRow_31
      · (try simp only [i_lt, i_le, i_eq, T8] at c_21)
        refine lv_aload_n hx hb dX9_copyRow_9 rfl (lv_at hl 1 rfl) ?_
        refine lv_iload_n hx hb dX9_copyRow_10 rfl (lv_at hl 2 rfl) ?_
        refine lv_iload_n hx hb dX9_copyRow_11 rfl (lv_at hl 4 rfl) ?_
        refine lv_imul hx hb dX9_copyRow_12 ?_
        refine lv_topi (fun y_22 ey_22 => ?_)
        have ty_22 := imulF ey_22
        simp only [T8] at ty_22
        clear ey_22
        refine lv_iload hx hb dX9_copyRow_13 (lv_at hl 0 rfl) ?_
        refine lv_iadd hx hb dX9_copyRow_15 ?_
        refine lv_topi (fun y_23 ey_23 => ?_)
        have ty_23 := iaddF ey_23
        clear ey_23
        refine lv_aload_n hx hb dX9_copyRow_16 rfl (lv_at hl 1 rfl) ?_
        refine lv_iload_n hx hb dX9_copyRow_17 rfl (lv_at hl 2 rfl) ?_
        refine lv_iload_n hx hb dX9_copyRow_18 rfl (lv_at hl 3 rfl) ?_
        refine lv_imul hx hb dX9_copyRow_19 ?_
        refine lv_topi (fun y_24 ey_24 => ?_)
        have ty_24 := imulF ey_24
        simp only [T8] at ty_24
        clear ey_24
        refine lv_iload hx hb dX9_copyRow_20 (lv_at hl 0 rfl) ?_
        refine lv_iadd hx hb dX9_copyRow_22 ?_
        refine lv_topi (fun y_25 ey_25 => ?_)
        have ty_25 := iaddF ey_25
        clear ey_25
        refine va_iald hx hb hK hP 0 1 rfl rfl (vp_in_iff.mpr (by omega)) dX9_copyRow_23 ?_
        refine lv_topi (fun y_26 ey_26 => ?_)
        refine va_iast hx hb hK hP hD hS 0 1 rfl rfl (vp_in_iff.mpr (by omega)) dX9_copyRow_24 (fun H locs hP hD hS => ?_)
        obtain ⟨f_27, ef_27⟩ : ∃ z : Nat → Int32, z = upd wv_8 (Int32.toNatClampNeg y_23) y_26 := ⟨_, rfl⟩
        rw [← ef_27] at hP hD
        have hcp := CP_step (n := 8) hI_20 (y0 := y_25) (y1 := y_23) (by omega) (by omega) (by omega) (by omega) (by omega) (by omega) (by omega) ey_26 ef_27
        have hP : va_P (dC, dI) vwCl [(q1, .inl (cI, 40, .inl f_27))] H := hP
        have hD : va_D A [(q1, .inl (cI, 40, .inl f_27))] := hD
        obtain ⟨y_28, ey_28⟩ : ∃ z : Int32, z = v_7 + 1 := ⟨_, rfl⟩
        have ty_28 := iaddF ey_28
        simp only [T1] at ty_28
        refine lv_iinc (v := y_28) (lv' := [(4, .int y_28), (0, .ref q1), (1, .int 8), (2, .int p0), (3, .int p1)]) hx hb dX9_copyRow_25 hl (k := 0) rfl (by rw [ey_28]; rfl) (by decide) rfl (fun ls hl => ?_)
        clear ey_28
        refine lv_goto (tgt := 3) hx hb dX9_copyRow_28 (by decide) ?_
        exact ih_18 y_28 f_27 _ _ _ ⟨(by first | omega | assumption | decide | exact LK_0 | exact OM_0 | exact CE_0 | exact SZI_0 | exact CLR_0 | exact CP_0 | exact PV_0 | exact BV_0 (by assumption) (by omega) (by omega) | exact LK_mono (by assumption) (by omega) | exact OM_mono (by assumption) (by omega) | exact CE_mono (by assumption) (by omega) | exact CLR_mono (by assumption) (by omega) | exact CP_mono (by assumption) (by omega) | (have e0 := T0; have e1 := T1; have e2 := T2; have em1 := Tm1; omega)), (by first | omega | assumption | decide | exact LK_0 | exact OM_0 | exact CE_0 | exact SZI_0 | exact CLR_0 | exact CP_0 | exact PV_0 | exact BV_0 (by assumption) (by omega) (by omega) | exact LK_mono (by assumption) (by omega) | exact OM_mono (by assumption) (by omega) | exact CE_mono (by assumption) (by omega) | exact CLR_mono (by assumption) (by omega) | exact CP_mono (by assumption) (by omega) | (have e0 := T0; have e1 := T1; have e2 := T2; have em1 := Tm1; omega))⟩ (by omega) (hP.sub (ws' := [(q1, .inl (cI, 40, .inl f_27))]) [0] rfl) (hD.sub (ws' := [(q1, .inl (cI, 40, .inl f_27))]) [0] (by decide) rfl) hS (lv_sub hl [0, 1, 2, 3, 4] rfl)
  exact lp_17 _ 0 f1 _ _ _ ⟨(by first | omega | assumption | decide | exact LK_0 | exact OM_0 | exact CE_0 | exact SZI_0 | exact CLR_0 | exact CP_0 | exact PV_0 | exact BV_0 (by assumption) (by omega) (by omega) | exact LK_mono (by assumption) (by omega) | exact OM_mono (by assumption) (by omega) | exact CE_mono (by assumption) (by omega) | exact CLR_mono (by assumption) (by omega) | exact CP_mono (by assumption) (by omega) | (have e0 := T0; have e1 := T1; have e2 := T2; have em1 := Tm1; omega)), (by first | omega | assumption | decide | exact LK_0 | exact OM_0 | exact CE_0 | exact SZI_0 | exact CLR_0 | exact CP_0 | exact PV_0 | exact BV_0 (by assumption) (by omega) (by omega) | exact LK_mono (by assumption) (by omega) | exact OM_mono (by assumption) (by omega) | exact CE_mono (by assumption) (by omega) | exact CLR_mono (by assumption) (by omega) | exact CP_mono (by assumption) (by omega) | (have e0 := T0; have e1 := T1; have e2 := T2; have em1 := Tm1; omega))⟩ (Nat.lt_succ_self _) hP hD hS (lv_sub hl [0, 1, 2, 3, 4] rfl)
set_option maxHeartbeats 8000000 in
set_option maxRecDepth 100000 in
theorem s_X9_copyRow90 (l : Launch) (dC : Nat → ClassId) (dI : Nat → Nat → Nat) (cB cI cJ cZ cL : ClassId) (sz : Nat) (q1 : Nat) (f1 : Nat → Int32) (p0 : Int32) (p1 : Int32) (ha : 0 ≤ Int32.toInt p0 ∧ Int32.toInt p0 ≤ 4) (hb0 : 0 ≤ Int32.toInt p1 ∧ Int32.toInt p1 ≤ 4) (hab : ¬ Int32.toInt p0 = Int32.toInt p1) : Met l yX9_copyRow (wy yX9_copyRow cX9_copyRow 5 none) ({ frames := 0, cells := 0, slots := 0, locals := 0 }) (va_Pc [.ref q1, .int 90, .int p0, .int p1] (fun U => U.heap.size = sz ∧ va_P (dC, dI) vwCl [(q1, .inl (cI, 450, .inl f1))] U.heap ∧ va_K (dC, dI) vwCl (tyL cB cI cJ cZ cL) U ∧ va_D (fun _ => True) [(q1, .inl (cI, 450, .inl f1))] ∧ NW U)) (va_Qv (fun u => CP (90 * Int32.toInt p0) (90 * Int32.toInt p1) 90 f1 u) (fun (u : (Nat → Int32)) t => va_P (dC, dI) vwCl [(q1, .inl (cI, 450, .inl u))] t.heap ∧ va_D (va_A [(q1, .inl (cI, 450, .inl f1))] sz) [(q1, .inl (cI, 450, .inl u))]) (va_A [(q1, .inl (cI, 450, .inl f1))] sz)) 0 0 (va_A [(q1, .inl (cI, 450, .inl f1))] sz) := by
  refine Met.ofW (cc := cX9_copyRow) (maxL := 5) (ret := none) (by decide) rfl ?_
  intro p e s m args below meth c s₁ B hml hv
  obtain ⟨rfl, hsz, hP, hK, hD0, hN⟩ := hv
  have hx := B.exec
  have hb := B.bytes
  have hr := B.returns
  have ht : ∀ w ∈ lw_ok, w.before _ s = true := fun w h => atoms_spec (ws := wy yX9_copyRow cX9_copyRow 5 none) B.pre w (List.mem_cons_of_mem _ h)
  have hown : s.vm.findClass RX9 = some m.cls := findClass_of_methodNamed B.named
  have hlocks := B.notSynchronized
  subst hsz
  have hD := hD0.self (sz := s.heap.size)
  generalize hAe : va_A [(q1, .inl (cI, 450, .inl f1))] s.heap.size = A at hD ⊢
  have hA : ∀ q : Nat, s.heap.size ≤ q → A q := fun q h => by rw [← hAe]; exact Or.inr h
  have hS : va_S A s.heap s.heap [] := va_S.rf
  clear hAe hD0
  have hl := lv_entry ([.ref q1, .int 90, .int p0, .int p1]) (n := 5) (Nat.le_of_ble_eq_true rfl)
  rw [lg_entry_eq]
  generalize (lg_sl ([.ref q1, .int 90, .int p0, .int p1]) ++ List.replicate (5 - (lg_sl ([.ref q1, .int 90, .int p0, .int p1])).length) Slot.unset).toArray = ls at hl ⊢
  have hl : lv_has ls 5 [(0, .ref q1), (1, .int 90), (2, .int p0), (3, .int p1)] := hl
  have hP : va_P (dC, dI) vwCl [(q1, .inl (cI, 450, .inl f1))] s.heap := hP
  have hD : va_D A [(q1, .inl (cI, 450, .inl f1))] := hD
  have rg_p0 := rgI p0
  have rg_p1 := rgI p1
  refine lv_iconst (v := 0) hx hb dX9_copyRow_0 (by decide) ?_
  refine lv_istore (lv' := [(4, .int 0), (0, .ref q1), (1, .int 90), (2, .int p0), (3, .int p1)]) hx hb dX9_copyRow_1 hl (by decide) rfl (fun ls hl => ?_)
  have lp_17 : ∀ (d : Nat) (v_7 : Int32) (wv_8 : Nat → Int32) (H : Heap) (locs : List Loc) (ls : Array Slot), ((0 ≤ Int32.toInt v_7 ∧ Int32.toInt v_7 ≤ 90) ∧ (CP (90 * Int32.toInt p0) (90 * Int32.toInt p1) (Int32.toInt v_7) f1 wv_8)) → ((90 - Int32.toInt v_7).toNat < d) → va_P (dC, dI) vwCl [(q1, .inl (cI, 450, .inl wv_8))] H → va_D A [(q1, .inl (cI, 450, .inl wv_8))] → va_S A s.heap H locs → lv_has ls 5 [(4, .int v_7), (0, .ref q1), (1, .int 90), (2, .int p0), (3, .int p1)] → W p l e (headSpec (wy yX9_copyRow cX9_copyRow 5 none) ({ frames := 0, cells := 0, slots := 0, locals := 0 })).room s m ([.ref q1, .int 90, .int p0, .int p1] : List Value).toArray below meth c H locs 0 0 (MQ below (va_Qv (fun u => CP (90 * Int32.toInt p0) (90 * Int32.toInt p1) 90 f1 u) (fun (u : (Nat → Int32)) t => va_P (dC, dI) vwCl [(q1, .inl (cI, 450, .inl u))] t.heap ∧ va_D A [(q1, .inl (cI, 450, .inl u))]) A) ([.ref q1, .int 90, .int p0, .int p1] : List Value).toArray s 0 0 A) (F0 m 3 ls []) := by
    intro d
    induction d with
    | zero => intro v_7 wv_8 H locs ls hI hM; exfalso; exact absurd hM (Nat.not_lt_zero _)
    | succ d ih_18 =>
      intro v_7 wv_8 H locs ls hI hM hP hD hS hl
      obtain ⟨hI_19, hI_20⟩ := hI
      refine lv_iload hx hb dX9_copyRow_3 (lv_at hl 0 rfl) ?_
      refine lv_iload_n hx hb dX9_copyRow_5 rfl (lv_at hl 2 rfl) ?_
      refine lv_icmp_ge (tgt := 31) hx hb dX9_copyRow_6 (by decide) (fun c_21 => ?_) (fun c_21 => ?_)
      · (try simp only [i_lt, i_le, i_eq, T90] at c_21)
        have hP9 := hP.sub (ws' := [(q1, .inl (cI, 450, .inl wv_8))]) [0] rfl
        have hD9 := hD.sub (ws' := [(q1, .inl (cI, 450, .inl wv_8))]) [0] (by decide) rfl
        exact W.vret hx hb hr (fun t ht hW => ⟨⟨wv_8, rfl, (by first | exact CP_mono (by assumption) (by omega) | (dsimp only; exact CP_mono (by assumption) (by omega))), ⟨by rw [ht]; exact hP9, hD9⟩⟩, hS.F ht⟩) hS.2.2 dX9_copyRow_31
      · (try simp only [i_lt, i_le, i_eq, T90] at c_21)
        refine lv_aload_n hx hb dX9_copyRow_9 rfl (lv_at hl 1 rfl) ?_
        refine lv_iload_n hx hb dX9_copyRow_10 rfl (lv_at hl 2 rfl) ?_
        refine lv_iload_n hx hb dX9_copyRow_11 rfl (lv_at hl 4 rfl) ?_
        refine lv_imul hx hb dX9_copyRow_12 ?_
        refine lv_topi (fun y_22 ey_22 => ?_)
        have ty_22 := imulF ey_22
        simp only [T90] at ty_22
        clear ey_22
        refine lv_iload hx hb dX9_copyRow_13 (lv_at hl 0 rfl) ?_
        refine lv_iadd hx hb dX9_copyRow_15 ?_
        refine lv_topi (fun y_23 ey_23 => ?_)
        have ty_23 := iaddF ey_23
        clear ey_23
        refine lv_aload_n hx hb dX9_copyRow_16 rfl (lv_at hl 1 rfl) ?_
        refine lv_iload_n hx hb dX9_copyRow_17 rfl (lv_at hl 2 rfl) ?_
        refine lv_iload_n hx hb dX9_copyRow_18 rfl (lv_at hl 3 rfl) ?_
        refine lv_imul hx hb dX9_copyRow_19 ?_
        refine lv_topi (fun y_24 ey_24 => ?_)
        have ty_24 := imulF ey_24
        simp only [T90] at ty_24
        clear ey_24
        refine lv_iload hx hb dX9_copyRow_20 (lv_at hl 0 rfl) ?_
        refine lv_iadd hx hb dX9_copyRow_22 ?_
        refine lv_topi (fun y_25 ey_25 => ?_)
        have ty_25 := iaddF ey_25
        clear ey_25
        refine va_iald hx hb hK hP 0 1 rfl rfl (vp_in_iff.mpr (by omega)) dX9_copyRow_23 ?_
        refine lv_topi (fun y_26 ey_26 => ?_)
        refine va_iast hx hb hK hP hD hS 0 1 rfl rfl (vp_in_iff.mpr (by omega)) dX9_copyRow_24 (fun H locs hP hD hS => ?_)
        obtain ⟨f_27, ef_27⟩ : ∃ z : Nat → Int32, z = upd wv_8 (Int32.toNatClampNeg y_23) y_26 := ⟨_, rfl⟩
        rw [← ef_27] at hP hD
        have hcp := CP_step (n := 90) hI_20 (y0 := y_25) (y1 := y_23) (by omega) (by omega) (by omega) (by omega) (by omega) (by omega) (by omega) ey_26 ef_27
        have hP : va_P (dC, dI) vwCl [(q1, .inl (cI, 450, .inl f_27))] H := hP
        have hD : va_D A [(q1, .inl (cI, 450, .inl f_27))] := hD
        obtain ⟨y_28, ey_28⟩ : ∃ z : Int32, z = v_7 + 1 := ⟨_, rfl⟩
        have ty_28 := iaddF ey_28
        simp only [T1] at ty_28
        refine lv_iinc (v := y_28) (lv' := [(4, .int y_28), (0, .ref q1), (1, .int 90), (2, .int p0), (3, .int p1)]) hx hb dX9_copyRow_25 hl (k := 0) rfl (by rw [ey_28]; rfl) (by decide) rfl (fun ls hl => ?_)
        clear ey_28
        refine lv_goto (tgt := 3) hx hb dX9_copyRow_28 (by decide) ?_
        exact ih_18 y_28 f_27 _ _ _ ⟨(by first | omega | assumption | decide | exact LK_0 | exact OM_0 | exact CE_0 | exact SZI_0 | exact CLR_0 | exact CP_0 | exact PV_0 | exact BV_0 (by assumption) (by omega) (by omega) | exact LK_mono (by assumption) (by omega) | exact OM_mono (by assumption) (by omega) | exact CE_mono (by assumption) (by omega) | exact CLR_mono (by assumption) (by omega) | exact CP_mono (by assumption) (by omega) | (have e0 := T0; have e1 := T1; have e2 := T2; have em1 := Tm1; omega)), (by first | omega | assumption | decide | exact LK_0 | exact OM_0 | exact CE_0 | exact SZI_0 | exact CLR_0 | exact CP_0 | exact PV_0 | exact BV_0 (by assumption) (by omega) (by omega) | exact LK_mono (by assumption) (by omega) | exact OM_mono (by assumption) (by omega) | exact CE_mono (by assumption) (by omega) | exact CLR_mono (by assumption) (by omega) | exact CP_mono (by assumption) (by omega) | (have e0 := T0; have e1 := T1; have e2 := T2; have em1 := Tm1; omega))⟩ (by omega) (hP.sub (ws' := [(q1, .inl (cI, 450, .inl f_27))]) [0] rfl) (hD.sub (ws' := [(q1, .inl (cI, 450, .inl f_27))]) [0] (by decide) rfl) hS (lv_sub hl [0, 1, 2, 3, 4] rfl)
  exact lp_17 _ 0 f1 _ _ _ ⟨(by first | omega | assumption | decide | exact LK_0 | exact OM_0 | exact CE_0 | exact SZI_0 | exact CLR_0 | exact CP_0 | exact PV_0 | exact BV_0 (by assumption) (by omega) (by omega) | exact LK_mono (by assumption) (by omega) | exact OM_mono (by assumption) (by omega) | exact CE_mono (by assumption) (by omega) | exact CLR_mono (by assumption) (by omega) | exact CP_mono (by assumption) (by omega) | (have e0 := T0; have e1 := T1; have e2 := T2; have em1 := Tm1; omega)), (by first | omega | assumption | decide | exact LK_0 | exact OM_0 | exact CE_0 | exact SZI_0 | exact CLR_0 | exact CP_0 | exact PV_0 | exact BV_0 (by assumption) (by omega) (by omega) | exact LK_mono (by assumption) (by omega) | exact OM_mono (by assumption) (by omega) | exact CE_mono (by assumption) (by omega) | exact CLR_mono (by assumption) (by omega) | exact CP_mono (by assumption) (by omega) | (have e0 := T0; have e1 := T1; have e2 := T2; have em1 := Tm1; omega))⟩ (Nat.lt_succ_self _) hP hD hS (lv_sub hl [0, 1, 2, 3, 4] rfl)
set_option maxHeartbeats 8000000 in
set_option maxRecDepth 100000 in
theorem s_X9_copyWire (l : Launch) (dC : Nat → ClassId) (dI : Nat → Nat → Nat) (cB cI cJ cZ cL : ClassId) (sz : Nat) (g : Nat → Nat) (g_th : Int32) (g_tp : Int32) (g_so : Int32) (g_tk : Int32) (g_pl : Int32) (g_va : Int32) (g_wo : Int64) (g_bd : Int32) (g_bp : Int32) (g_fa : Int32) (g_fp : Int32) (g_lw : Int32) (g_we : Int32) (g_cu : Int32) (g_go : Int32) (g_ba : Int32) (g_jo : Int32) (g_bt : Int64) (g_sb : Int32) (g_ab : Int32) (g_al : Int32) (li : Nat → Int32) (hs : Nat → Int32) (sp : Nat → Int32) (wt : Nat → Int32) (ac : Nat → Int32) (p0 : Int32) (p1 : Int32) (ha : 0 ≤ Int32.toInt p0 ∧ Int32.toInt p0 ≤ 4) (hb0 : 0 ≤ Int32.toInt p1 ∧ Int32.toInt p1 ≤ 4) (hab : ¬ Int32.toInt p0 = Int32.toInt p1) : Met l yX9_copyWire (wy yX9_copyWire cX9_copyWire 3 none) ({ frames := 1, cells := 0, slots := 0, locals := 40 }) (va_Pc [.ref (g 0), .int p0, .int p1] (fun U => U.heap.size = sz ∧ va_P (dC, dI) vwCl [((g 0), .inr (9, [.int g_th, .ref (g 1), .ref (g 2), .ref (g 3), .ref (g 4), .ref (g 5), .int g_tp, .int g_so, .int g_tk, .int g_pl, .int g_va, .long g_wo, .int g_bd, .int g_bp, .int g_fa, .int g_fp, .ref (g 6), .ref (g 7), .ref (g 8), .ref (g 9), .ref (g 10), .ref (g 11), .int g_lw, .int g_we, .int g_cu, .int g_go, .int g_ba, .ref (g 12), .ref (g 13), .int g_jo, .ref (g 14), .ref (g 15), .long g_bt, .int g_sb, .int g_ab, .int g_al, .ref (g 16), .ref (g 17)])), ((g 6), .inl (cI, 5, .inl li)), ((g 7), .inl (cI, 35, .inl hs)), ((g 8), .inl (cI, 75, .inl sp)), ((g 9), .inl (cI, 40, .inl wt)), ((g 10), .inl (cI, 450, .inl ac))] U.heap ∧ va_K (dC, dI) vwCl (tyL cB cI cJ cZ cL) U ∧ va_D (fun _ => True) [((g 0), .inr (9, [.int g_th, .ref (g 1), .ref (g 2), .ref (g 3), .ref (g 4), .ref (g 5), .int g_tp, .int g_so, .int g_tk, .int g_pl, .int g_va, .long g_wo, .int g_bd, .int g_bp, .int g_fa, .int g_fp, .ref (g 6), .ref (g 7), .ref (g 8), .ref (g 9), .ref (g 10), .ref (g 11), .int g_lw, .int g_we, .int g_cu, .int g_go, .int g_ba, .ref (g 12), .ref (g 13), .int g_jo, .ref (g 14), .ref (g 15), .long g_bt, .int g_sb, .int g_ab, .int g_al, .ref (g 16), .ref (g 17)])), ((g 6), .inl (cI, 5, .inl li)), ((g 7), .inl (cI, 35, .inl hs)), ((g 8), .inl (cI, 75, .inl sp)), ((g 9), .inl (cI, 40, .inl wt)), ((g 10), .inl (cI, 450, .inl ac))] ∧ NW U)) (va_Qv (fun u => (CP (7 * Int32.toInt p0) (7 * Int32.toInt p1) 7 hs u.2.1) ∧ (CP (15 * Int32.toInt p0) (15 * Int32.toInt p1) 15 sp u.2.2.1)) (fun (u : (Nat → Int32) × (Nat → Int32) × (Nat → Int32) × (Nat → Int32) × (Nat → Int32)) t => va_P (dC, dI) vwCl [((g 0), .inr (9, [.int g_th, .ref (g 1), .ref (g 2), .ref (g 3), .ref (g 4), .ref (g 5), .int g_tp, .int g_so, .int g_tk, .int g_pl, .int g_va, .long g_wo, .int g_bd, .int g_bp, .int g_fa, .int g_fp, .ref (g 6), .ref (g 7), .ref (g 8), .ref (g 9), .ref (g 10), .ref (g 11), .int g_lw, .int g_we, .int g_cu, .int g_go, .int g_ba, .ref (g 12), .ref (g 13), .int g_jo, .ref (g 14), .ref (g 15), .long g_bt, .int g_sb, .int g_ab, .int g_al, .ref (g 16), .ref (g 17)])), ((g 6), .inl (cI, 5, .inl u.1)), ((g 7), .inl (cI, 35, .inl u.2.1)), ((g 8), .inl (cI, 75, .inl u.2.2.1)), ((g 9), .inl (cI, 40, .inl u.2.2.2.1)), ((g 10), .inl (cI, 450, .inl u.2.2.2.2))] t.heap ∧ va_D (va_A [((g 0), .inr (9, [.int g_th, .ref (g 1), .ref (g 2), .ref (g 3), .ref (g 4), .ref (g 5), .int g_tp, .int g_so, .int g_tk, .int g_pl, .int g_va, .long g_wo, .int g_bd, .int g_bp, .int g_fa, .int g_fp, .ref (g 6), .ref (g 7), .ref (g 8), .ref (g 9), .ref (g 10), .ref (g 11), .int g_lw, .int g_we, .int g_cu, .int g_go, .int g_ba, .ref (g 12), .ref (g 13), .int g_jo, .ref (g 14), .ref (g 15), .long g_bt, .int g_sb, .int g_ab, .int g_al, .ref (g 16), .ref (g 17)])), ((g 6), .inl (cI, 5, .inl li)), ((g 7), .inl (cI, 35, .inl hs)), ((g 8), .inl (cI, 75, .inl sp)), ((g 9), .inl (cI, 40, .inl wt)), ((g 10), .inl (cI, 450, .inl ac))] sz) [((g 0), .inr (9, [.int g_th, .ref (g 1), .ref (g 2), .ref (g 3), .ref (g 4), .ref (g 5), .int g_tp, .int g_so, .int g_tk, .int g_pl, .int g_va, .long g_wo, .int g_bd, .int g_bp, .int g_fa, .int g_fp, .ref (g 6), .ref (g 7), .ref (g 8), .ref (g 9), .ref (g 10), .ref (g 11), .int g_lw, .int g_we, .int g_cu, .int g_go, .int g_ba, .ref (g 12), .ref (g 13), .int g_jo, .ref (g 14), .ref (g 15), .long g_bt, .int g_sb, .int g_ab, .int g_al, .ref (g 16), .ref (g 17)])), ((g 6), .inl (cI, 5, .inl u.1)), ((g 7), .inl (cI, 35, .inl u.2.1)), ((g 8), .inl (cI, 75, .inl u.2.2.1)), ((g 9), .inl (cI, 40, .inl u.2.2.2.1)), ((g 10), .inl (cI, 450, .inl u.2.2.2.2))]) (va_A [((g 0), .inr (9, [.int g_th, .ref (g 1), .ref (g 2), .ref (g 3), .ref (g 4), .ref (g 5), .int g_tp, .int g_so, .int g_tk, .int g_pl, .int g_va, .long g_wo, .int g_bd, .int g_bp, .int g_fa, .int g_fp, .ref (g 6), .ref (g 7), .ref (g 8), .ref (g 9), .ref (g 10), .ref (g 11), .int g_lw, .int g_we, .int g_cu, .int g_go, .int g_ba, .ref (g 12), .ref (g 13), .int g_jo, .ref (g 14), .ref (g 15), .long g_bt, .int g_sb, .int g_ab, .int g_al, .ref (g 16), .ref (g 17)])), ((g 6), .inl (cI, 5, .inl li)), ((g 7), .inl (cI, 35, .inl hs)), ((g 8), .inl (cI, 75, .inl sp)), ((g 9), .inl (cI, 40, .inl wt)), ((g 10), .inl (cI, 450, .inl ac))] sz)) 0 0 (va_A [((g 0), .inr (9, [.int g_th, .ref (g 1), .ref (g 2), .ref (g 3), .ref (g 4), .ref (g 5), .int g_tp, .int g_so, .int g_tk, .int g_pl, .int g_va, .long g_wo, .int g_bd, .int g_bp, .int g_fa, .int g_fp, .ref (g 6), .ref (g 7), .ref (g 8), .ref (g 9), .ref (g 10), .ref (g 11), .int g_lw, .int g_we, .int g_cu, .int g_go, .int g_ba, .ref (g 12), .ref (g 13), .int g_jo, .ref (g 14), .ref (g 15), .long g_bt, .int g_sb, .int g_ab, .int g_al, .ref (g 16), .ref (g 17)])), ((g 6), .inl (cI, 5, .inl li)), ((g 7), .inl (cI, 35, .inl hs)), ((g 8), .inl (cI, 75, .inl sp)), ((g 9), .inl (cI, 40, .inl wt)), ((g 10), .inl (cI, 450, .inl ac))] sz) := by
  refine Met.ofW (cc := cX9_copyWire) (maxL := 3) (ret := none) (by decide) rfl ?_
  intro p e s m args below meth c s₁ B hml hv
  obtain ⟨rfl, hsz, hP, hK, hD0, hN⟩ := hv
  have hx := B.exec
  have hb := B.bytes
  have hr := B.returns
  have ht : ∀ w ∈ lw_ok, w.before _ s = true := fun w h => atoms_spec (ws := wy yX9_copyWire cX9_copyWire 3 none) B.pre w (List.mem_cons_of_mem _ h)
  have hown : s.vm.findClass RX9 = some m.cls := findClass_of_methodNamed B.named
  have hlocks := B.notSynchronized
  subst hsz
  have hD := hD0.self (sz := s.heap.size)
  generalize hAe : va_A [((g 0), .inr (9, [.int g_th, .ref (g 1), .ref (g 2), .ref (g 3), .ref (g 4), .ref (g 5), .int g_tp, .int g_so, .int g_tk, .int g_pl, .int g_va, .long g_wo, .int g_bd, .int g_bp, .int g_fa, .int g_fp, .ref (g 6), .ref (g 7), .ref (g 8), .ref (g 9), .ref (g 10), .ref (g 11), .int g_lw, .int g_we, .int g_cu, .int g_go, .int g_ba, .ref (g 12), .ref (g 13), .int g_jo, .ref (g 14), .ref (g 15), .long g_bt, .int g_sb, .int g_ab, .int g_al, .ref (g 16), .ref (g 17)])), ((g 6), .inl (cI, 5, .inl li)), ((g 7), .inl (cI, 35, .inl hs)), ((g 8), .inl (cI, 75, .inl sp)), ((g 9), .inl (cI, 40, .inl wt)), ((g 10), .inl (cI, 450, .inl ac))] s.heap.size = A at hD ⊢
  have hA : ∀ q : Nat, s.heap.size ≤ q → A q := fun q h => by rw [← hAe]; exact Or.inr h
  have hS : va_S A s.heap s.heap [] := va_S.rf
  clear hAe hD0
  have hl := lv_entry ([.ref (g 0), .int p0, .int p1]) (n := 3) (Nat.le_of_ble_eq_true rfl)
  rw [lg_entry_eq]
  generalize (lg_sl ([.ref (g 0), .int p0, .int p1]) ++ List.replicate (3 - (lg_sl ([.ref (g 0), .int p0, .int p1])).length) Slot.unset).toArray = ls at hl ⊢
  have hl : lv_has ls 3 [(0, .ref (g 0)), (1, .int p0), (2, .int p1)] := hl
  have hP : va_P (dC, dI) vwCl [((g 0), .inr (9, [.int g_th, .ref (g 1), .ref (g 2), .ref (g 3), .ref (g 4), .ref (g 5), .int g_tp, .int g_so, .int g_tk, .int g_pl, .int g_va, .long g_wo, .int g_bd, .int g_bp, .int g_fa, .int g_fp, .ref (g 6), .ref (g 7), .ref (g 8), .ref (g 9), .ref (g 10), .ref (g 11), .int g_lw, .int g_we, .int g_cu, .int g_go, .int g_ba, .ref (g 12), .ref (g 13), .int g_jo, .ref (g 14), .ref (g 15), .long g_bt, .int g_sb, .int g_ab, .int g_al, .ref (g 16), .ref (g 17)])), ((g 6), .inl (cI, 5, .inl li)), ((g 7), .inl (cI, 35, .inl hs)), ((g 8), .inl (cI, 75, .inl sp)), ((g 9), .inl (cI, 40, .inl wt)), ((g 10), .inl (cI, 450, .inl ac))] s.heap := hP
  have hD : va_D A [((g 0), .inr (9, [.int g_th, .ref (g 1), .ref (g 2), .ref (g 3), .ref (g 4), .ref (g 5), .int g_tp, .int g_so, .int g_tk, .int g_pl, .int g_va, .long g_wo, .int g_bd, .int g_bp, .int g_fa, .int g_fp, .ref (g 6), .ref (g 7), .ref (g 8), .ref (g 9), .ref (g 10), .ref (g 11), .int g_lw, .int g_we, .int g_cu, .int g_go, .int g_ba, .ref (g 12), .ref (g 13), .int g_jo, .ref (g 14), .ref (g 15), .long g_bt, .int g_sb, .int g_ab, .int g_al, .ref (g 16), .ref (g 17)])), ((g 6), .inl (cI, 5, .inl li)), ((g 7), .inl (cI, 35, .inl hs)), ((g 8), .inl (cI, 75, .inl sp)), ((g 9), .inl (cI, 40, .inl wt)), ((g 10), .inl (cI, 450, .inl ac))] := hD
  have rg_p0 := rgI p0
  have rg_p1 := rgI p1
  refine lv_aload_n hx hb dX9_copyWire_0 rfl (lv_at hl 0 rfl) ?_
  refine va_get (D := (dC, dI)) (ci := 9) (v := .ref (g 6)) (C := RX9) (T := TX9) (N := 38) hx hb ht iX9 hown hK hP 0 rfl rfl 16 (by decide) (ht _ w_1278) (fun _ h9 => h9) rfl dX9_copyWire_1 ?_
  refine lv_iconst (v := 1) hx hb dX9_copyWire_4 (by decide) ?_
  refine lv_iload_n hx hb dX9_copyWire_5 rfl (lv_at hl 1 rfl) ?_
  refine lv_iload_n hx hb dX9_copyWire_6 rfl (lv_at hl 2 rfl) ?_
  have hPc := hP.sub (ws' := [((g 6), .inl (cI, 5, .inl li))]) [1] rfl
  have hDc := hD.sub (ws' := [((g 6), .inl (cI, 5, .inl li))]) [1] (by decide) rfl
  have hFc := va_free (wc := [((g 6), .inl (cI, 5, .inl li))]) hD hS hA [1] rfl
  refine va_callv (va_runS (As := [.ref (g 6), .int 1, .int p0, .int p1]) (rest := []) ⟨hx, hb, hml, hown, ht⟩ (s_X9_copyRow1 l dC dI cB cI cJ cZ cL s.heap.size (g 6) li p0 p1 (by first | assumption | omega | decide | (simp only [T0, T1, T2, T3, Tm1]; omega)) (by first | assumption | omega | decide | (simp only [T0, T1, T2, T3, Tm1]; omega)) (by first | assumption | omega | decide | (simp only [T0, T1, T2, T3, Tm1]; omega))) (va_cwS 4 ht (gQ w_1510 w_1511 w_114 w_1512) rfl rfl rfl (by decide +kernel) ⟨Nat.le_of_ble_eq_true rfl, Nat.le_of_ble_eq_true rfl⟩) (pSQn hN hK hPc hDc) rfl rfl hl.1 rfl (lv_room (Nat.le_of_ble_eq_true rfl)) dX9_copyWire_7 ⟨Nat.le_of_ble_eq_true rfl, Nat.le_of_ble_eq_true rfl⟩) hS (fun q _ h => hFc q h) hFc (fun u_2 t1 H1 locs ht1 hvm hw hB hz1 hk1 hS => ?_)
  obtain ⟨hP1, hD1⟩ := hB
  rw [ht1] at hP1
  obtain ⟨hP, hD⟩ := va_join (wr := [((g 0), .inr (9, [.int g_th, .ref (g 1), .ref (g 2), .ref (g 3), .ref (g 4), .ref (g 5), .int g_tp, .int g_so, .int g_tk, .int g_pl, .int g_va, .long g_wo, .int g_bd, .int g_bp, .int g_fa, .int g_fp, .ref (g 6), .ref (g 7), .ref (g 8), .ref (g 9), .ref (g 10), .ref (g 11), .int g_lw, .int g_we, .int g_cu, .int g_go, .int g_ba, .ref (g 12), .ref (g 13), .int g_jo, .ref (g 14), .ref (g 15), .long g_bt, .int g_sb, .int g_ab, .int g_al, .ref (g 16), .ref (g 17)])), ((g 7), .inl (cI, 35, .inl hs)), ((g 8), .inl (cI, 75, .inl sp)), ((g 9), .inl (cI, 40, .inl wt)), ((g 10), .inl (cI, 450, .inl ac))]) (w1 := [((g 6), .inl (cI, 5, .inl u_2))]) hP hD [1] [0, 2, 3, 4, 5] rfl rfl (by decide) (by decide) hk1 hFc hP1 hD1
  clear hFc hDc hPc hP1 hD1 hz1 hk1 hvm
  generalize H1 = H at hP hS ⊢
  have hP : va_P (dC, dI) vwCl [((g 0), .inr (9, [.int g_th, .ref (g 1), .ref (g 2), .ref (g 3), .ref (g 4), .ref (g 5), .int g_tp, .int g_so, .int g_tk, .int g_pl, .int g_va, .long g_wo, .int g_bd, .int g_bp, .int g_fa, .int g_fp, .ref (g 6), .ref (g 7), .ref (g 8), .ref (g 9), .ref (g 10), .ref (g 11), .int g_lw, .int g_we, .int g_cu, .int g_go, .int g_ba, .ref (g 12), .ref (g 13), .int g_jo, .ref (g 14), .ref (g 15), .long g_bt, .int g_sb, .int g_ab, .int g_al, .ref (g 16), .ref (g 17)])), ((g 7), .inl (cI, 35, .inl hs)), ((g 8), .inl (cI, 75, .inl sp)), ((g 9), .inl (cI, 40, .inl wt)), ((g 10), .inl (cI, 450, .inl ac)), ((g 6), .inl (cI, 5, .inl u_2))] H := hP
  have hD : va_D A [((g 0), .inr (9, [.int g_th, .ref (g 1), .ref (g 2), .ref (g 3), .ref (g 4), .ref (g 5), .int g_tp, .int g_so, .int g_tk, .int g_pl, .int g_va, .long g_wo, .int g_bd, .int g_bp, .int g_fa, .int g_fp, .ref (g 6), .ref (g 7), .ref (g 8), .ref (g 9), .ref (g 10), .ref (g 11), .int g_lw, .int g_we, .int g_cu, .int g_go, .int g_ba, .ref (g 12), .ref (g 13), .int g_jo, .ref (g 14), .ref (g 15), .long g_bt, .int g_sb, .int g_ab, .int g_al, .ref (g 16), .ref (g 17)])), ((g 7), .inl (cI, 35, .inl hs)), ((g 8), .inl (cI, 75, .inl sp)), ((g 9), .inl (cI, 40, .inl wt)), ((g 10), .inl (cI, 450, .inl ac)), ((g 6), .inl (cI, 5, .inl u_2))] := hD
  (try dsimp only at hw)
  have hw_3 := hw
  clear hw
  refine lv_aload_n hx hb dX9_copyWire_10 rfl (lv_at hl 0 rfl) ?_
  refine va_get (D := (dC, dI)) (ci := 9) (v := .ref (g 7)) (C := RX9) (T := TX9) (N := 38) hx hb ht iX9 hown hK hP 0 rfl rfl 17 (by decide) (ht _ w_1279) (fun _ h9 => h9) rfl dX9_copyWire_11 ?_
  refine lv_bipush (v := 7) hx hb dX9_copyWire_14 (by decide) ?_
  refine lv_iload_n hx hb dX9_copyWire_16 rfl (lv_at hl 1 rfl) ?_
  refine lv_iload_n hx hb dX9_copyWire_17 rfl (lv_at hl 2 rfl) ?_
  have hPc := hP.sub (ws' := [((g 7), .inl (cI, 35, .inl hs))]) [1] rfl
  have hDc := hD.sub (ws' := [((g 7), .inl (cI, 35, .inl hs))]) [1] (by decide) rfl
  have hFc := va_free (wc := [((g 7), .inl (cI, 35, .inl hs))]) hD hS hA [1] rfl
  refine va_callv (va_runS (As := [.ref (g 7), .int 7, .int p0, .int p1]) (rest := []) ⟨hx, hb, hml, hown, ht⟩ (s_X9_copyRow7 l dC dI cB cI cJ cZ cL H.size (g 7) hs p0 p1 (by first | assumption | omega | decide | (simp only [T0, T1, T2, T3, Tm1]; omega)) (by first | assumption | omega | decide | (simp only [T0, T1, T2, T3, Tm1]; omega)) (by first | assumption | omega | decide | (simp only [T0, T1, T2, T3, Tm1]; omega))) (va_cwS 4 ht (gQ w_1510 w_1511 w_114 w_1512) rfl rfl rfl (by decide +kernel) ⟨Nat.le_of_ble_eq_true rfl, Nat.le_of_ble_eq_true rfl⟩) (pSQn hN hK hPc hDc) rfl rfl hl.1 rfl (lv_room (Nat.le_of_ble_eq_true rfl)) dX9_copyWire_18 ⟨Nat.le_of_ble_eq_true rfl, Nat.le_of_ble_eq_true rfl⟩) hS (fun q _ h => hFc q h) hFc (fun u_5 t1 H1 locs ht1 hvm hw hB hz1 hk1 hS => ?_)
  obtain ⟨hP1, hD1⟩ := hB
  rw [ht1] at hP1
  obtain ⟨hP, hD⟩ := va_join (wr := [((g 0), .inr (9, [.int g_th, .ref (g 1), .ref (g 2), .ref (g 3), .ref (g 4), .ref (g 5), .int g_tp, .int g_so, .int g_tk, .int g_pl, .int g_va, .long g_wo, .int g_bd, .int g_bp, .int g_fa, .int g_fp, .ref (g 6), .ref (g 7), .ref (g 8), .ref (g 9), .ref (g 10), .ref (g 11), .int g_lw, .int g_we, .int g_cu, .int g_go, .int g_ba, .ref (g 12), .ref (g 13), .int g_jo, .ref (g 14), .ref (g 15), .long g_bt, .int g_sb, .int g_ab, .int g_al, .ref (g 16), .ref (g 17)])), ((g 8), .inl (cI, 75, .inl sp)), ((g 9), .inl (cI, 40, .inl wt)), ((g 10), .inl (cI, 450, .inl ac)), ((g 6), .inl (cI, 5, .inl u_2))]) (w1 := [((g 7), .inl (cI, 35, .inl u_5))]) hP hD [1] [0, 2, 3, 4, 5] rfl rfl (by decide) (by decide) hk1 hFc hP1 hD1
  clear hFc hDc hPc hP1 hD1 hz1 hk1 hvm
  generalize H1 = H at hP hS ⊢
  have hP : va_P (dC, dI) vwCl [((g 0), .inr (9, [.int g_th, .ref (g 1), .ref (g 2), .ref (g 3), .ref (g 4), .ref (g 5), .int g_tp, .int g_so, .int g_tk, .int g_pl, .int g_va, .long g_wo, .int g_bd, .int g_bp, .int g_fa, .int g_fp, .ref (g 6), .ref (g 7), .ref (g 8), .ref (g 9), .ref (g 10), .ref (g 11), .int g_lw, .int g_we, .int g_cu, .int g_go, .int g_ba, .ref (g 12), .ref (g 13), .int g_jo, .ref (g 14), .ref (g 15), .long g_bt, .int g_sb, .int g_ab, .int g_al, .ref (g 16), .ref (g 17)])), ((g 8), .inl (cI, 75, .inl sp)), ((g 9), .inl (cI, 40, .inl wt)), ((g 10), .inl (cI, 450, .inl ac)), ((g 6), .inl (cI, 5, .inl u_2)), ((g 7), .inl (cI, 35, .inl u_5))] H := hP
  have hD : va_D A [((g 0), .inr (9, [.int g_th, .ref (g 1), .ref (g 2), .ref (g 3), .ref (g 4), .ref (g 5), .int g_tp, .int g_so, .int g_tk, .int g_pl, .int g_va, .long g_wo, .int g_bd, .int g_bp, .int g_fa, .int g_fp, .ref (g 6), .ref (g 7), .ref (g 8), .ref (g 9), .ref (g 10), .ref (g 11), .int g_lw, .int g_we, .int g_cu, .int g_go, .int g_ba, .ref (g 12), .ref (g 13), .int g_jo, .ref (g 14), .ref (g 15), .long g_bt, .int g_sb, .int g_ab, .int g_al, .ref (g 16), .ref (g 17)])), ((g 8), .inl (cI, 75, .inl sp)), ((g 9), .inl (cI, 40, .inl wt)), ((g 10), .inl (cI, 450, .inl ac)), ((g 6), .inl (cI, 5, .inl u_2)), ((g 7), .inl (cI, 35, .inl u_5))] := hD
  (try dsimp only at hw)
  have hw_6 := hw
  clear hw
  refine lv_aload_n hx hb dX9_copyWire_21 rfl (lv_at hl 0 rfl) ?_
  refine va_get (D := (dC, dI)) (ci := 9) (v := .ref (g 8)) (C := RX9) (T := TX9) (N := 38) hx hb ht iX9 hown hK hP 0 rfl rfl 18 (by decide) (ht _ w_1280) (fun _ h9 => h9) rfl dX9_copyWire_22 ?_
  refine lv_bipush (v := 15) hx hb dX9_copyWire_25 (by decide) ?_
  refine lv_iload_n hx hb dX9_copyWire_27 rfl (lv_at hl 1 rfl) ?_
  refine lv_iload_n hx hb dX9_copyWire_28 rfl (lv_at hl 2 rfl) ?_
  have hPc := hP.sub (ws' := [((g 8), .inl (cI, 75, .inl sp))]) [1] rfl
  have hDc := hD.sub (ws' := [((g 8), .inl (cI, 75, .inl sp))]) [1] (by decide) rfl
  have hFc := va_free (wc := [((g 8), .inl (cI, 75, .inl sp))]) hD hS hA [1] rfl
  refine va_callv (va_runS (As := [.ref (g 8), .int 15, .int p0, .int p1]) (rest := []) ⟨hx, hb, hml, hown, ht⟩ (s_X9_copyRow15 l dC dI cB cI cJ cZ cL H.size (g 8) sp p0 p1 (by first | assumption | omega | decide | (simp only [T0, T1, T2, T3, Tm1]; omega)) (by first | assumption | omega | decide | (simp only [T0, T1, T2, T3, Tm1]; omega)) (by first | assumption | omega | decide | (simp only [T0, T1, T2, T3, Tm1]; omega))) (va_cwS 4 ht (gQ w_1510 w_1511 w_114 w_1512) rfl rfl rfl (by decide +kernel) ⟨Nat.le_of_ble_eq_true rfl, Nat.le_of_ble_eq_true rfl⟩) (pSQn hN hK hPc hDc) rfl rfl hl.1 rfl (lv_room (Nat.le_of_ble_eq_true rfl)) dX9_copyWire_29 ⟨Nat.le_of_ble_eq_true rfl, Nat.le_of_ble_eq_true rfl⟩) hS (fun q _ h => hFc q h) hFc (fun u_8 t1 H1 locs ht1 hvm hw hB hz1 hk1 hS => ?_)
  obtain ⟨hP1, hD1⟩ := hB
  rw [ht1] at hP1
  obtain ⟨hP, hD⟩ := va_join (wr := [((g 0), .inr (9, [.int g_th, .ref (g 1), .ref (g 2), .ref (g 3), .ref (g 4), .ref (g 5), .int g_tp, .int g_so, .int g_tk, .int g_pl, .int g_va, .long g_wo, .int g_bd, .int g_bp, .int g_fa, .int g_fp, .ref (g 6), .ref (g 7), .ref (g 8), .ref (g 9), .ref (g 10), .ref (g 11), .int g_lw, .int g_we, .int g_cu, .int g_go, .int g_ba, .ref (g 12), .ref (g 13), .int g_jo, .ref (g 14), .ref (g 15), .long g_bt, .int g_sb, .int g_ab, .int g_al, .ref (g 16), .ref (g 17)])), ((g 9), .inl (cI, 40, .inl wt)), ((g 10), .inl (cI, 450, .inl ac)), ((g 6), .inl (cI, 5, .inl u_2)), ((g 7), .inl (cI, 35, .inl u_5))]) (w1 := [((g 8), .inl (cI, 75, .inl u_8))]) hP hD [1] [0, 2, 3, 4, 5] rfl rfl (by decide) (by decide) hk1 hFc hP1 hD1
  clear hFc hDc hPc hP1 hD1 hz1 hk1 hvm
  generalize H1 = H at hP hS ⊢
  have hP : va_P (dC, dI) vwCl [((g 0), .inr (9, [.int g_th, .ref (g 1), .ref (g 2), .ref (g 3), .ref (g 4), .ref (g 5), .int g_tp, .int g_so, .int g_tk, .int g_pl, .int g_va, .long g_wo, .int g_bd, .int g_bp, .int g_fa, .int g_fp, .ref (g 6), .ref (g 7), .ref (g 8), .ref (g 9), .ref (g 10), .ref (g 11), .int g_lw, .int g_we, .int g_cu, .int g_go, .int g_ba, .ref (g 12), .ref (g 13), .int g_jo, .ref (g 14), .ref (g 15), .long g_bt, .int g_sb, .int g_ab, .int g_al, .ref (g 16), .ref (g 17)])), ((g 9), .inl (cI, 40, .inl wt)), ((g 10), .inl (cI, 450, .inl ac)), ((g 6), .inl (cI, 5, .inl u_2)), ((g 7), .inl (cI, 35, .inl u_5)), ((g 8), .inl (cI, 75, .inl u_8))] H := hP
  have hD : va_D A [((g 0), .inr (9, [.int g_th, .ref (g 1), .ref (g 2), .ref (g 3), .ref (g 4), .ref (g 5), .int g_tp, .int g_so, .int g_tk, .int g_pl, .int g_va, .long g_wo, .int g_bd, .int g_bp, .int g_fa, .int g_fp, .ref (g 6), .ref (g 7), .ref (g 8), .ref (g 9), .ref (g 10), .ref (g 11), .int g_lw, .int g_we, .int g_cu, .int g_go, .int g_ba, .ref (g 12), .ref (g 13), .int g_jo, .ref (g 14), .ref (g 15), .long g_bt, .int g_sb, .int g_ab, .int g_al, .ref (g 16), .ref (g 17)])), ((g 9), .inl (cI, 40, .inl wt)), ((g 10), .inl (cI, 450, .inl ac)), ((g 6), .inl (cI, 5, .inl u_2)), ((g 7), .inl (cI, 35, .inl u_5)), ((g 8), .inl (cI, 75, .inl u_8))] := hD
  (try dsimp only at hw)
  have hw_9 := hw
  clear hw
  refine lv_aload_n hx hb dX9_copyWire_32 rfl (lv_at hl 0 rfl) ?_
  refine va_get (D := (dC, dI)) (ci := 9) (v := .ref (g 9)) (C := RX9) (T := TX9) (N := 38) hx hb ht iX9 hown hK hP 0 rfl rfl 19 (by decide) (ht _ w_1281) (fun _ h9 => h9) rfl dX9_copyWire_33 ?_
  refine lv_bipush (v := 8) hx hb dX9_copyWire_36 (by decide) ?_
  refine lv_iload_n hx hb dX9_copyWire_38 rfl (lv_at hl 1 rfl) ?_
  refine lv_iload_n hx hb dX9_copyWire_39 rfl (lv_at hl 2 rfl) ?_
  have hPc := hP.sub (ws' := [((g 9), .inl (cI, 40, .inl wt))]) [1] rfl
  have hDc := hD.sub (ws' := [((g 9), .inl (cI, 40, .inl wt))]) [1] (by decide) rfl
  have hFc := va_free (wc := [((g 9), .inl (cI, 40, .inl wt))]) hD hS hA [1] rfl
  refine va_callv (va_runS (As := [.ref (g 9), .int 8, .int p0, .int p1]) (rest := []) ⟨hx, hb, hml, hown, ht⟩ (s_X9_copyRow8 l dC dI cB cI cJ cZ cL H.size (g 9) wt p0 p1 (by first | assumption | omega | decide | (simp only [T0, T1, T2, T3, Tm1]; omega)) (by first | assumption | omega | decide | (simp only [T0, T1, T2, T3, Tm1]; omega)) (by first | assumption | omega | decide | (simp only [T0, T1, T2, T3, Tm1]; omega))) (va_cwS 4 ht (gQ w_1510 w_1511 w_114 w_1512) rfl rfl rfl (by decide +kernel) ⟨Nat.le_of_ble_eq_true rfl, Nat.le_of_ble_eq_true rfl⟩) (pSQn hN hK hPc hDc) rfl rfl hl.1 rfl (lv_room (Nat.le_of_ble_eq_true rfl)) dX9_copyWire_40 ⟨Nat.le_of_ble_eq_true rfl, Nat.le_of_ble_eq_true rfl⟩) hS (fun q _ h => hFc q h) hFc (fun u_11 t1 H1 locs ht1 hvm hw hB hz1 hk1 hS => ?_)
  obtain ⟨hP1, hD1⟩ := hB
  rw [ht1] at hP1
  obtain ⟨hP, hD⟩ := va_join (wr := [((g 0), .inr (9, [.int g_th, .ref (g 1), .ref (g 2), .ref (g 3), .ref (g 4), .ref (g 5), .int g_tp, .int g_so, .int g_tk, .int g_pl, .int g_va, .long g_wo, .int g_bd, .int g_bp, .int g_fa, .int g_fp, .ref (g 6), .ref (g 7), .ref (g 8), .ref (g 9), .ref (g 10), .ref (g 11), .int g_lw, .int g_we, .int g_cu, .int g_go, .int g_ba, .ref (g 12), .ref (g 13), .int g_jo, .ref (g 14), .ref (g 15), .long g_bt, .int g_sb, .int g_ab, .int g_al, .ref (g 16), .ref (g 17)])), ((g 10), .inl (cI, 450, .inl ac)), ((g 6), .inl (cI, 5, .inl u_2)), ((g 7), .inl (cI, 35, .inl u_5)), ((g 8), .inl (cI, 75, .inl u_8))]) (w1 := [((g 9), .inl (cI, 40, .inl u_11))]) hP hD [1] [0, 2, 3, 4, 5] rfl rfl (by decide) (by decide) hk1 hFc hP1 hD1
  clear hFc hDc hPc hP1 hD1 hz1 hk1 hvm
  generalize H1 = H at hP hS ⊢
  have hP : va_P (dC, dI) vwCl [((g 0), .inr (9, [.int g_th, .ref (g 1), .ref (g 2), .ref (g 3), .ref (g 4), .ref (g 5), .int g_tp, .int g_so, .int g_tk, .int g_pl, .int g_va, .long g_wo, .int g_bd, .int g_bp, .int g_fa, .int g_fp, .ref (g 6), .ref (g 7), .ref (g 8), .ref (g 9), .ref (g 10), .ref (g 11), .int g_lw, .int g_we, .int g_cu, .int g_go, .int g_ba, .ref (g 12), .ref (g 13), .int g_jo, .ref (g 14), .ref (g 15), .long g_bt, .int g_sb, .int g_ab, .int g_al, .ref (g 16), .ref (g 17)])), ((g 10), .inl (cI, 450, .inl ac)), ((g 6), .inl (cI, 5, .inl u_2)), ((g 7), .inl (cI, 35, .inl u_5)), ((g 8), .inl (cI, 75, .inl u_8)), ((g 9), .inl (cI, 40, .inl u_11))] H := hP
  have hD : va_D A [((g 0), .inr (9, [.int g_th, .ref (g 1), .ref (g 2), .ref (g 3), .ref (g 4), .ref (g 5), .int g_tp, .int g_so, .int g_tk, .int g_pl, .int g_va, .long g_wo, .int g_bd, .int g_bp, .int g_fa, .int g_fp, .ref (g 6), .ref (g 7), .ref (g 8), .ref (g 9), .ref (g 10), .ref (g 11), .int g_lw, .int g_we, .int g_cu, .int g_go, .int g_ba, .ref (g 12), .ref (g 13), .int g_jo, .ref (g 14), .ref (g 15), .long g_bt, .int g_sb, .int g_ab, .int g_al, .ref (g 16), .ref (g 17)])), ((g 10), .inl (cI, 450, .inl ac)), ((g 6), .inl (cI, 5, .inl u_2)), ((g 7), .inl (cI, 35, .inl u_5)), ((g 8), .inl (cI, 75, .inl u_8)), ((g 9), .inl (cI, 40, .inl u_11))] := hD
  (try dsimp only at hw)
  have hw_12 := hw
  clear hw
  refine lv_aload_n hx hb dX9_copyWire_43 rfl (lv_at hl 0 rfl) ?_
  refine va_get (D := (dC, dI)) (ci := 9) (v := .ref (g 10)) (C := RX9) (T := TX9) (N := 38) hx hb ht iX9 hown hK hP 0 rfl rfl 20 (by decide) (ht _ w_1282) (fun _ h9 => h9) rfl dX9_copyWire_44 ?_
  refine lv_bipush (v := 90) hx hb dX9_copyWire_47 (by decide) ?_
  refine lv_iload_n hx hb dX9_copyWire_49 rfl (lv_at hl 1 rfl) ?_
  refine lv_iload_n hx hb dX9_copyWire_50 rfl (lv_at hl 2 rfl) ?_
  have hPc := hP.sub (ws' := [((g 10), .inl (cI, 450, .inl ac))]) [1] rfl
  have hDc := hD.sub (ws' := [((g 10), .inl (cI, 450, .inl ac))]) [1] (by decide) rfl
  have hFc := va_free (wc := [((g 10), .inl (cI, 450, .inl ac))]) hD hS hA [1] rfl
  refine va_callv (va_runS (As := [.ref (g 10), .int 90, .int p0, .int p1]) (rest := []) ⟨hx, hb, hml, hown, ht⟩ (s_X9_copyRow90 l dC dI cB cI cJ cZ cL H.size (g 10) ac p0 p1 (by first | assumption | omega | decide | (simp only [T0, T1, T2, T3, Tm1]; omega)) (by first | assumption | omega | decide | (simp only [T0, T1, T2, T3, Tm1]; omega)) (by first | assumption | omega | decide | (simp only [T0, T1, T2, T3, Tm1]; omega))) (va_cwS 4 ht (gQ w_1510 w_1511 w_114 w_1512) rfl rfl rfl (by decide +kernel) ⟨Nat.le_of_ble_eq_true rfl, Nat.le_of_ble_eq_true rfl⟩) (pSQn hN hK hPc hDc) rfl rfl hl.1 rfl (lv_room (Nat.le_of_ble_eq_true rfl)) dX9_copyWire_51 ⟨Nat.le_of_ble_eq_true rfl, Nat.le_of_ble_eq_true rfl⟩) hS (fun q _ h => hFc q h) hFc (fun u_14 t1 H1 locs ht1 hvm hw hB hz1 hk1 hS => ?_)
  obtain ⟨hP1, hD1⟩ := hB
  rw [ht1] at hP1
  obtain ⟨hP, hD⟩ := va_join (wr := [((g 0), .inr (9, [.int g_th, .ref (g 1), .ref (g 2), .ref (g 3), .ref (g 4), .ref (g 5), .int g_tp, .int g_so, .int g_tk, .int g_pl, .int g_va, .long g_wo, .int g_bd, .int g_bp, .int g_fa, .int g_fp, .ref (g 6), .ref (g 7), .ref (g 8), .ref (g 9), .ref (g 10), .ref (g 11), .int g_lw, .int g_we, .int g_cu, .int g_go, .int g_ba, .ref (g 12), .ref (g 13), .int g_jo, .ref (g 14), .ref (g 15), .long g_bt, .int g_sb, .int g_ab, .int g_al, .ref (g 16), .ref (g 17)])), ((g 6), .inl (cI, 5, .inl u_2)), ((g 7), .inl (cI, 35, .inl u_5)), ((g 8), .inl (cI, 75, .inl u_8)), ((g 9), .inl (cI, 40, .inl u_11))]) (w1 := [((g 10), .inl (cI, 450, .inl u_14))]) hP hD [1] [0, 2, 3, 4, 5] rfl rfl (by decide) (by decide) hk1 hFc hP1 hD1
  clear hFc hDc hPc hP1 hD1 hz1 hk1 hvm
  generalize H1 = H at hP hS ⊢
  have hP : va_P (dC, dI) vwCl [((g 0), .inr (9, [.int g_th, .ref (g 1), .ref (g 2), .ref (g 3), .ref (g 4), .ref (g 5), .int g_tp, .int g_so, .int g_tk, .int g_pl, .int g_va, .long g_wo, .int g_bd, .int g_bp, .int g_fa, .int g_fp, .ref (g 6), .ref (g 7), .ref (g 8), .ref (g 9), .ref (g 10), .ref (g 11), .int g_lw, .int g_we, .int g_cu, .int g_go, .int g_ba, .ref (g 12), .ref (g 13), .int g_jo, .ref (g 14), .ref (g 15), .long g_bt, .int g_sb, .int g_ab, .int g_al, .ref (g 16), .ref (g 17)])), ((g 6), .inl (cI, 5, .inl u_2)), ((g 7), .inl (cI, 35, .inl u_5)), ((g 8), .inl (cI, 75, .inl u_8)), ((g 9), .inl (cI, 40, .inl u_11)), ((g 10), .inl (cI, 450, .inl u_14))] H := hP
  have hD : va_D A [((g 0), .inr (9, [.int g_th, .ref (g 1), .ref (g 2), .ref (g 3), .ref (g 4), .ref (g 5), .int g_tp, .int g_so, .int g_tk, .int g_pl, .int g_va, .long g_wo, .int g_bd, .int g_bp, .int g_fa, .int g_fp, .ref (g 6), .ref (g 7), .ref (g 8), .ref (g 9), .ref (g 10), .ref (g 11), .int g_lw, .int g_we, .int g_cu, .int g_go, .int g_ba, .ref (g 12), .ref (g 13), .int g_jo, .ref (g 14), .ref (g 15), .long g_bt, .int g_sb, .int g_ab, .int g_al, .ref (g 16), .ref (g 17)])), ((g 6), .inl (cI, 5, .inl u_2)), ((g 7), .inl (cI, 35, .inl u_5)), ((g 8), .inl (cI, 75, .inl u_8)), ((g 9), .inl (cI, 40, .inl u_11)), ((g 10), .inl (cI, 450, .inl u_14))] := hD
  (try dsimp only at hw)
  have hw_15 := hw
  clear hw
  have hP9 := hP.sub (ws' := [((g 0), .inr (9, [.int g_th, .ref (g 1), .ref (g 2), .ref (g 3), .ref (g 4), .ref (g 5), .int g_tp, .int g_so, .int g_tk, .int g_pl, .int g_va, .long g_wo, .int g_bd, .int g_bp, .int g_fa, .int g_fp, .ref (g 6), .ref (g 7), .ref (g 8), .ref (g 9), .ref (g 10), .ref (g 11), .int g_lw, .int g_we, .int g_cu, .int g_go, .int g_ba, .ref (g 12), .ref (g 13), .int g_jo, .ref (g 14), .ref (g 15), .long g_bt, .int g_sb, .int g_ab, .int g_al, .ref (g 16), .ref (g 17)])), ((g 6), .inl (cI, 5, .inl u_2)), ((g 7), .inl (cI, 35, .inl u_5)), ((g 8), .inl (cI, 75, .inl u_8)), ((g 9), .inl (cI, 40, .inl u_11)), ((g 10), .inl (cI, 450, .inl u_14))]) [0, 1, 2, 3, 4, 5] rfl
  have hD9 := hD.sub (ws' := [((g 0), .inr (9, [.int g_th, .ref (g 1), .ref (g 2), .ref (g 3), .ref (g 4), .ref (g 5), .int g_tp, .int g_so, .int g_tk, .int g_pl, .int g_va, .long g_wo, .int g_bd, .int g_bp, .int g_fa, .int g_fp, .ref (g 6), .ref (g 7), .ref (g 8), .ref (g 9), .ref (g 10), .ref (g 11), .int g_lw, .int g_we, .int g_cu, .int g_go, .int g_ba, .ref (g 12), .ref (g 13), .int g_jo, .ref (g 14), .ref (g 15), .long g_bt, .int g_sb, .int g_ab, .int g_al, .ref (g 16), .ref (g 17)])), ((g 6), .inl (cI, 5, .inl u_2)), ((g 7), .inl (cI, 35, .inl u_5)), ((g 8), .inl (cI, 75, .inl u_8)), ((g 9), .inl (cI, 40, .inl u_11)), ((g 10), .inl (cI, 450, .inl u_14))]) [0, 1, 2, 3, 4, 5] (by decide) rfl
  exact W.vret hx hb hr (fun t ht hW => ⟨⟨(u_2, u_5, u_8, u_11, u_14), rfl, ⟨(by first | omega | assumption | decide | exact LK_mono (by assumption) (by omega) | exact OM_mono (by assumption) (by omega) | exact CLR_mono (by assumption) (by omega) | (have e0 := T0; have e1 := T1; have e2 := T2; have e3 := T3; have em1 := Tm1; omega) | (dsimp only; done) | (dsimp only; first | omega | assumption | decide | exact LK_mono (by assumption) (by omega) | exact OM_mono (by assumption) (by omega) | exact CLR_mono (by assumption) (by omega) | (have e0 := T0; have e1 := T1; have e2 := T2; have e3 := T3; have em1 := Tm1; omega))), (by first | omega | assumption | decide | exact LK_mono (by assumption) (by omega) | exact OM_mono (by assumption) (by omega) | exact CLR_mono (by assumption) (by omega) | (have e0 := T0; have e1 := T1; have e2 := T2; have e3 := T3; have em1 := Tm1; omega) | (dsimp only; done) | (dsimp only; first | omega | assumption | decide | exact LK_mono (by assumption) (by omega) | exact OM_mono (by assumption) (by omega) | exact CLR_mono (by assumption) (by omega) | (have e0 := T0; have e1 := T1; have e2 := T2; have e3 := T3; have em1 := Tm1; omega)))⟩, ⟨by rw [ht]; exact hP9, hD9⟩⟩, hS.F ht⟩) hS.2.2 dX9_copyWire_54
