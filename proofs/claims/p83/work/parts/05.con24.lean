set_option maxHeartbeats 8000000 in
set_option maxRecDepth 100000 in
theorem s_X8_undo (l : Launch) (dC : Nat → ClassId) (dI : Nat → Nat → Nat) (cB cI cJ cZ cL : ClassId) (sz : Nat) (a : Nat → Nat) (fk : Int32) (fp : Int32) (n_lines : Int32) (n_days : Int32) (n_law : Int32) (n_odds : Int32) (n_volts : Int32) (n_spans : Int32) (n_wetLines : Int32) (n_wet : Int32) (n_acts : Int32) (n_a_kinds : Nat → Int32) (n_a_places : Nat → Int32) (n_a_actDays : Nat → Int32) (n_a_cupDays : Nat → Int32) (n_a_snapDays : Nat → Int32)  (hac : 0 ≤ Int32.toInt n_acts ∧ Int32.toInt n_acts ≤ 30) (hpl : ∀ i : Nat, 0 ≤ Int32.toInt (n_a_places i) ∧ Int32.toInt (n_a_places i) ≤ 4) : Met l yX8_undo (wy yX8_undo cX8_undo 1 (some .int)) ({ frames := 2, cells := 0, slots := 0, locals := 80 }) (va_Pc [.ref (a 0)] (fun U => U.heap.size = sz ∧ va_P (dC, dI) vwCl [((a 0), .inr (8, [.ref (a 1), .ref (a 2), .ref (a 3), .ref (a 4), .ref (a 5), .ref (a 6), .ref (a 7), .ref (a 8), .ref (a 9), .ref (a 10), .ref (a 11), .ref (a 12), .ref (a 13), .ref (a 14), .int fk, .int fp])), ((a 4), .inr (2, [.int n_lines, .int n_days, .int n_law, .int n_odds, .int n_volts, .int n_spans, .int n_wetLines, .int n_wet, .int n_acts, .ref (a 19), .ref (a 20), .ref (a 21), .ref (a 22), .ref (a 23), .ref (a 24), .ref (a 25), .ref (a 26)])), ((a 22), .inl (cI, 30, .inl n_a_kinds)), ((a 23), .inl (cI, 30, .inl n_a_places)), ((a 24), .inl (cI, 30, .inl n_a_actDays)), ((a 25), .inl (cI, 5, .inl n_a_cupDays)), ((a 26), .inl (cI, 5, .inl n_a_snapDays))] U.heap ∧ va_K (dC, dI) vwCl (tyL cB cI cJ cZ cL) U ∧ va_D (fun _ => True) [((a 0), .inr (8, [.ref (a 1), .ref (a 2), .ref (a 3), .ref (a 4), .ref (a 5), .ref (a 6), .ref (a 7), .ref (a 8), .ref (a 9), .ref (a 10), .ref (a 11), .ref (a 12), .ref (a 13), .ref (a 14), .int fk, .int fp])), ((a 4), .inr (2, [.int n_lines, .int n_days, .int n_law, .int n_odds, .int n_volts, .int n_spans, .int n_wetLines, .int n_wet, .int n_acts, .ref (a 19), .ref (a 20), .ref (a 21), .ref (a 22), .ref (a 23), .ref (a 24), .ref (a 25), .ref (a 26)])), ((a 22), .inl (cI, 30, .inl n_a_kinds)), ((a 23), .inl (cI, 30, .inl n_a_places)), ((a 24), .inl (cI, 30, .inl n_a_actDays)), ((a 25), .inl (cI, 5, .inl n_a_cupDays)), ((a 26), .inl (cI, 5, .inl n_a_snapDays))] ∧ NW U)) (va_Qi (fun r u => 0 ≤ Int32.toInt u.1 ∧ Int32.toInt u.1 ≤ 30) (fun (u : (Int32) × (Nat → Int32) × (Nat → Int32)) t => va_P (dC, dI) vwCl [((a 0), .inr (8, [.ref (a 1), .ref (a 2), .ref (a 3), .ref (a 4), .ref (a 5), .ref (a 6), .ref (a 7), .ref (a 8), .ref (a 9), .ref (a 10), .ref (a 11), .ref (a 12), .ref (a 13), .ref (a 14), .int fk, .int fp])), ((a 4), .inr (2, [.int n_lines, .int n_days, .int n_law, .int n_odds, .int n_volts, .int n_spans, .int n_wetLines, .int n_wet, .int u.1, .ref (a 19), .ref (a 20), .ref (a 21), .ref (a 22), .ref (a 23), .ref (a 24), .ref (a 25), .ref (a 26)])), ((a 22), .inl (cI, 30, .inl n_a_kinds)), ((a 23), .inl (cI, 30, .inl n_a_places)), ((a 24), .inl (cI, 30, .inl n_a_actDays)), ((a 25), .inl (cI, 5, .inl u.2.1)), ((a 26), .inl (cI, 5, .inl u.2.2))] t.heap ∧ va_D (va_A [((a 0), .inr (8, [.ref (a 1), .ref (a 2), .ref (a 3), .ref (a 4), .ref (a 5), .ref (a 6), .ref (a 7), .ref (a 8), .ref (a 9), .ref (a 10), .ref (a 11), .ref (a 12), .ref (a 13), .ref (a 14), .int fk, .int fp])), ((a 4), .inr (2, [.int n_lines, .int n_days, .int n_law, .int n_odds, .int n_volts, .int n_spans, .int n_wetLines, .int n_wet, .int n_acts, .ref (a 19), .ref (a 20), .ref (a 21), .ref (a 22), .ref (a 23), .ref (a 24), .ref (a 25), .ref (a 26)])), ((a 22), .inl (cI, 30, .inl n_a_kinds)), ((a 23), .inl (cI, 30, .inl n_a_places)), ((a 24), .inl (cI, 30, .inl n_a_actDays)), ((a 25), .inl (cI, 5, .inl n_a_cupDays)), ((a 26), .inl (cI, 5, .inl n_a_snapDays))] sz) [((a 0), .inr (8, [.ref (a 1), .ref (a 2), .ref (a 3), .ref (a 4), .ref (a 5), .ref (a 6), .ref (a 7), .ref (a 8), .ref (a 9), .ref (a 10), .ref (a 11), .ref (a 12), .ref (a 13), .ref (a 14), .int fk, .int fp])), ((a 4), .inr (2, [.int n_lines, .int n_days, .int n_law, .int n_odds, .int n_volts, .int n_spans, .int n_wetLines, .int n_wet, .int u.1, .ref (a 19), .ref (a 20), .ref (a 21), .ref (a 22), .ref (a 23), .ref (a 24), .ref (a 25), .ref (a 26)])), ((a 22), .inl (cI, 30, .inl n_a_kinds)), ((a 23), .inl (cI, 30, .inl n_a_places)), ((a 24), .inl (cI, 30, .inl n_a_actDays)), ((a 25), .inl (cI, 5, .inl u.2.1)), ((a 26), .inl (cI, 5, .inl u.2.2))]) (va_A [((a 0), .inr (8, [.ref (a 1), .ref (a 2), .ref (a 3), .ref (a 4), .ref (a 5), .ref (a 6), .ref (a 7), .ref (a 8), .ref (a 9), .ref (a 10), .ref (a 11), .ref (a 12), .ref (a 13), .ref (a 14), .int fk, .int fp])), ((a 4), .inr (2, [.int n_lines, .int n_days, .int n_law, .int n_odds, .int n_volts, .int n_spans, .int n_wetLines, .int n_wet, .int n_acts, .ref (a 19), .ref (a 20), .ref (a 21), .ref (a 22), .ref (a 23), .ref (a 24), .ref (a 25), .ref (a 26)])), ((a 22), .inl (cI, 30, .inl n_a_kinds)), ((a 23), .inl (cI, 30, .inl n_a_places)), ((a 24), .inl (cI, 30, .inl n_a_actDays)), ((a 25), .inl (cI, 5, .inl n_a_cupDays)), ((a 26), .inl (cI, 5, .inl n_a_snapDays))] sz)) 0 0 (va_A [((a 0), .inr (8, [.ref (a 1), .ref (a 2), .ref (a 3), .ref (a 4), .ref (a 5), .ref (a 6), .ref (a 7), .ref (a 8), .ref (a 9), .ref (a 10), .ref (a 11), .ref (a 12), .ref (a 13), .ref (a 14), .int fk, .int fp])), ((a 4), .inr (2, [.int n_lines, .int n_days, .int n_law, .int n_odds, .int n_volts, .int n_spans, .int n_wetLines, .int n_wet, .int n_acts, .ref (a 19), .ref (a 20), .ref (a 21), .ref (a 22), .ref (a 23), .ref (a 24), .ref (a 25), .ref (a 26)])), ((a 22), .inl (cI, 30, .inl n_a_kinds)), ((a 23), .inl (cI, 30, .inl n_a_places)), ((a 24), .inl (cI, 30, .inl n_a_actDays)), ((a 25), .inl (cI, 5, .inl n_a_cupDays)), ((a 26), .inl (cI, 5, .inl n_a_snapDays))] sz) := by
  refine Met.ofW (cc := cX8_undo) (maxL := 1) (ret := (some .int)) (by decide) rfl ?_
  intro p e s m args below meth c s₁ B hml hv
  obtain ⟨rfl, hsz, hP, hK, hD0, hN⟩ := hv
  have hx := B.exec
  have hb := B.bytes
  have hr := B.returns
  have ht : ∀ w ∈ lw_ok, w.before _ s = true := fun w h => atoms_spec (ws := wy yX8_undo cX8_undo 1 (some .int)) B.pre w (List.mem_cons_of_mem _ h)
  have hown : s.vm.findClass RX8 = some m.cls := findClass_of_methodNamed B.named
  have hlocks := B.notSynchronized
  subst hsz
  have hD := hD0.self (sz := s.heap.size)
  generalize hAe : va_A [((a 0), .inr (8, [.ref (a 1), .ref (a 2), .ref (a 3), .ref (a 4), .ref (a 5), .ref (a 6), .ref (a 7), .ref (a 8), .ref (a 9), .ref (a 10), .ref (a 11), .ref (a 12), .ref (a 13), .ref (a 14), .int fk, .int fp])), ((a 4), .inr (2, [.int n_lines, .int n_days, .int n_law, .int n_odds, .int n_volts, .int n_spans, .int n_wetLines, .int n_wet, .int n_acts, .ref (a 19), .ref (a 20), .ref (a 21), .ref (a 22), .ref (a 23), .ref (a 24), .ref (a 25), .ref (a 26)])), ((a 22), .inl (cI, 30, .inl n_a_kinds)), ((a 23), .inl (cI, 30, .inl n_a_places)), ((a 24), .inl (cI, 30, .inl n_a_actDays)), ((a 25), .inl (cI, 5, .inl n_a_cupDays)), ((a 26), .inl (cI, 5, .inl n_a_snapDays))] s.heap.size = A at hD ⊢
  have hA : ∀ q : Nat, s.heap.size ≤ q → A q := fun q h => by rw [← hAe]; exact Or.inr h
  have hS : va_S A s.heap s.heap [] := va_S.rf
  clear hAe hD0
  have hl := lv_entry ([.ref (a 0)]) (n := 1) (Nat.le_of_ble_eq_true rfl)
  rw [lg_entry_eq]
  generalize (lg_sl ([.ref (a 0)]) ++ List.replicate (1 - (lg_sl ([.ref (a 0)])).length) Slot.unset).toArray = ls at hl ⊢
  have hl : lv_has ls 1 [(0, .ref (a 0))] := hl
  have hP : va_P (dC, dI) vwCl [((a 0), .inr (8, [.ref (a 1), .ref (a 2), .ref (a 3), .ref (a 4), .ref (a 5), .ref (a 6), .ref (a 7), .ref (a 8), .ref (a 9), .ref (a 10), .ref (a 11), .ref (a 12), .ref (a 13), .ref (a 14), .int fk, .int fp])), ((a 4), .inr (2, [.int n_lines, .int n_days, .int n_law, .int n_odds, .int n_volts, .int n_spans, .int n_wetLines, .int n_wet, .int n_acts, .ref (a 19), .ref (a 20), .ref (a 21), .ref (a 22), .ref (a 23), .ref (a 24), .ref (a 25), .ref (a 26)])), ((a 22), .inl (cI, 30, .inl n_a_kinds)), ((a 23), .inl (cI, 30, .inl n_a_places)), ((a 24), .inl (cI, 30, .inl n_a_actDays)), ((a 25), .inl (cI, 5, .inl n_a_cupDays)), ((a 26), .inl (cI, 5, .inl n_a_snapDays))] s.heap := hP
  have hD : va_D A [((a 0), .inr (8, [.ref (a 1), .ref (a 2), .ref (a 3), .ref (a 4), .ref (a 5), .ref (a 6), .ref (a 7), .ref (a 8), .ref (a 9), .ref (a 10), .ref (a 11), .ref (a 12), .ref (a 13), .ref (a 14), .int fk, .int fp])), ((a 4), .inr (2, [.int n_lines, .int n_days, .int n_law, .int n_odds, .int n_volts, .int n_spans, .int n_wetLines, .int n_wet, .int n_acts, .ref (a 19), .ref (a 20), .ref (a 21), .ref (a 22), .ref (a 23), .ref (a 24), .ref (a 25), .ref (a 26)])), ((a 22), .inl (cI, 30, .inl n_a_kinds)), ((a 23), .inl (cI, 30, .inl n_a_places)), ((a 24), .inl (cI, 30, .inl n_a_actDays)), ((a 25), .inl (cI, 5, .inl n_a_cupDays)), ((a 26), .inl (cI, 5, .inl n_a_snapDays))] := hD
  refine lv_aload_n hx hb dX8_undo_0 rfl (lv_at hl 0 rfl) ?_
  have hPc := hP.sub (ws' := [((a 0), .inr (8, [.ref (a 1), .ref (a 2), .ref (a 3), .ref (a 4), .ref (a 5), .ref (a 6), .ref (a 7), .ref (a 8), .ref (a 9), .ref (a 10), .ref (a 11), .ref (a 12), .ref (a 13), .ref (a 14), .int fk, .int fp])), ((a 4), .inr (2, [.int n_lines, .int n_days, .int n_law, .int n_odds, .int n_volts, .int n_spans, .int n_wetLines, .int n_wet, .int n_acts, .ref (a 19), .ref (a 20), .ref (a 21), .ref (a 22), .ref (a 23), .ref (a 24), .ref (a 25), .ref (a 26)]))]) [0, 1] rfl
  refine vp_callSi (W.runV (As := []) (rest := []) ⟨hx, hb, hml, hown, ht⟩ (s_X8_isTold l dC dI cB cI cJ cZ cL a fk fp n_lines n_days n_law n_odds n_volts n_spans n_wetLines n_wet n_acts) (cwV 0 ht (gV w_617 w_619 w_11 w_105 w_620) rfl rfl rfl (by decide +kernel) ⟨Nat.le_of_ble_eq_true rfl, Nat.le_of_ble_eq_true rfl⟩) (pVSn hN hK hPc (ci := 8) (q0 := 0) rfl rfl) rfl rfl hl.1 rfl (lv_room (Nat.le_of_ble_eq_true rfl)) dX8_undo_1 ⟨Nat.le_of_ble_eq_true rfl, Nat.le_of_ble_eq_true rfl⟩) (fun r_1 hw => ?_)
  clear hPc
  (try dsimp only at hw)
  have hw_2 := hw
  clear hw
  rcases hw_2 with ⟨hw, c_3⟩ | ⟨hw, c_3⟩
  · subst hw
    refine lv_if_ne (tgt := 10) hx hb dX8_undo_4 (by decide) (fun _ => ?_) (fun c9 => by first | exact absurd (by decide) c9 | exact absurd c9 (by decide))
    refine lv_aload_n hx hb dX8_undo_10 rfl (lv_at hl 0 rfl) ?_
    refine va_get (D := (dC, dI)) (ci := 8) (v := .ref (a 4)) (C := RX8) (T := TX8) (N := 16) hx hb ht iX8 hown hK hP 0 rfl rfl 3 (by decide) (ht _ w_378) (fun _ h9 => h9) rfl dX8_undo_11 ?_
    refine va_get (D := (dC, dI)) (ci := 2) (v := .int n_acts) (C := RX2) (T := TX2) (N := 17) hx hb ht iX2 hown hK hP 1 rfl rfl 8 (by decide) (ht _ w_230) (fun _ h9 => h9) rfl dX8_undo_14 ?_
    refine lv_if_ne (tgt := 23) hx hb dX8_undo_17 (by decide) (fun c_4 => ?_) (fun c_4 => ?_)
    · (try simp only [i_lt, i_le, i_eq, T0] at c_4)
      refine lv_aload_n hx hb dX8_undo_23 rfl (lv_at hl 0 rfl) ?_
      refine va_get (D := (dC, dI)) (ci := 8) (v := .ref (a 4)) (C := RX8) (T := TX8) (N := 16) hx hb ht iX8 hown hK hP 0 rfl rfl 3 (by decide) (ht _ w_378) (fun _ h9 => h9) rfl dX8_undo_24 ?_
      refine lv_aload_n hx hb dX8_undo_27 rfl (lv_at hl 0 rfl) ?_
      refine va_get (D := (dC, dI)) (ci := 8) (v := .ref (a 4)) (C := RX8) (T := TX8) (N := 16) hx hb ht iX8 hown hK hP 0 rfl rfl 3 (by decide) (ht _ w_378) (fun _ h9 => h9) rfl dX8_undo_28 ?_
      refine va_get (D := (dC, dI)) (ci := 2) (v := .int n_acts) (C := RX2) (T := TX2) (N := 17) hx hb ht iX2 hown hK hP 1 rfl rfl 8 (by decide) (ht _ w_230) (fun _ h9 => h9) rfl dX8_undo_31 ?_
      refine lv_iconst (v := 1) hx hb dX8_undo_34 (by decide) ?_
      refine lv_isub hx hb dX8_undo_35 ?_
      refine lv_topi (fun y_5 ey_5 => ?_)
      have ty_5 := isubF ey_5
      simp only [T1] at ty_5
      clear ey_5
      have hPc := hP.sub (ws' := [((a 4), .inr (2, [.int n_lines, .int n_days, .int n_law, .int n_odds, .int n_volts, .int n_spans, .int n_wetLines, .int n_wet, .int n_acts, .ref (a 19), .ref (a 20), .ref (a 21), .ref (a 22), .ref (a 23), .ref (a 24), .ref (a 25), .ref (a 26)])), ((a 22), .inl (cI, 30, .inl n_a_kinds)), ((a 23), .inl (cI, 30, .inl n_a_places)), ((a 24), .inl (cI, 30, .inl n_a_actDays)), ((a 25), .inl (cI, 5, .inl n_a_cupDays)), ((a 26), .inl (cI, 5, .inl n_a_snapDays))]) [1, 2, 3, 4, 5, 6] rfl
      have hDc := hD.sub (ws' := [((a 4), .inr (2, [.int n_lines, .int n_days, .int n_law, .int n_odds, .int n_volts, .int n_spans, .int n_wetLines, .int n_wet, .int n_acts, .ref (a 19), .ref (a 20), .ref (a 21), .ref (a 22), .ref (a 23), .ref (a 24), .ref (a 25), .ref (a 26)])), ((a 22), .inl (cI, 30, .inl n_a_kinds)), ((a 23), .inl (cI, 30, .inl n_a_places)), ((a 24), .inl (cI, 30, .inl n_a_actDays)), ((a 25), .inl (cI, 5, .inl n_a_cupDays)), ((a 26), .inl (cI, 5, .inl n_a_snapDays))]) [1, 2, 3, 4, 5, 6] (by decide) rfl
      have hFc := va_free (wc := [((a 4), .inr (2, [.int n_lines, .int n_days, .int n_law, .int n_odds, .int n_volts, .int n_spans, .int n_wetLines, .int n_wet, .int n_acts, .ref (a 19), .ref (a 20), .ref (a 21), .ref (a 22), .ref (a 23), .ref (a 24), .ref (a 25), .ref (a 26)])), ((a 22), .inl (cI, 30, .inl n_a_kinds)), ((a 23), .inl (cI, 30, .inl n_a_places)), ((a 24), .inl (cI, 30, .inl n_a_actDays)), ((a 25), .inl (cI, 5, .inl n_a_cupDays)), ((a 26), .inl (cI, 5, .inl n_a_snapDays))]) hD hS hA [1, 2, 3, 4, 5, 6] rfl
      refine va_callv (va_runV (As := [.int y_5]) (rest := []) ⟨hx, hb, hml, hown, ht⟩ (s_X2_keepActs l dC dI cB cI cJ cZ cL s.heap.size (a 4) (fun j => a (19 + j)) n_lines n_days n_law n_odds n_volts n_spans n_wetLines n_wet n_acts n_a_kinds n_a_places n_a_actDays n_a_cupDays n_a_snapDays y_5 (by first | assumption | omega)) (cwV 1 ht (gV w_1167 w_551 w_552 w_109 w_553) rfl rfl rfl (by decide +kernel) ⟨Nat.le_of_ble_eq_true rfl, Nat.le_of_ble_eq_true rfl⟩) (pVQn hN hK hPc hDc (ci := 2) (q0 := 0) rfl rfl) rfl rfl hl.1 rfl (lv_room (Nat.le_of_ble_eq_true rfl)) dX8_undo_36 ⟨Nat.le_of_ble_eq_true rfl, Nat.le_of_ble_eq_true rfl⟩) hS (fun q _ h => hFc q h) hFc (fun u_7 t1 H1 locs ht1 hvm hw hB hz1 hk1 hS => ?_)
      obtain ⟨z_8, z_9, z_10⟩ := u_7
      obtain ⟨hP1, hD1⟩ := hB
      rw [ht1] at hP1
      obtain ⟨hP, hD⟩ := va_join (wr := [((a 0), .inr (8, [.ref (a 1), .ref (a 2), .ref (a 3), .ref (a 4), .ref (a 5), .ref (a 6), .ref (a 7), .ref (a 8), .ref (a 9), .ref (a 10), .ref (a 11), .ref (a 12), .ref (a 13), .ref (a 14), .int fk, .int fp]))]) (w1 := [((a 4), .inr (2, [.int n_lines, .int n_days, .int n_law, .int n_odds, .int n_volts, .int n_spans, .int n_wetLines, .int n_wet, .int z_8, .ref (a 19), .ref (a 20), .ref (a 21), .ref (a 22), .ref (a 23), .ref (a 24), .ref (a 25), .ref (a 26)])), ((a 22), .inl (cI, 30, .inl n_a_kinds)), ((a 23), .inl (cI, 30, .inl n_a_places)), ((a 24), .inl (cI, 30, .inl n_a_actDays)), ((a 25), .inl (cI, 5, .inl z_9)), ((a 26), .inl (cI, 5, .inl z_10))]) hP hD [1, 2, 3, 4, 5, 6] [0] rfl rfl (by decide) (by decide) hk1 hFc hP1 hD1
      clear hFc hDc hPc hP1 hD1 hz1 hk1 hvm
      generalize H1 = H at hP hS ⊢
      have hP : va_P (dC, dI) vwCl [((a 0), .inr (8, [.ref (a 1), .ref (a 2), .ref (a 3), .ref (a 4), .ref (a 5), .ref (a 6), .ref (a 7), .ref (a 8), .ref (a 9), .ref (a 10), .ref (a 11), .ref (a 12), .ref (a 13), .ref (a 14), .int fk, .int fp])), ((a 4), .inr (2, [.int n_lines, .int n_days, .int n_law, .int n_odds, .int n_volts, .int n_spans, .int n_wetLines, .int n_wet, .int z_8, .ref (a 19), .ref (a 20), .ref (a 21), .ref (a 22), .ref (a 23), .ref (a 24), .ref (a 25), .ref (a 26)])), ((a 22), .inl (cI, 30, .inl n_a_kinds)), ((a 23), .inl (cI, 30, .inl n_a_places)), ((a 24), .inl (cI, 30, .inl n_a_actDays)), ((a 25), .inl (cI, 5, .inl z_9)), ((a 26), .inl (cI, 5, .inl z_10))] H := hP
      have hD : va_D A [((a 0), .inr (8, [.ref (a 1), .ref (a 2), .ref (a 3), .ref (a 4), .ref (a 5), .ref (a 6), .ref (a 7), .ref (a 8), .ref (a 9), .ref (a 10), .ref (a 11), .ref (a 12), .ref (a 13), .ref (a 14), .int fk, .int fp])), ((a 4), .inr (2, [.int n_lines, .int n_days, .int n_law, .int n_odds, .int n_volts, .int n_spans, .int n_wetLines, .int n_wet, .int z_8, .ref (a 19), .ref (a 20), .ref (a 21), .ref (a 22), .ref (a 23), .ref (a 24), .ref (a 25), .ref (a 26)])), ((a 22), .inl (cI, 30, .inl n_a_kinds)), ((a 23), .inl (cI, 30, .inl n_a_places)), ((a 24), .inl (cI, 30, .inl n_a_actDays)), ((a 25), .inl (cI, 5, .inl z_9)), ((a 26), .inl (cI, 5, .inl z_10))] := hD
      (try dsimp only at hw)
      have hw_11 := hw
      clear hw
      refine lv_aload_n hx hb dX8_undo_39 rfl (lv_at hl 0 rfl) ?_
      refine va_get (D := (dC, dI)) (ci := 8) (v := .ref (a 4)) (C := RX8) (T := TX8) (N := 16) hx hb ht iX8 hown hK hP 0 rfl rfl 3 (by decide) (ht _ w_378) (fun _ h9 => h9) rfl dX8_undo_40 ?_
      refine va_get (D := (dC, dI)) (ci := 2) (v := .int z_8) (C := RX2) (T := TX2) (N := 17) hx hb ht iX2 hown hK hP 1 rfl rfl 8 (by decide) (ht _ w_230) (fun _ h9 => h9) rfl dX8_undo_43 ?_
      have hP9 := hP.sub (ws' := [((a 0), .inr (8, [.ref (a 1), .ref (a 2), .ref (a 3), .ref (a 4), .ref (a 5), .ref (a 6), .ref (a 7), .ref (a 8), .ref (a 9), .ref (a 10), .ref (a 11), .ref (a 12), .ref (a 13), .ref (a 14), .int fk, .int fp])), ((a 4), .inr (2, [.int n_lines, .int n_days, .int n_law, .int n_odds, .int n_volts, .int n_spans, .int n_wetLines, .int n_wet, .int z_8, .ref (a 19), .ref (a 20), .ref (a 21), .ref (a 22), .ref (a 23), .ref (a 24), .ref (a 25), .ref (a 26)])), ((a 22), .inl (cI, 30, .inl n_a_kinds)), ((a 23), .inl (cI, 30, .inl n_a_places)), ((a 24), .inl (cI, 30, .inl n_a_actDays)), ((a 25), .inl (cI, 5, .inl z_9)), ((a 26), .inl (cI, 5, .inl z_10))]) [0, 1, 2, 3, 4, 5, 6] rfl
      have hD9 := hD.sub (ws' := [((a 0), .inr (8, [.ref (a 1), .ref (a 2), .ref (a 3), .ref (a 4), .ref (a 5), .ref (a 6), .ref (a 7), .ref (a 8), .ref (a 9), .ref (a 10), .ref (a 11), .ref (a 12), .ref (a 13), .ref (a 14), .int fk, .int fp])), ((a 4), .inr (2, [.int n_lines, .int n_days, .int n_law, .int n_odds, .int n_volts, .int n_spans, .int n_wetLines, .int n_wet, .int z_8, .ref (a 19), .ref (a 20), .ref (a 21), .ref (a 22), .ref (a 23), .ref (a 24), .ref (a 25), .ref (a 26)])), ((a 22), .inl (cI, 30, .inl n_a_kinds)), ((a 23), .inl (cI, 30, .inl n_a_places)), ((a 24), .inl (cI, 30, .inl n_a_actDays)), ((a 25), .inl (cI, 5, .inl z_9)), ((a 26), .inl (cI, 5, .inl z_10))]) [0, 1, 2, 3, 4, 5, 6] (by decide) rfl
      exact W.iret (v := z_8) hx hb hr (fun t ht hW => ⟨⟨z_8, (z_8, z_9, z_10), rfl, ⟨(by first | omega | assumption | (dsimp only; done) | (dsimp only; omega) | (dsimp only; assumption) | (have e0 := T0; dsimp only; omega) | (have e0 := T0; omega)), (by first | omega | assumption | (dsimp only; done) | (dsimp only; omega) | (dsimp only; assumption) | (have e0 := T0; dsimp only; omega) | (have e0 := T0; omega))⟩, ⟨by rw [ht]; exact hP9, hD9⟩⟩, hS.F ht⟩) hS.2.2 dX8_undo_46
    · (try simp only [i_lt, i_le, i_eq, T0] at c_4)
      refine lv_bipush (v := (-5)) hx hb dX8_undo_20 (by decide) ?_
      have hP9 := hP.sub (ws' := [((a 0), .inr (8, [.ref (a 1), .ref (a 2), .ref (a 3), .ref (a 4), .ref (a 5), .ref (a 6), .ref (a 7), .ref (a 8), .ref (a 9), .ref (a 10), .ref (a 11), .ref (a 12), .ref (a 13), .ref (a 14), .int fk, .int fp])), ((a 4), .inr (2, [.int n_lines, .int n_days, .int n_law, .int n_odds, .int n_volts, .int n_spans, .int n_wetLines, .int n_wet, .int n_acts, .ref (a 19), .ref (a 20), .ref (a 21), .ref (a 22), .ref (a 23), .ref (a 24), .ref (a 25), .ref (a 26)])), ((a 22), .inl (cI, 30, .inl n_a_kinds)), ((a 23), .inl (cI, 30, .inl n_a_places)), ((a 24), .inl (cI, 30, .inl n_a_actDays)), ((a 25), .inl (cI, 5, .inl n_a_cupDays)), ((a 26), .inl (cI, 5, .inl n_a_snapDays))]) [0, 1, 2, 3, 4, 5, 6] rfl
      have hD9 := hD.sub (ws' := [((a 0), .inr (8, [.ref (a 1), .ref (a 2), .ref (a 3), .ref (a 4), .ref (a 5), .ref (a 6), .ref (a 7), .ref (a 8), .ref (a 9), .ref (a 10), .ref (a 11), .ref (a 12), .ref (a 13), .ref (a 14), .int fk, .int fp])), ((a 4), .inr (2, [.int n_lines, .int n_days, .int n_law, .int n_odds, .int n_volts, .int n_spans, .int n_wetLines, .int n_wet, .int n_acts, .ref (a 19), .ref (a 20), .ref (a 21), .ref (a 22), .ref (a 23), .ref (a 24), .ref (a 25), .ref (a 26)])), ((a 22), .inl (cI, 30, .inl n_a_kinds)), ((a 23), .inl (cI, 30, .inl n_a_places)), ((a 24), .inl (cI, 30, .inl n_a_actDays)), ((a 25), .inl (cI, 5, .inl n_a_cupDays)), ((a 26), .inl (cI, 5, .inl n_a_snapDays))]) [0, 1, 2, 3, 4, 5, 6] (by decide) rfl
      exact W.iret (v := (-5)) hx hb hr (fun t ht hW => ⟨⟨(-5), (n_acts, n_a_cupDays, n_a_snapDays), rfl, ⟨(by first | omega | assumption | (dsimp only; done) | (dsimp only; omega) | (dsimp only; assumption) | (have e0 := T0; dsimp only; omega) | (have e0 := T0; omega)), (by first | omega | assumption | (dsimp only; done) | (dsimp only; omega) | (dsimp only; assumption) | (have e0 := T0; dsimp only; omega) | (have e0 := T0; omega))⟩, ⟨by rw [ht]; exact hP9, hD9⟩⟩, hS.F ht⟩) hS.2.2 dX8_undo_22
  · subst hw
    refine lv_if_ne (tgt := 10) hx hb dX8_undo_4 (by decide) (fun c9 => by first | exact absurd c9 (by decide) | exact absurd (by decide) c9) (fun _ => ?_)
    refine lv_bipush (v := (-2)) hx hb dX8_undo_7 (by decide) ?_
    have hP9 := hP.sub (ws' := [((a 0), .inr (8, [.ref (a 1), .ref (a 2), .ref (a 3), .ref (a 4), .ref (a 5), .ref (a 6), .ref (a 7), .ref (a 8), .ref (a 9), .ref (a 10), .ref (a 11), .ref (a 12), .ref (a 13), .ref (a 14), .int fk, .int fp])), ((a 4), .inr (2, [.int n_lines, .int n_days, .int n_law, .int n_odds, .int n_volts, .int n_spans, .int n_wetLines, .int n_wet, .int n_acts, .ref (a 19), .ref (a 20), .ref (a 21), .ref (a 22), .ref (a 23), .ref (a 24), .ref (a 25), .ref (a 26)])), ((a 22), .inl (cI, 30, .inl n_a_kinds)), ((a 23), .inl (cI, 30, .inl n_a_places)), ((a 24), .inl (cI, 30, .inl n_a_actDays)), ((a 25), .inl (cI, 5, .inl n_a_cupDays)), ((a 26), .inl (cI, 5, .inl n_a_snapDays))]) [0, 1, 2, 3, 4, 5, 6] rfl
    have hD9 := hD.sub (ws' := [((a 0), .inr (8, [.ref (a 1), .ref (a 2), .ref (a 3), .ref (a 4), .ref (a 5), .ref (a 6), .ref (a 7), .ref (a 8), .ref (a 9), .ref (a 10), .ref (a 11), .ref (a 12), .ref (a 13), .ref (a 14), .int fk, .int fp])), ((a 4), .inr (2, [.int n_lines, .int n_days, .int n_law, .int n_odds, .int n_volts, .int n_spans, .int n_wetLines, .int n_wet, .int n_acts, .ref (a 19), .ref (a 20), .ref (a 21), .ref (a 22), .ref (a 23), .ref (a 24), .ref (a 25), .ref (a 26)])), ((a 22), .inl (cI, 30, .inl n_a_kinds)), ((a 23), .inl (cI, 30, .inl n_a_places)), ((a 24), .inl (cI, 30, .inl n_a_actDays)), ((a 25), .inl (cI, 5, .inl n_a_cupDays)), ((a 26), .inl (cI, 5, .inl n_a_snapDays))]) [0, 1, 2, 3, 4, 5, 6] (by decide) rfl
    exact W.iret (v := (-2)) hx hb hr (fun t ht hW => ⟨⟨(-2), (n_acts, n_a_cupDays, n_a_snapDays), rfl, ⟨(by first | omega | assumption | (dsimp only; done) | (dsimp only; omega) | (dsimp only; assumption) | (have e0 := T0; dsimp only; omega) | (have e0 := T0; omega)), (by first | omega | assumption | (dsimp only; done) | (dsimp only; omega) | (dsimp only; assumption) | (have e0 := T0; dsimp only; omega) | (have e0 := T0; omega))⟩, ⟨by rw [ht]; exact hP9, hD9⟩⟩, hS.F ht⟩) hS.2.2 dX8_undo_9
set_option maxHeartbeats 8000000 in
set_option maxRecDepth 100000 in
theorem s_X8_anew (l : Launch) (dC : Nat → ClassId) (dI : Nat → Nat → Nat) (cB cI cJ cZ cL : ClassId) (sz : Nat) (a : Nat → Nat) (fk : Int32) (fp : Int32) (n_lines : Int32) (n_days : Int32) (n_law : Int32) (n_odds : Int32) (n_volts : Int32) (n_spans : Int32) (n_wetLines : Int32) (n_wet : Int32) (n_acts : Int32) (n_a_kinds : Nat → Int32) (n_a_places : Nat → Int32) (n_a_actDays : Nat → Int32) (n_a_cupDays : Nat → Int32) (n_a_snapDays : Nat → Int32)  (hac : 0 ≤ Int32.toInt n_acts ∧ Int32.toInt n_acts ≤ 30) (hpl : ∀ i : Nat, 0 ≤ Int32.toInt (n_a_places i) ∧ Int32.toInt (n_a_places i) ≤ 4) : Met l yX8_anew (wy yX8_anew cX8_anew 2 (some .int)) ({ frames := 2, cells := 0, slots := 0, locals := 80 }) (va_Pc [.ref (a 0)] (fun U => U.heap.size = sz ∧ va_P (dC, dI) vwCl [((a 0), .inr (8, [.ref (a 1), .ref (a 2), .ref (a 3), .ref (a 4), .ref (a 5), .ref (a 6), .ref (a 7), .ref (a 8), .ref (a 9), .ref (a 10), .ref (a 11), .ref (a 12), .ref (a 13), .ref (a 14), .int fk, .int fp])), ((a 4), .inr (2, [.int n_lines, .int n_days, .int n_law, .int n_odds, .int n_volts, .int n_spans, .int n_wetLines, .int n_wet, .int n_acts, .ref (a 19), .ref (a 20), .ref (a 21), .ref (a 22), .ref (a 23), .ref (a 24), .ref (a 25), .ref (a 26)])), ((a 22), .inl (cI, 30, .inl n_a_kinds)), ((a 23), .inl (cI, 30, .inl n_a_places)), ((a 24), .inl (cI, 30, .inl n_a_actDays)), ((a 25), .inl (cI, 5, .inl n_a_cupDays)), ((a 26), .inl (cI, 5, .inl n_a_snapDays))] U.heap ∧ va_K (dC, dI) vwCl (tyL cB cI cJ cZ cL) U ∧ va_D (fun _ => True) [((a 0), .inr (8, [.ref (a 1), .ref (a 2), .ref (a 3), .ref (a 4), .ref (a 5), .ref (a 6), .ref (a 7), .ref (a 8), .ref (a 9), .ref (a 10), .ref (a 11), .ref (a 12), .ref (a 13), .ref (a 14), .int fk, .int fp])), ((a 4), .inr (2, [.int n_lines, .int n_days, .int n_law, .int n_odds, .int n_volts, .int n_spans, .int n_wetLines, .int n_wet, .int n_acts, .ref (a 19), .ref (a 20), .ref (a 21), .ref (a 22), .ref (a 23), .ref (a 24), .ref (a 25), .ref (a 26)])), ((a 22), .inl (cI, 30, .inl n_a_kinds)), ((a 23), .inl (cI, 30, .inl n_a_places)), ((a 24), .inl (cI, 30, .inl n_a_actDays)), ((a 25), .inl (cI, 5, .inl n_a_cupDays)), ((a 26), .inl (cI, 5, .inl n_a_snapDays))] ∧ NW U)) (va_Qi (fun r u => 0 ≤ Int32.toInt u.1 ∧ Int32.toInt u.1 ≤ 30) (fun (u : (Int32) × (Nat → Int32) × (Nat → Int32)) t => va_P (dC, dI) vwCl [((a 0), .inr (8, [.ref (a 1), .ref (a 2), .ref (a 3), .ref (a 4), .ref (a 5), .ref (a 6), .ref (a 7), .ref (a 8), .ref (a 9), .ref (a 10), .ref (a 11), .ref (a 12), .ref (a 13), .ref (a 14), .int fk, .int fp])), ((a 4), .inr (2, [.int n_lines, .int n_days, .int n_law, .int n_odds, .int n_volts, .int n_spans, .int n_wetLines, .int n_wet, .int u.1, .ref (a 19), .ref (a 20), .ref (a 21), .ref (a 22), .ref (a 23), .ref (a 24), .ref (a 25), .ref (a 26)])), ((a 22), .inl (cI, 30, .inl n_a_kinds)), ((a 23), .inl (cI, 30, .inl n_a_places)), ((a 24), .inl (cI, 30, .inl n_a_actDays)), ((a 25), .inl (cI, 5, .inl u.2.1)), ((a 26), .inl (cI, 5, .inl u.2.2))] t.heap ∧ va_D (va_A [((a 0), .inr (8, [.ref (a 1), .ref (a 2), .ref (a 3), .ref (a 4), .ref (a 5), .ref (a 6), .ref (a 7), .ref (a 8), .ref (a 9), .ref (a 10), .ref (a 11), .ref (a 12), .ref (a 13), .ref (a 14), .int fk, .int fp])), ((a 4), .inr (2, [.int n_lines, .int n_days, .int n_law, .int n_odds, .int n_volts, .int n_spans, .int n_wetLines, .int n_wet, .int n_acts, .ref (a 19), .ref (a 20), .ref (a 21), .ref (a 22), .ref (a 23), .ref (a 24), .ref (a 25), .ref (a 26)])), ((a 22), .inl (cI, 30, .inl n_a_kinds)), ((a 23), .inl (cI, 30, .inl n_a_places)), ((a 24), .inl (cI, 30, .inl n_a_actDays)), ((a 25), .inl (cI, 5, .inl n_a_cupDays)), ((a 26), .inl (cI, 5, .inl n_a_snapDays))] sz) [((a 0), .inr (8, [.ref (a 1), .ref (a 2), .ref (a 3), .ref (a 4), .ref (a 5), .ref (a 6), .ref (a 7), .ref (a 8), .ref (a 9), .ref (a 10), .ref (a 11), .ref (a 12), .ref (a 13), .ref (a 14), .int fk, .int fp])), ((a 4), .inr (2, [.int n_lines, .int n_days, .int n_law, .int n_odds, .int n_volts, .int n_spans, .int n_wetLines, .int n_wet, .int u.1, .ref (a 19), .ref (a 20), .ref (a 21), .ref (a 22), .ref (a 23), .ref (a 24), .ref (a 25), .ref (a 26)])), ((a 22), .inl (cI, 30, .inl n_a_kinds)), ((a 23), .inl (cI, 30, .inl n_a_places)), ((a 24), .inl (cI, 30, .inl n_a_actDays)), ((a 25), .inl (cI, 5, .inl u.2.1)), ((a 26), .inl (cI, 5, .inl u.2.2))]) (va_A [((a 0), .inr (8, [.ref (a 1), .ref (a 2), .ref (a 3), .ref (a 4), .ref (a 5), .ref (a 6), .ref (a 7), .ref (a 8), .ref (a 9), .ref (a 10), .ref (a 11), .ref (a 12), .ref (a 13), .ref (a 14), .int fk, .int fp])), ((a 4), .inr (2, [.int n_lines, .int n_days, .int n_law, .int n_odds, .int n_volts, .int n_spans, .int n_wetLines, .int n_wet, .int n_acts, .ref (a 19), .ref (a 20), .ref (a 21), .ref (a 22), .ref (a 23), .ref (a 24), .ref (a 25), .ref (a 26)])), ((a 22), .inl (cI, 30, .inl n_a_kinds)), ((a 23), .inl (cI, 30, .inl n_a_places)), ((a 24), .inl (cI, 30, .inl n_a_actDays)), ((a 25), .inl (cI, 5, .inl n_a_cupDays)), ((a 26), .inl (cI, 5, .inl n_a_snapDays))] sz)) 0 0 (va_A [((a 0), .inr (8, [.ref (a 1), .ref (a 2), .ref (a 3), .ref (a 4), .ref (a 5), .ref (a 6), .ref (a 7), .ref (a 8), .ref (a 9), .ref (a 10), .ref (a 11), .ref (a 12), .ref (a 13), .ref (a 14), .int fk, .int fp])), ((a 4), .inr (2, [.int n_lines, .int n_days, .int n_law, .int n_odds, .int n_volts, .int n_spans, .int n_wetLines, .int n_wet, .int n_acts, .ref (a 19), .ref (a 20), .ref (a 21), .ref (a 22), .ref (a 23), .ref (a 24), .ref (a 25), .ref (a 26)])), ((a 22), .inl (cI, 30, .inl n_a_kinds)), ((a 23), .inl (cI, 30, .inl n_a_places)), ((a 24), .inl (cI, 30, .inl n_a_actDays)), ((a 25), .inl (cI, 5, .inl n_a_cupDays)), ((a 26), .inl (cI, 5, .inl n_a_snapDays))] sz) := by
  refine Met.ofW (cc := cX8_anew) (maxL := 2) (ret := (some .int)) (by decide) rfl ?_
  intro p e s m args below meth c s₁ B hml hv
  obtain ⟨rfl, hsz, hP, hK, hD0, hN⟩ := hv
  have hx := B.exec
  have hb := B.bytes
  have hr := B.returns
  have ht : ∀ w ∈ lw_ok, w.before _ s = true := fun w h => atoms_spec (ws := wy yX8_anew cX8_anew 2 (some .int)) B.pre w (List.mem_cons_of_mem _ h)
  have hown : s.vm.findClass RX8 = some m.cls := findClass_of_methodNamed B.named
  have hlocks := B.notSynchronized
  subst hsz
  have hD := hD0.self (sz := s.heap.size)
  generalize hAe : va_A [((a 0), .inr (8, [.ref (a 1), .ref (a 2), .ref (a 3), .ref (a 4), .ref (a 5), .ref (a 6), .ref (a 7), .ref (a 8), .ref (a 9), .ref (a 10), .ref (a 11), .ref (a 12), .ref (a 13), .ref (a 14), .int fk, .int fp])), ((a 4), .inr (2, [.int n_lines, .int n_days, .int n_law, .int n_odds, .int n_volts, .int n_spans, .int n_wetLines, .int n_wet, .int n_acts, .ref (a 19), .ref (a 20), .ref (a 21), .ref (a 22), .ref (a 23), .ref (a 24), .ref (a 25), .ref (a 26)])), ((a 22), .inl (cI, 30, .inl n_a_kinds)), ((a 23), .inl (cI, 30, .inl n_a_places)), ((a 24), .inl (cI, 30, .inl n_a_actDays)), ((a 25), .inl (cI, 5, .inl n_a_cupDays)), ((a 26), .inl (cI, 5, .inl n_a_snapDays))] s.heap.size = A at hD ⊢
  have hA : ∀ q : Nat, s.heap.size ≤ q → A q := fun q h => by rw [← hAe]; exact Or.inr h
  have hS : va_S A s.heap s.heap [] := va_S.rf
  clear hAe hD0
  have hl := lv_entry ([.ref (a 0)]) (n := 2) (Nat.le_of_ble_eq_true rfl)
  rw [lg_entry_eq]
  generalize (lg_sl ([.ref (a 0)]) ++ List.replicate (2 - (lg_sl ([.ref (a 0)])).length) Slot.unset).toArray = ls at hl ⊢
  have hl : lv_has ls 2 [(0, .ref (a 0))] := hl
  have hP : va_P (dC, dI) vwCl [((a 0), .inr (8, [.ref (a 1), .ref (a 2), .ref (a 3), .ref (a 4), .ref (a 5), .ref (a 6), .ref (a 7), .ref (a 8), .ref (a 9), .ref (a 10), .ref (a 11), .ref (a 12), .ref (a 13), .ref (a 14), .int fk, .int fp])), ((a 4), .inr (2, [.int n_lines, .int n_days, .int n_law, .int n_odds, .int n_volts, .int n_spans, .int n_wetLines, .int n_wet, .int n_acts, .ref (a 19), .ref (a 20), .ref (a 21), .ref (a 22), .ref (a 23), .ref (a 24), .ref (a 25), .ref (a 26)])), ((a 22), .inl (cI, 30, .inl n_a_kinds)), ((a 23), .inl (cI, 30, .inl n_a_places)), ((a 24), .inl (cI, 30, .inl n_a_actDays)), ((a 25), .inl (cI, 5, .inl n_a_cupDays)), ((a 26), .inl (cI, 5, .inl n_a_snapDays))] s.heap := hP
  have hD : va_D A [((a 0), .inr (8, [.ref (a 1), .ref (a 2), .ref (a 3), .ref (a 4), .ref (a 5), .ref (a 6), .ref (a 7), .ref (a 8), .ref (a 9), .ref (a 10), .ref (a 11), .ref (a 12), .ref (a 13), .ref (a 14), .int fk, .int fp])), ((a 4), .inr (2, [.int n_lines, .int n_days, .int n_law, .int n_odds, .int n_volts, .int n_spans, .int n_wetLines, .int n_wet, .int n_acts, .ref (a 19), .ref (a 20), .ref (a 21), .ref (a 22), .ref (a 23), .ref (a 24), .ref (a 25), .ref (a 26)])), ((a 22), .inl (cI, 30, .inl n_a_kinds)), ((a 23), .inl (cI, 30, .inl n_a_places)), ((a 24), .inl (cI, 30, .inl n_a_actDays)), ((a 25), .inl (cI, 5, .inl n_a_cupDays)), ((a 26), .inl (cI, 5, .inl n_a_snapDays))] := hD
  refine lv_aload_n hx hb dX8_anew_0 rfl (lv_at hl 0 rfl) ?_
  have hPc := hP.sub (ws' := [((a 0), .inr (8, [.ref (a 1), .ref (a 2), .ref (a 3), .ref (a 4), .ref (a 5), .ref (a 6), .ref (a 7), .ref (a 8), .ref (a 9), .ref (a 10), .ref (a 11), .ref (a 12), .ref (a 13), .ref (a 14), .int fk, .int fp])), ((a 4), .inr (2, [.int n_lines, .int n_days, .int n_law, .int n_odds, .int n_volts, .int n_spans, .int n_wetLines, .int n_wet, .int n_acts, .ref (a 19), .ref (a 20), .ref (a 21), .ref (a 22), .ref (a 23), .ref (a 24), .ref (a 25), .ref (a 26)]))]) [0, 1] rfl
  refine vp_callSi (W.runV (As := []) (rest := []) ⟨hx, hb, hml, hown, ht⟩ (s_X8_isTold l dC dI cB cI cJ cZ cL a fk fp n_lines n_days n_law n_odds n_volts n_spans n_wetLines n_wet n_acts) (cwV 0 ht (gV w_617 w_619 w_11 w_105 w_620) rfl rfl rfl (by decide +kernel) ⟨Nat.le_of_ble_eq_true rfl, Nat.le_of_ble_eq_true rfl⟩) (pVSn hN hK hPc (ci := 8) (q0 := 0) rfl rfl) rfl rfl hl.1 rfl (lv_room (Nat.le_of_ble_eq_true rfl)) dX8_anew_1 ⟨Nat.le_of_ble_eq_true rfl, Nat.le_of_ble_eq_true rfl⟩) (fun r_1 hw => ?_)
  clear hPc
  (try dsimp only at hw)
  have hw_2 := hw
  clear hw
  rcases hw_2 with ⟨hw, c_3⟩ | ⟨hw, c_3⟩
  · subst hw
    refine lv_if_ne (tgt := 10) hx hb dX8_anew_4 (by decide) (fun _ => ?_) (fun c9 => by first | exact absurd (by decide) c9 | exact absurd c9 (by decide))
    refine lv_aload_n hx hb dX8_anew_10 rfl (lv_at hl 0 rfl) ?_
    refine va_get (D := (dC, dI)) (ci := 8) (v := .ref (a 4)) (C := RX8) (T := TX8) (N := 16) hx hb ht iX8 hown hK hP 0 rfl rfl 3 (by decide) (ht _ w_378) (fun _ h9 => h9) rfl dX8_anew_11 ?_
    refine va_get (D := (dC, dI)) (ci := 2) (v := .int n_acts) (C := RX2) (T := TX2) (N := 17) hx hb ht iX2 hown hK hP 1 rfl rfl 8 (by decide) (ht _ w_230) (fun _ h9 => h9) rfl dX8_anew_14 ?_
    refine lv_istore_n (lv' := [(1, .int n_acts), (0, .ref (a 0))]) hx hb dX8_anew_17 rfl hl (by decide) rfl (fun ls hl => ?_)
    refine lv_aload_n hx hb dX8_anew_18 rfl (lv_at hl 1 rfl) ?_
    refine va_get (D := (dC, dI)) (ci := 8) (v := .ref (a 4)) (C := RX8) (T := TX8) (N := 16) hx hb ht iX8 hown hK hP 0 rfl rfl 3 (by decide) (ht _ w_378) (fun _ h9 => h9) rfl dX8_anew_19 ?_
    refine lv_iconst (v := 0) hx hb dX8_anew_22 (by decide) ?_
    have hPc := hP.sub (ws' := [((a 4), .inr (2, [.int n_lines, .int n_days, .int n_law, .int n_odds, .int n_volts, .int n_spans, .int n_wetLines, .int n_wet, .int n_acts, .ref (a 19), .ref (a 20), .ref (a 21), .ref (a 22), .ref (a 23), .ref (a 24), .ref (a 25), .ref (a 26)])), ((a 22), .inl (cI, 30, .inl n_a_kinds)), ((a 23), .inl (cI, 30, .inl n_a_places)), ((a 24), .inl (cI, 30, .inl n_a_actDays)), ((a 25), .inl (cI, 5, .inl n_a_cupDays)), ((a 26), .inl (cI, 5, .inl n_a_snapDays))]) [1, 2, 3, 4, 5, 6] rfl
    have hDc := hD.sub (ws' := [((a 4), .inr (2, [.int n_lines, .int n_days, .int n_law, .int n_odds, .int n_volts, .int n_spans, .int n_wetLines, .int n_wet, .int n_acts, .ref (a 19), .ref (a 20), .ref (a 21), .ref (a 22), .ref (a 23), .ref (a 24), .ref (a 25), .ref (a 26)])), ((a 22), .inl (cI, 30, .inl n_a_kinds)), ((a 23), .inl (cI, 30, .inl n_a_places)), ((a 24), .inl (cI, 30, .inl n_a_actDays)), ((a 25), .inl (cI, 5, .inl n_a_cupDays)), ((a 26), .inl (cI, 5, .inl n_a_snapDays))]) [1, 2, 3, 4, 5, 6] (by decide) rfl
    have hFc := va_free (wc := [((a 4), .inr (2, [.int n_lines, .int n_days, .int n_law, .int n_odds, .int n_volts, .int n_spans, .int n_wetLines, .int n_wet, .int n_acts, .ref (a 19), .ref (a 20), .ref (a 21), .ref (a 22), .ref (a 23), .ref (a 24), .ref (a 25), .ref (a 26)])), ((a 22), .inl (cI, 30, .inl n_a_kinds)), ((a 23), .inl (cI, 30, .inl n_a_places)), ((a 24), .inl (cI, 30, .inl n_a_actDays)), ((a 25), .inl (cI, 5, .inl n_a_cupDays)), ((a 26), .inl (cI, 5, .inl n_a_snapDays))]) hD hS hA [1, 2, 3, 4, 5, 6] rfl
    refine va_callv (va_runV (As := [.int 0]) (rest := []) ⟨hx, hb, hml, hown, ht⟩ (s_X2_keepActs l dC dI cB cI cJ cZ cL s.heap.size (a 4) (fun j => a (19 + j)) n_lines n_days n_law n_odds n_volts n_spans n_wetLines n_wet n_acts n_a_kinds n_a_places n_a_actDays n_a_cupDays n_a_snapDays 0 (by first | assumption | omega)) (cwV 1 ht (gV w_1167 w_551 w_552 w_109 w_553) rfl rfl rfl (by decide +kernel) ⟨Nat.le_of_ble_eq_true rfl, Nat.le_of_ble_eq_true rfl⟩) (pVQn hN hK hPc hDc (ci := 2) (q0 := 0) rfl rfl) rfl rfl hl.1 rfl (lv_room (Nat.le_of_ble_eq_true rfl)) dX8_anew_23 ⟨Nat.le_of_ble_eq_true rfl, Nat.le_of_ble_eq_true rfl⟩) hS (fun q _ h => hFc q h) hFc (fun u_5 t1 H1 locs ht1 hvm hw hB hz1 hk1 hS => ?_)
    obtain ⟨z_6, z_7, z_8⟩ := u_5
    obtain ⟨hP1, hD1⟩ := hB
    rw [ht1] at hP1
    obtain ⟨hP, hD⟩ := va_join (wr := [((a 0), .inr (8, [.ref (a 1), .ref (a 2), .ref (a 3), .ref (a 4), .ref (a 5), .ref (a 6), .ref (a 7), .ref (a 8), .ref (a 9), .ref (a 10), .ref (a 11), .ref (a 12), .ref (a 13), .ref (a 14), .int fk, .int fp]))]) (w1 := [((a 4), .inr (2, [.int n_lines, .int n_days, .int n_law, .int n_odds, .int n_volts, .int n_spans, .int n_wetLines, .int n_wet, .int z_6, .ref (a 19), .ref (a 20), .ref (a 21), .ref (a 22), .ref (a 23), .ref (a 24), .ref (a 25), .ref (a 26)])), ((a 22), .inl (cI, 30, .inl n_a_kinds)), ((a 23), .inl (cI, 30, .inl n_a_places)), ((a 24), .inl (cI, 30, .inl n_a_actDays)), ((a 25), .inl (cI, 5, .inl z_7)), ((a 26), .inl (cI, 5, .inl z_8))]) hP hD [1, 2, 3, 4, 5, 6] [0] rfl rfl (by decide) (by decide) hk1 hFc hP1 hD1
    clear hFc hDc hPc hP1 hD1 hz1 hk1 hvm
    generalize H1 = H at hP hS ⊢
    have hP : va_P (dC, dI) vwCl [((a 0), .inr (8, [.ref (a 1), .ref (a 2), .ref (a 3), .ref (a 4), .ref (a 5), .ref (a 6), .ref (a 7), .ref (a 8), .ref (a 9), .ref (a 10), .ref (a 11), .ref (a 12), .ref (a 13), .ref (a 14), .int fk, .int fp])), ((a 4), .inr (2, [.int n_lines, .int n_days, .int n_law, .int n_odds, .int n_volts, .int n_spans, .int n_wetLines, .int n_wet, .int z_6, .ref (a 19), .ref (a 20), .ref (a 21), .ref (a 22), .ref (a 23), .ref (a 24), .ref (a 25), .ref (a 26)])), ((a 22), .inl (cI, 30, .inl n_a_kinds)), ((a 23), .inl (cI, 30, .inl n_a_places)), ((a 24), .inl (cI, 30, .inl n_a_actDays)), ((a 25), .inl (cI, 5, .inl z_7)), ((a 26), .inl (cI, 5, .inl z_8))] H := hP
    have hD : va_D A [((a 0), .inr (8, [.ref (a 1), .ref (a 2), .ref (a 3), .ref (a 4), .ref (a 5), .ref (a 6), .ref (a 7), .ref (a 8), .ref (a 9), .ref (a 10), .ref (a 11), .ref (a 12), .ref (a 13), .ref (a 14), .int fk, .int fp])), ((a 4), .inr (2, [.int n_lines, .int n_days, .int n_law, .int n_odds, .int n_volts, .int n_spans, .int n_wetLines, .int n_wet, .int z_6, .ref (a 19), .ref (a 20), .ref (a 21), .ref (a 22), .ref (a 23), .ref (a 24), .ref (a 25), .ref (a 26)])), ((a 22), .inl (cI, 30, .inl n_a_kinds)), ((a 23), .inl (cI, 30, .inl n_a_places)), ((a 24), .inl (cI, 30, .inl n_a_actDays)), ((a 25), .inl (cI, 5, .inl z_7)), ((a 26), .inl (cI, 5, .inl z_8))] := hD
    (try dsimp only at hw)
    have hw_9 := hw
    clear hw
    refine lv_iload_n hx hb dX8_anew_26 rfl (lv_at hl 0 rfl) ?_
    have hP9 := hP.sub (ws' := [((a 0), .inr (8, [.ref (a 1), .ref (a 2), .ref (a 3), .ref (a 4), .ref (a 5), .ref (a 6), .ref (a 7), .ref (a 8), .ref (a 9), .ref (a 10), .ref (a 11), .ref (a 12), .ref (a 13), .ref (a 14), .int fk, .int fp])), ((a 4), .inr (2, [.int n_lines, .int n_days, .int n_law, .int n_odds, .int n_volts, .int n_spans, .int n_wetLines, .int n_wet, .int z_6, .ref (a 19), .ref (a 20), .ref (a 21), .ref (a 22), .ref (a 23), .ref (a 24), .ref (a 25), .ref (a 26)])), ((a 22), .inl (cI, 30, .inl n_a_kinds)), ((a 23), .inl (cI, 30, .inl n_a_places)), ((a 24), .inl (cI, 30, .inl n_a_actDays)), ((a 25), .inl (cI, 5, .inl z_7)), ((a 26), .inl (cI, 5, .inl z_8))]) [0, 1, 2, 3, 4, 5, 6] rfl
    have hD9 := hD.sub (ws' := [((a 0), .inr (8, [.ref (a 1), .ref (a 2), .ref (a 3), .ref (a 4), .ref (a 5), .ref (a 6), .ref (a 7), .ref (a 8), .ref (a 9), .ref (a 10), .ref (a 11), .ref (a 12), .ref (a 13), .ref (a 14), .int fk, .int fp])), ((a 4), .inr (2, [.int n_lines, .int n_days, .int n_law, .int n_odds, .int n_volts, .int n_spans, .int n_wetLines, .int n_wet, .int z_6, .ref (a 19), .ref (a 20), .ref (a 21), .ref (a 22), .ref (a 23), .ref (a 24), .ref (a 25), .ref (a 26)])), ((a 22), .inl (cI, 30, .inl n_a_kinds)), ((a 23), .inl (cI, 30, .inl n_a_places)), ((a 24), .inl (cI, 30, .inl n_a_actDays)), ((a 25), .inl (cI, 5, .inl z_7)), ((a 26), .inl (cI, 5, .inl z_8))]) [0, 1, 2, 3, 4, 5, 6] (by decide) rfl
    exact W.iret (v := n_acts) hx hb hr (fun t ht hW => ⟨⟨n_acts, (z_6, z_7, z_8), rfl, ⟨(by first | omega | assumption | (dsimp only; done) | (dsimp only; omega) | (dsimp only; assumption) | (have e0 := T0; dsimp only; omega) | (have e0 := T0; omega)), (by first | omega | assumption | (dsimp only; done) | (dsimp only; omega) | (dsimp only; assumption) | (have e0 := T0; dsimp only; omega) | (have e0 := T0; omega))⟩, ⟨by rw [ht]; exact hP9, hD9⟩⟩, hS.F ht⟩) hS.2.2 dX8_anew_27
  · subst hw
    refine lv_if_ne (tgt := 10) hx hb dX8_anew_4 (by decide) (fun c9 => by first | exact absurd c9 (by decide) | exact absurd (by decide) c9) (fun _ => ?_)
    refine lv_bipush (v := (-2)) hx hb dX8_anew_7 (by decide) ?_
    have hP9 := hP.sub (ws' := [((a 0), .inr (8, [.ref (a 1), .ref (a 2), .ref (a 3), .ref (a 4), .ref (a 5), .ref (a 6), .ref (a 7), .ref (a 8), .ref (a 9), .ref (a 10), .ref (a 11), .ref (a 12), .ref (a 13), .ref (a 14), .int fk, .int fp])), ((a 4), .inr (2, [.int n_lines, .int n_days, .int n_law, .int n_odds, .int n_volts, .int n_spans, .int n_wetLines, .int n_wet, .int n_acts, .ref (a 19), .ref (a 20), .ref (a 21), .ref (a 22), .ref (a 23), .ref (a 24), .ref (a 25), .ref (a 26)])), ((a 22), .inl (cI, 30, .inl n_a_kinds)), ((a 23), .inl (cI, 30, .inl n_a_places)), ((a 24), .inl (cI, 30, .inl n_a_actDays)), ((a 25), .inl (cI, 5, .inl n_a_cupDays)), ((a 26), .inl (cI, 5, .inl n_a_snapDays))]) [0, 1, 2, 3, 4, 5, 6] rfl
    have hD9 := hD.sub (ws' := [((a 0), .inr (8, [.ref (a 1), .ref (a 2), .ref (a 3), .ref (a 4), .ref (a 5), .ref (a 6), .ref (a 7), .ref (a 8), .ref (a 9), .ref (a 10), .ref (a 11), .ref (a 12), .ref (a 13), .ref (a 14), .int fk, .int fp])), ((a 4), .inr (2, [.int n_lines, .int n_days, .int n_law, .int n_odds, .int n_volts, .int n_spans, .int n_wetLines, .int n_wet, .int n_acts, .ref (a 19), .ref (a 20), .ref (a 21), .ref (a 22), .ref (a 23), .ref (a 24), .ref (a 25), .ref (a 26)])), ((a 22), .inl (cI, 30, .inl n_a_kinds)), ((a 23), .inl (cI, 30, .inl n_a_places)), ((a 24), .inl (cI, 30, .inl n_a_actDays)), ((a 25), .inl (cI, 5, .inl n_a_cupDays)), ((a 26), .inl (cI, 5, .inl n_a_snapDays))]) [0, 1, 2, 3, 4, 5, 6] (by decide) rfl
    exact W.iret (v := (-2)) hx hb hr (fun t ht hW => ⟨⟨(-2), (n_acts, n_a_cupDays, n_a_snapDays), rfl, ⟨(by first | omega | assumption | (dsimp only; done) | (dsimp only; omega) | (dsimp only; assumption) | (have e0 := T0; dsimp only; omega) | (have e0 := T0; omega)), (by first | omega | assumption | (dsimp only; done) | (dsimp only; omega) | (dsimp only; assumption) | (have e0 := T0; dsimp only; omega) | (have e0 := T0; omega))⟩, ⟨by rw [ht]; exact hP9, hD9⟩⟩, hS.F ht⟩) hS.2.2 dX8_anew_9
set_option maxHeartbeats 8000000 in
set_option maxRecDepth 100000 in
theorem s_X5_append (l : Launch) (dC : Nat → ClassId) (dI : Nat → Nat → Nat) (cB cI cJ cZ cL : ClassId) (sz : Nat) (a : Nat → Nat) (tl : Int32) (tb : Nat → Int32) (p0 : Int32) (htl : 0 ≤ Int32.toInt tl ∧ Int32.toInt tl ≤ 500) : Met l yX5_append (wy yX5_append cX5_append 3 none) ({ frames := 0, cells := 0, slots := 0, locals := 0 }) (va_Pc [.ref (a 1), .int p0] (fun U => U.heap.size = sz ∧ va_P (dC, dI) vwCl [((a 1), .inr (5, [.ref (a 15), .int tl])), ((a 15), .inl (cB, 500, .inl tb))] U.heap ∧ va_K (dC, dI) vwCl (tyL cB cI cJ cZ cL) U ∧ va_D (fun _ => True) [((a 1), .inr (5, [.ref (a 15), .int tl])), ((a 15), .inl (cB, 500, .inl tb))] ∧ NW U)) (va_Qv (fun u => 0 ≤ Int32.toInt u.1 ∧ Int32.toInt u.1 ≤ 500) (fun (u : (Int32) × (Nat → Int32)) t => va_P (dC, dI) vwCl [((a 1), .inr (5, [.ref (a 15), .int u.1])), ((a 15), .inl (cB, 500, .inl u.2))] t.heap ∧ va_D (va_A [((a 1), .inr (5, [.ref (a 15), .int tl])), ((a 15), .inl (cB, 500, .inl tb))] sz) [((a 1), .inr (5, [.ref (a 15), .int u.1])), ((a 15), .inl (cB, 500, .inl u.2))]) (va_A [((a 1), .inr (5, [.ref (a 15), .int tl])), ((a 15), .inl (cB, 500, .inl tb))] sz)) 0 0 (va_A [((a 1), .inr (5, [.ref (a 15), .int tl])), ((a 15), .inl (cB, 500, .inl tb))] sz) := by
  refine Met.ofW (cc := cX5_append) (maxL := 3) (ret := none) (by decide) rfl ?_
  intro p e s m args below meth c s₁ B hml hv
  obtain ⟨rfl, hsz, hP, hK, hD0, hN⟩ := hv
  have hx := B.exec
  have hb := B.bytes
  have hr := B.returns
  have ht : ∀ w ∈ lw_ok, w.before _ s = true := fun w h => atoms_spec (ws := wy yX5_append cX5_append 3 none) B.pre w (List.mem_cons_of_mem _ h)
  have hown : s.vm.findClass RX5 = some m.cls := findClass_of_methodNamed B.named
  have hlocks := B.notSynchronized
  subst hsz
  have hD := hD0.self (sz := s.heap.size)
  generalize hAe : va_A [((a 1), .inr (5, [.ref (a 15), .int tl])), ((a 15), .inl (cB, 500, .inl tb))] s.heap.size = A at hD ⊢
  have hA : ∀ q : Nat, s.heap.size ≤ q → A q := fun q h => by rw [← hAe]; exact Or.inr h
  have hS : va_S A s.heap s.heap [] := va_S.rf
  clear hAe hD0
  have hl := lv_entry ([.ref (a 1), .int p0]) (n := 3) (Nat.le_of_ble_eq_true rfl)
  rw [lg_entry_eq]
  generalize (lg_sl ([.ref (a 1), .int p0]) ++ List.replicate (3 - (lg_sl ([.ref (a 1), .int p0])).length) Slot.unset).toArray = ls at hl ⊢
  have hl : lv_has ls 3 [(0, .ref (a 1)), (1, .int p0)] := hl
  have hP : va_P (dC, dI) vwCl [((a 1), .inr (5, [.ref (a 15), .int tl])), ((a 15), .inl (cB, 500, .inl tb))] s.heap := hP
  have hD : va_D A [((a 1), .inr (5, [.ref (a 15), .int tl])), ((a 15), .inl (cB, 500, .inl tb))] := hD
  have rg_p0 := rgI p0
  refine lv_bipush (v := 24) hx hb dX5_append_0 (by decide) ?_
  refine lv_istore_n (lv' := [(2, .int 24), (0, .ref (a 1)), (1, .int p0)]) hx hb dX5_append_2 rfl hl (by decide) rfl (fun ls hl => ?_)
  have lp_16 : ∀ (d : Nat) (v_6 : Int32) (wv_7 : Int32) (wv_8 : Nat → Int32) (H : Heap) (locs : List Loc) (ls : Array Slot), ((-8 ≤ Int32.toInt v_6 ∧ Int32.toInt v_6 ≤ 24) ∧ (0 ≤ Int32.toInt wv_7 ∧ Int32.toInt wv_7 ≤ 500)) → (Int32.toInt v_6 + 8).toNat < d → va_P (dC, dI) vwCl [((a 1), .inr (5, [.ref (a 15), .int wv_7])), ((a 15), .inl (cB, 500, .inl wv_8))] H → va_D A [((a 1), .inr (5, [.ref (a 15), .int wv_7])), ((a 15), .inl (cB, 500, .inl wv_8))] → va_S A s.heap H locs → lv_has ls 3 [(2, .int v_6), (0, .ref (a 1)), (1, .int p0)] → W p l e (headSpec (wy yX5_append cX5_append 3 none) ({ frames := 0, cells := 0, slots := 0, locals := 0 })).room s m ([.ref (a 1), .int p0] : List Value).toArray below meth c H locs 0 0 (MQ below (va_Qv (fun u => 0 ≤ Int32.toInt u.1 ∧ Int32.toInt u.1 ≤ 500) (fun (u : (Int32) × (Nat → Int32)) t => va_P (dC, dI) vwCl [((a 1), .inr (5, [.ref (a 15), .int u.1])), ((a 15), .inl (cB, 500, .inl u.2))] t.heap ∧ va_D A [((a 1), .inr (5, [.ref (a 15), .int u.1])), ((a 15), .inl (cB, 500, .inl u.2))]) A) ([.ref (a 1), .int p0] : List Value).toArray s 0 0 A) (F0 m 3 ls []) := by
    intro d
    induction d with
    | zero => intro v_6 wv_7 wv_8 H locs ls hI hM; exact absurd hM (Nat.not_lt_zero _)
    | succ d ih_17 =>
      intro v_6 wv_7 wv_8 H locs ls hI hM hP hD hS hl
      refine lv_iload_n hx hb dX5_append_3 rfl (lv_at hl 0 rfl) ?_
      refine lv_if_lt (tgt := 46) hx hb dX5_append_4 (by decide) (fun c_18 => ?_) (fun c_18 => ?_)
      · (try simp only [i_lt, i_le, i_eq, T0] at c_18)
        have hP9 := hP.sub (ws' := [((a 1), .inr (5, [.ref (a 15), .int wv_7])), ((a 15), .inl (cB, 500, .inl wv_8))]) [0, 1] rfl
        have hD9 := hD.sub (ws' := [((a 1), .inr (5, [.ref (a 15), .int wv_7])), ((a 15), .inl (cB, 500, .inl wv_8))]) [0, 1] (by decide) rfl
        exact W.vret hx hb hr (fun t ht hW => ⟨⟨(wv_7, wv_8), rfl, ⟨(by first | omega | assumption | (dsimp only; done) | (dsimp only; omega) | (dsimp only; assumption) | (have e0 := T0; dsimp only; omega) | (have e0 := T0; omega)), (by first | omega | assumption | (dsimp only; done) | (dsimp only; omega) | (dsimp only; assumption) | (have e0 := T0; dsimp only; omega) | (have e0 := T0; omega))⟩, ⟨by rw [ht]; exact hP9, hD9⟩⟩, hS.F ht⟩) hS.2.2 dX5_append_46
      · (try simp only [i_lt, i_le, i_eq, T0] at c_18)
        refine lv_aload_n hx hb dX5_append_7 rfl (lv_at hl 1 rfl) ?_
        refine va_get (D := (dC, dI)) (ci := 5) (v := .int wv_7) (C := RX5) (T := TX5) (N := 2) hx hb ht iX5 hown hK hP 0 rfl rfl 1 (by decide) (ht _ w_138) (fun _ h9 => h9) rfl dX5_append_8 ?_
        refine lv_sipush (v := 500) hx hb dX5_append_11 (by decide) ?_
        refine lv_icmp_ge (tgt := 46) hx hb dX5_append_14 (by decide) (fun c_19 => ?_) (fun c_19 => ?_)
        · (try simp only [i_lt, i_le, i_eq, T500] at c_19)
          have hP9 := hP.sub (ws' := [((a 1), .inr (5, [.ref (a 15), .int wv_7])), ((a 15), .inl (cB, 500, .inl wv_8))]) [0, 1] rfl
          have hD9 := hD.sub (ws' := [((a 1), .inr (5, [.ref (a 15), .int wv_7])), ((a 15), .inl (cB, 500, .inl wv_8))]) [0, 1] (by decide) rfl
          exact W.vret hx hb hr (fun t ht hW => ⟨⟨(wv_7, wv_8), rfl, ⟨(by first | omega | assumption | (dsimp only; done) | (dsimp only; omega) | (dsimp only; assumption) | (have e0 := T0; dsimp only; omega) | (have e0 := T0; omega)), (by first | omega | assumption | (dsimp only; done) | (dsimp only; omega) | (dsimp only; assumption) | (have e0 := T0; dsimp only; omega) | (have e0 := T0; omega))⟩, ⟨by rw [ht]; exact hP9, hD9⟩⟩, hS.F ht⟩) hS.2.2 dX5_append_46
        · (try simp only [i_lt, i_le, i_eq, T500] at c_19)
          refine lv_aload_n hx hb dX5_append_17 rfl (lv_at hl 1 rfl) ?_
          refine va_get (D := (dC, dI)) (ci := 5) (v := .ref (a 15)) (C := RX5) (T := TX5) (N := 2) hx hb ht iX5 hown hK hP 0 rfl rfl 0 (by decide) (ht _ w_137) (fun _ h9 => h9) rfl dX5_append_18 ?_
          refine lv_aload_n hx hb dX5_append_21 rfl (lv_at hl 1 rfl) ?_
          refine va_get (D := (dC, dI)) (ci := 5) (v := .int wv_7) (C := RX5) (T := TX5) (N := 2) hx hb ht iX5 hown hK hP 0 rfl rfl 1 (by decide) (ht _ w_138) (fun _ h9 => h9) rfl dX5_append_22 ?_
          refine lv_iload_n hx hb dX5_append_25 rfl (lv_at hl 2 rfl) ?_
          refine lv_iload_n hx hb dX5_append_26 rfl (lv_at hl 0 rfl) ?_
          refine lv_ishr hx hb dX5_append_27 ?_
          refine lv_topi (fun y_20 ey_20 => ?_)
          clear ey_20
          refine lv_i2b hx hb dX5_append_28 rfl ?_
          refine lv_topi (fun y_21 ey_21 => ?_)
          clear ey_21
          refine va_bast hx hb hK hP hD hS 1 0 rfl rfl (vp_in_iff.mpr (by omega)) dX5_append_29 (fun H locs hP hD hS => ?_)
          obtain ⟨f_22, ef_22⟩ : ∃ z : Nat → Int32, z = upd wv_8 (Int32.toNatClampNeg wv_7) (vp_nar .byte y_21) := ⟨_, rfl⟩
          rw [← ef_22] at hP hD
          clear ef_22
          have hP : va_P (dC, dI) vwCl [((a 1), .inr (5, [.ref (a 15), .int wv_7])), ((a 15), .inl (cB, 500, .inl f_22))] H := hP
          have hD : va_D A [((a 1), .inr (5, [.ref (a 15), .int wv_7])), ((a 15), .inl (cB, 500, .inl f_22))] := hD
          refine lv_aload_n hx hb dX5_append_30 rfl (lv_at hl 1 rfl) ?_
          refine lv_dup hx hb dX5_append_31 rfl ?_
          refine va_get (D := (dC, dI)) (ci := 5) (v := .int wv_7) (C := RX5) (T := TX5) (N := 2) hx hb ht iX5 hown hK hP 0 rfl rfl 1 (by decide) (ht _ w_138) (fun _ h9 => h9) rfl dX5_append_32 ?_
          refine lv_iconst (v := 1) hx hb dX5_append_35 (by decide) ?_
          refine lv_iadd hx hb dX5_append_36 ?_
          refine lv_topi (fun y_23 ey_23 => ?_)
          have ty_23 := iaddF ey_23
          simp only [T1] at ty_23
          clear ey_23
          refine va_put (D := (dC, dI)) (ci := 5) (v := .int y_23) (ty := .int) (C := RX5) (T := TX5) (N := 2) hx hb ht iX5 tyX5 tyX5_ok nmX5 hown hK hP hD hS 0 rfl rfl 1 (by decide) (ht _ w_138) (fun _ h9 => h9) rfl (by decide +kernel) rfl rfl (Nat.le_of_ble_eq_true rfl) dX5_append_37 (fun H locs hP hD hS => ?_)
          have hP : va_P (dC, dI) vwCl [((a 1), .inr (5, [.ref (a 15), .int y_23])), ((a 15), .inl (cB, 500, .inl f_22))] H := hP
          have hD : va_D A [((a 1), .inr (5, [.ref (a 15), .int y_23])), ((a 15), .inl (cB, 500, .inl f_22))] := hD
          obtain ⟨y_24, ey_24⟩ : ∃ z : Int32, z = v_6 + (-8) := ⟨_, rfl⟩
          have ty_24 := iaddF ey_24
          simp only [Tm8] at ty_24
          refine lv_iinc (v := y_24) (lv' := [(2, .int y_24), (0, .ref (a 1)), (1, .int p0)]) hx hb dX5_append_40 hl (k := 0) rfl (by rw [ey_24]; rfl) (by decide) rfl (fun ls hl => ?_)
          clear ey_24
          refine lv_goto (tgt := 3) hx hb dX5_append_43 (by decide) ?_
          exact ih_17 y_24 y_23 f_22 _ _ _ ⟨(by first | omega | assumption), (by first | omega | assumption)⟩ (by omega) (hP.sub (ws' := [((a 1), .inr (5, [.ref (a 15), .int y_23])), ((a 15), .inl (cB, 500, .inl f_22))]) [0, 1] rfl) (hD.sub (ws' := [((a 1), .inr (5, [.ref (a 15), .int y_23])), ((a 15), .inl (cB, 500, .inl f_22))]) [0, 1] (by decide) rfl) hS (lv_sub hl [0, 1, 2] rfl)
  exact lp_16 _ 24 tl tb _ _ _ ⟨(by first | omega | decide | assumption), (by first | omega | decide | assumption)⟩ (Nat.lt_succ_self _) hP hD hS (lv_sub hl [0, 1, 2] rfl)
set_option maxHeartbeats 8000000 in
set_option maxRecDepth 100000 in
theorem s_X8_feed (l : Launch) (dC : Nat → ClassId) (dI : Nat → Nat → Nat) (cB cI cJ cZ cL : ClassId) (sz : Nat) (a : Nat → Nat) (fk : Int32) (fp : Int32) (tl : Int32) (tb : Nat → Int32) (p0 : Int32) (p1 : Int32) (p2 : Int32) (p3 : Int32) (p4 : Int32) (htl : 0 ≤ Int32.toInt tl ∧ Int32.toInt tl ≤ 500) : Met l yX8_feed (wy yX8_feed cX8_feed 6 (some .int)) ({ frames := 1, cells := 0, slots := 0, locals := 40 }) (va_Pc [.ref (a 0), .int p0, .int p1, .int p2, .int p3, .int p4] (fun U => U.heap.size = sz ∧ va_P (dC, dI) vwCl [((a 0), .inr (8, [.ref (a 1), .ref (a 2), .ref (a 3), .ref (a 4), .ref (a 5), .ref (a 6), .ref (a 7), .ref (a 8), .ref (a 9), .ref (a 10), .ref (a 11), .ref (a 12), .ref (a 13), .ref (a 14), .int fk, .int fp])), ((a 1), .inr (5, [.ref (a 15), .int tl])), ((a 15), .inl (cB, 500, .inl tb))] U.heap ∧ va_K (dC, dI) vwCl (tyL cB cI cJ cZ cL) U ∧ va_D (fun _ => True) [((a 0), .inr (8, [.ref (a 1), .ref (a 2), .ref (a 3), .ref (a 4), .ref (a 5), .ref (a 6), .ref (a 7), .ref (a 8), .ref (a 9), .ref (a 10), .ref (a 11), .ref (a 12), .ref (a 13), .ref (a 14), .int fk, .int fp])), ((a 1), .inr (5, [.ref (a 15), .int tl])), ((a 15), .inl (cB, 500, .inl tb))] ∧ NW U)) (va_Qi (fun r u => 0 ≤ Int32.toInt u.1 ∧ Int32.toInt u.1 ≤ 500) (fun (u : (Int32) × (Nat → Int32)) t => va_P (dC, dI) vwCl [((a 0), .inr (8, [.ref (a 1), .ref (a 2), .ref (a 3), .ref (a 4), .ref (a 5), .ref (a 6), .ref (a 7), .ref (a 8), .ref (a 9), .ref (a 10), .ref (a 11), .ref (a 12), .ref (a 13), .ref (a 14), .int fk, .int fp])), ((a 1), .inr (5, [.ref (a 15), .int u.1])), ((a 15), .inl (cB, 500, .inl u.2))] t.heap ∧ va_D (va_A [((a 0), .inr (8, [.ref (a 1), .ref (a 2), .ref (a 3), .ref (a 4), .ref (a 5), .ref (a 6), .ref (a 7), .ref (a 8), .ref (a 9), .ref (a 10), .ref (a 11), .ref (a 12), .ref (a 13), .ref (a 14), .int fk, .int fp])), ((a 1), .inr (5, [.ref (a 15), .int tl])), ((a 15), .inl (cB, 500, .inl tb))] sz) [((a 0), .inr (8, [.ref (a 1), .ref (a 2), .ref (a 3), .ref (a 4), .ref (a 5), .ref (a 6), .ref (a 7), .ref (a 8), .ref (a 9), .ref (a 10), .ref (a 11), .ref (a 12), .ref (a 13), .ref (a 14), .int fk, .int fp])), ((a 1), .inr (5, [.ref (a 15), .int u.1])), ((a 15), .inl (cB, 500, .inl u.2))]) (va_A [((a 0), .inr (8, [.ref (a 1), .ref (a 2), .ref (a 3), .ref (a 4), .ref (a 5), .ref (a 6), .ref (a 7), .ref (a 8), .ref (a 9), .ref (a 10), .ref (a 11), .ref (a 12), .ref (a 13), .ref (a 14), .int fk, .int fp])), ((a 1), .inr (5, [.ref (a 15), .int tl])), ((a 15), .inl (cB, 500, .inl tb))] sz)) 0 0 (va_A [((a 0), .inr (8, [.ref (a 1), .ref (a 2), .ref (a 3), .ref (a 4), .ref (a 5), .ref (a 6), .ref (a 7), .ref (a 8), .ref (a 9), .ref (a 10), .ref (a 11), .ref (a 12), .ref (a 13), .ref (a 14), .int fk, .int fp])), ((a 1), .inr (5, [.ref (a 15), .int tl])), ((a 15), .inl (cB, 500, .inl tb))] sz) := by
  refine Met.ofW (cc := cX8_feed) (maxL := 6) (ret := (some .int)) (by decide) rfl ?_
  intro p e s m args below meth c s₁ B hml hv
  obtain ⟨rfl, hsz, hP, hK, hD0, hN⟩ := hv
  have hx := B.exec
  have hb := B.bytes
  have hr := B.returns
  have ht : ∀ w ∈ lw_ok, w.before _ s = true := fun w h => atoms_spec (ws := wy yX8_feed cX8_feed 6 (some .int)) B.pre w (List.mem_cons_of_mem _ h)
  have hown : s.vm.findClass RX8 = some m.cls := findClass_of_methodNamed B.named
  have hlocks := B.notSynchronized
  subst hsz
  have hD := hD0.self (sz := s.heap.size)
  generalize hAe : va_A [((a 0), .inr (8, [.ref (a 1), .ref (a 2), .ref (a 3), .ref (a 4), .ref (a 5), .ref (a 6), .ref (a 7), .ref (a 8), .ref (a 9), .ref (a 10), .ref (a 11), .ref (a 12), .ref (a 13), .ref (a 14), .int fk, .int fp])), ((a 1), .inr (5, [.ref (a 15), .int tl])), ((a 15), .inl (cB, 500, .inl tb))] s.heap.size = A at hD ⊢
  have hA : ∀ q : Nat, s.heap.size ≤ q → A q := fun q h => by rw [← hAe]; exact Or.inr h
  have hS : va_S A s.heap s.heap [] := va_S.rf
  clear hAe hD0
  have hl := lv_entry ([.ref (a 0), .int p0, .int p1, .int p2, .int p3, .int p4]) (n := 6) (Nat.le_of_ble_eq_true rfl)
  rw [lg_entry_eq]
  generalize (lg_sl ([.ref (a 0), .int p0, .int p1, .int p2, .int p3, .int p4]) ++ List.replicate (6 - (lg_sl ([.ref (a 0), .int p0, .int p1, .int p2, .int p3, .int p4])).length) Slot.unset).toArray = ls at hl ⊢
  have hl : lv_has ls 6 [(0, .ref (a 0)), (1, .int p0), (2, .int p1), (3, .int p2), (4, .int p3), (5, .int p4)] := hl
  have hP : va_P (dC, dI) vwCl [((a 0), .inr (8, [.ref (a 1), .ref (a 2), .ref (a 3), .ref (a 4), .ref (a 5), .ref (a 6), .ref (a 7), .ref (a 8), .ref (a 9), .ref (a 10), .ref (a 11), .ref (a 12), .ref (a 13), .ref (a 14), .int fk, .int fp])), ((a 1), .inr (5, [.ref (a 15), .int tl])), ((a 15), .inl (cB, 500, .inl tb))] s.heap := hP
  have hD : va_D A [((a 0), .inr (8, [.ref (a 1), .ref (a 2), .ref (a 3), .ref (a 4), .ref (a 5), .ref (a 6), .ref (a 7), .ref (a 8), .ref (a 9), .ref (a 10), .ref (a 11), .ref (a 12), .ref (a 13), .ref (a 14), .int fk, .int fp])), ((a 1), .inr (5, [.ref (a 15), .int tl])), ((a 15), .inl (cB, 500, .inl tb))] := hD
  have rg_p0 := rgI p0
  have rg_p1 := rgI p1
  have rg_p2 := rgI p2
  have rg_p3 := rgI p3
  have rg_p4 := rgI p4
  refine lv_aload_n hx hb dX8_feed_0 rfl (lv_at hl 0 rfl) ?_
  refine va_get (D := (dC, dI)) (ci := 8) (v := .ref (a 1)) (C := RX8) (T := TX8) (N := 16) hx hb ht iX8 hown hK hP 0 rfl rfl 0 (by decide) (ht _ w_375) (fun _ h9 => h9) rfl dX8_feed_1 ?_
  refine va_get (D := (dC, dI)) (ci := 5) (v := .int tl) (C := RX5) (T := TX5) (N := 2) hx hb ht iX5 hown hK hP 1 rfl rfl 1 (by decide) (ht _ w_139) (fun _ h9 => h9) rfl dX8_feed_4 ?_
  refine lv_bipush (v := 20) hx hb dX8_feed_7 (by decide) ?_
  refine lv_iadd hx hb dX8_feed_9 ?_
  refine lv_topi (fun y_1 ey_1 => ?_)
  have ty_1 := iaddF ey_1
  simp only [T20] at ty_1
  clear ey_1
  refine lv_sipush (v := 500) hx hb dX8_feed_10 (by decide) ?_
  refine lv_icmp_le (tgt := 18) hx hb dX8_feed_13 (by decide) (fun c_2 => ?_) (fun c_2 => ?_)
  · (try simp only [i_lt, i_le, i_eq, T500] at c_2)
    refine lv_aload_n hx hb dX8_feed_18 rfl (lv_at hl 0 rfl) ?_
    refine va_get (D := (dC, dI)) (ci := 8) (v := .ref (a 1)) (C := RX8) (T := TX8) (N := 16) hx hb ht iX8 hown hK hP 0 rfl rfl 0 (by decide) (ht _ w_375) (fun _ h9 => h9) rfl dX8_feed_19 ?_
    refine lv_iload_n hx hb dX8_feed_22 rfl (lv_at hl 1 rfl) ?_
    have hPc := hP.sub (ws' := [((a 1), .inr (5, [.ref (a 15), .int tl])), ((a 15), .inl (cB, 500, .inl tb))]) [1, 2] rfl
    have hDc := hD.sub (ws' := [((a 1), .inr (5, [.ref (a 15), .int tl])), ((a 15), .inl (cB, 500, .inl tb))]) [1, 2] (by decide) rfl
    have hFc := va_free (wc := [((a 1), .inr (5, [.ref (a 15), .int tl])), ((a 15), .inl (cB, 500, .inl tb))]) hD hS hA [1, 2] rfl
    refine va_callv (va_runV (As := [.int p0]) (rest := []) ⟨hx, hb, hml, hown, ht⟩ (s_X5_append l dC dI cB cI cJ cZ cL s.heap.size a tl tb p0 (by first | assumption | omega)) (cwV 1 ht (gV w_428 w_429 w_430 w_106 w_431) rfl rfl rfl (by decide +kernel) ⟨Nat.le_of_ble_eq_true rfl, Nat.le_of_ble_eq_true rfl⟩) (pVQn hN hK hPc hDc (ci := 5) (q0 := 0) rfl rfl) rfl rfl hl.1 rfl (lv_room (Nat.le_of_ble_eq_true rfl)) dX8_feed_23 ⟨Nat.le_of_ble_eq_true rfl, Nat.le_of_ble_eq_true rfl⟩) hS (fun q _ h => hFc q h) hFc (fun u_4 t1 H1 locs ht1 hvm hw hB hz1 hk1 hS => ?_)
    obtain ⟨z_5, z_6⟩ := u_4
    obtain ⟨hP1, hD1⟩ := hB
    rw [ht1] at hP1
    obtain ⟨hP, hD⟩ := va_join (wr := [((a 0), .inr (8, [.ref (a 1), .ref (a 2), .ref (a 3), .ref (a 4), .ref (a 5), .ref (a 6), .ref (a 7), .ref (a 8), .ref (a 9), .ref (a 10), .ref (a 11), .ref (a 12), .ref (a 13), .ref (a 14), .int fk, .int fp]))]) (w1 := [((a 1), .inr (5, [.ref (a 15), .int z_5])), ((a 15), .inl (cB, 500, .inl z_6))]) hP hD [1, 2] [0] rfl rfl (by decide) (by decide) hk1 hFc hP1 hD1
    clear hFc hDc hPc hP1 hD1 hz1 hk1 hvm
    generalize H1 = H at hP hS ⊢
    have hP : va_P (dC, dI) vwCl [((a 0), .inr (8, [.ref (a 1), .ref (a 2), .ref (a 3), .ref (a 4), .ref (a 5), .ref (a 6), .ref (a 7), .ref (a 8), .ref (a 9), .ref (a 10), .ref (a 11), .ref (a 12), .ref (a 13), .ref (a 14), .int fk, .int fp])), ((a 1), .inr (5, [.ref (a 15), .int z_5])), ((a 15), .inl (cB, 500, .inl z_6))] H := hP
    have hD : va_D A [((a 0), .inr (8, [.ref (a 1), .ref (a 2), .ref (a 3), .ref (a 4), .ref (a 5), .ref (a 6), .ref (a 7), .ref (a 8), .ref (a 9), .ref (a 10), .ref (a 11), .ref (a 12), .ref (a 13), .ref (a 14), .int fk, .int fp])), ((a 1), .inr (5, [.ref (a 15), .int z_5])), ((a 15), .inl (cB, 500, .inl z_6))] := hD
    (try dsimp only at hw)
    have hw_7 := hw
    clear hw
    refine lv_aload_n hx hb dX8_feed_26 rfl (lv_at hl 0 rfl) ?_
    refine va_get (D := (dC, dI)) (ci := 8) (v := .ref (a 1)) (C := RX8) (T := TX8) (N := 16) hx hb ht iX8 hown hK hP 0 rfl rfl 0 (by decide) (ht _ w_375) (fun _ h9 => h9) rfl dX8_feed_27 ?_
    refine lv_iload_n hx hb dX8_feed_30 rfl (lv_at hl 2 rfl) ?_
    have hPc := hP.sub (ws' := [((a 1), .inr (5, [.ref (a 15), .int z_5])), ((a 15), .inl (cB, 500, .inl z_6))]) [1, 2] rfl
    have hDc := hD.sub (ws' := [((a 1), .inr (5, [.ref (a 15), .int z_5])), ((a 15), .inl (cB, 500, .inl z_6))]) [1, 2] (by decide) rfl
    have hFc := va_free (wc := [((a 1), .inr (5, [.ref (a 15), .int z_5])), ((a 15), .inl (cB, 500, .inl z_6))]) hD hS hA [1, 2] rfl
    refine va_callv (va_runV (As := [.int p1]) (rest := []) ⟨hx, hb, hml, hown, ht⟩ (s_X5_append l dC dI cB cI cJ cZ cL H.size a z_5 z_6 p1 (by first | assumption | omega)) (cwV 1 ht (gV w_428 w_429 w_430 w_106 w_431) rfl rfl rfl (by decide +kernel) ⟨Nat.le_of_ble_eq_true rfl, Nat.le_of_ble_eq_true rfl⟩) (pVQn hN hK hPc hDc (ci := 5) (q0 := 0) rfl rfl) rfl rfl hl.1 rfl (lv_room (Nat.le_of_ble_eq_true rfl)) dX8_feed_31 ⟨Nat.le_of_ble_eq_true rfl, Nat.le_of_ble_eq_true rfl⟩) hS (fun q _ h => hFc q h) hFc (fun u_9 t1 H1 locs ht1 hvm hw hB hz1 hk1 hS => ?_)
    obtain ⟨z_10, z_11⟩ := u_9
    obtain ⟨hP1, hD1⟩ := hB
    rw [ht1] at hP1
    obtain ⟨hP, hD⟩ := va_join (wr := [((a 0), .inr (8, [.ref (a 1), .ref (a 2), .ref (a 3), .ref (a 4), .ref (a 5), .ref (a 6), .ref (a 7), .ref (a 8), .ref (a 9), .ref (a 10), .ref (a 11), .ref (a 12), .ref (a 13), .ref (a 14), .int fk, .int fp]))]) (w1 := [((a 1), .inr (5, [.ref (a 15), .int z_10])), ((a 15), .inl (cB, 500, .inl z_11))]) hP hD [1, 2] [0] rfl rfl (by decide) (by decide) hk1 hFc hP1 hD1
    clear hFc hDc hPc hP1 hD1 hz1 hk1 hvm
    generalize H1 = H at hP hS ⊢
    have hP : va_P (dC, dI) vwCl [((a 0), .inr (8, [.ref (a 1), .ref (a 2), .ref (a 3), .ref (a 4), .ref (a 5), .ref (a 6), .ref (a 7), .ref (a 8), .ref (a 9), .ref (a 10), .ref (a 11), .ref (a 12), .ref (a 13), .ref (a 14), .int fk, .int fp])), ((a 1), .inr (5, [.ref (a 15), .int z_10])), ((a 15), .inl (cB, 500, .inl z_11))] H := hP
    have hD : va_D A [((a 0), .inr (8, [.ref (a 1), .ref (a 2), .ref (a 3), .ref (a 4), .ref (a 5), .ref (a 6), .ref (a 7), .ref (a 8), .ref (a 9), .ref (a 10), .ref (a 11), .ref (a 12), .ref (a 13), .ref (a 14), .int fk, .int fp])), ((a 1), .inr (5, [.ref (a 15), .int z_10])), ((a 15), .inl (cB, 500, .inl z_11))] := hD
    (try dsimp only at hw)
    have hw_12 := hw
    clear hw
    refine lv_aload_n hx hb dX8_feed_34 rfl (lv_at hl 0 rfl) ?_
    refine va_get (D := (dC, dI)) (ci := 8) (v := .ref (a 1)) (C := RX8) (T := TX8) (N := 16) hx hb ht iX8 hown hK hP 0 rfl rfl 0 (by decide) (ht _ w_375) (fun _ h9 => h9) rfl dX8_feed_35 ?_
    refine lv_iload_n hx hb dX8_feed_38 rfl (lv_at hl 3 rfl) ?_
    have hPc := hP.sub (ws' := [((a 1), .inr (5, [.ref (a 15), .int z_10])), ((a 15), .inl (cB, 500, .inl z_11))]) [1, 2] rfl
    have hDc := hD.sub (ws' := [((a 1), .inr (5, [.ref (a 15), .int z_10])), ((a 15), .inl (cB, 500, .inl z_11))]) [1, 2] (by decide) rfl
    have hFc := va_free (wc := [((a 1), .inr (5, [.ref (a 15), .int z_10])), ((a 15), .inl (cB, 500, .inl z_11))]) hD hS hA [1, 2] rfl
    refine va_callv (va_runV (As := [.int p2]) (rest := []) ⟨hx, hb, hml, hown, ht⟩ (s_X5_append l dC dI cB cI cJ cZ cL H.size a z_10 z_11 p2 (by first | assumption | omega)) (cwV 1 ht (gV w_428 w_429 w_430 w_106 w_431) rfl rfl rfl (by decide +kernel) ⟨Nat.le_of_ble_eq_true rfl, Nat.le_of_ble_eq_true rfl⟩) (pVQn hN hK hPc hDc (ci := 5) (q0 := 0) rfl rfl) rfl rfl hl.1 rfl (lv_room (Nat.le_of_ble_eq_true rfl)) dX8_feed_39 ⟨Nat.le_of_ble_eq_true rfl, Nat.le_of_ble_eq_true rfl⟩) hS (fun q _ h => hFc q h) hFc (fun u_14 t1 H1 locs ht1 hvm hw hB hz1 hk1 hS => ?_)
    obtain ⟨z_15, z_16⟩ := u_14
    obtain ⟨hP1, hD1⟩ := hB
    rw [ht1] at hP1
    obtain ⟨hP, hD⟩ := va_join (wr := [((a 0), .inr (8, [.ref (a 1), .ref (a 2), .ref (a 3), .ref (a 4), .ref (a 5), .ref (a 6), .ref (a 7), .ref (a 8), .ref (a 9), .ref (a 10), .ref (a 11), .ref (a 12), .ref (a 13), .ref (a 14), .int fk, .int fp]))]) (w1 := [((a 1), .inr (5, [.ref (a 15), .int z_15])), ((a 15), .inl (cB, 500, .inl z_16))]) hP hD [1, 2] [0] rfl rfl (by decide) (by decide) hk1 hFc hP1 hD1
    clear hFc hDc hPc hP1 hD1 hz1 hk1 hvm
    generalize H1 = H at hP hS ⊢
    have hP : va_P (dC, dI) vwCl [((a 0), .inr (8, [.ref (a 1), .ref (a 2), .ref (a 3), .ref (a 4), .ref (a 5), .ref (a 6), .ref (a 7), .ref (a 8), .ref (a 9), .ref (a 10), .ref (a 11), .ref (a 12), .ref (a 13), .ref (a 14), .int fk, .int fp])), ((a 1), .inr (5, [.ref (a 15), .int z_15])), ((a 15), .inl (cB, 500, .inl z_16))] H := hP
    have hD : va_D A [((a 0), .inr (8, [.ref (a 1), .ref (a 2), .ref (a 3), .ref (a 4), .ref (a 5), .ref (a 6), .ref (a 7), .ref (a 8), .ref (a 9), .ref (a 10), .ref (a 11), .ref (a 12), .ref (a 13), .ref (a 14), .int fk, .int fp])), ((a 1), .inr (5, [.ref (a 15), .int z_15])), ((a 15), .inl (cB, 500, .inl z_16))] := hD
    (try dsimp only at hw)
    have hw_17 := hw
    clear hw
    refine lv_aload_n hx hb dX8_feed_42 rfl (lv_at hl 0 rfl) ?_
    refine va_get (D := (dC, dI)) (ci := 8) (v := .ref (a 1)) (C := RX8) (T := TX8) (N := 16) hx hb ht iX8 hown hK hP 0 rfl rfl 0 (by decide) (ht _ w_375) (fun _ h9 => h9) rfl dX8_feed_43 ?_
    refine lv_iload hx hb dX8_feed_46 (lv_at hl 4 rfl) ?_
    have hPc := hP.sub (ws' := [((a 1), .inr (5, [.ref (a 15), .int z_15])), ((a 15), .inl (cB, 500, .inl z_16))]) [1, 2] rfl
    have hDc := hD.sub (ws' := [((a 1), .inr (5, [.ref (a 15), .int z_15])), ((a 15), .inl (cB, 500, .inl z_16))]) [1, 2] (by decide) rfl
    have hFc := va_free (wc := [((a 1), .inr (5, [.ref (a 15), .int z_15])), ((a 15), .inl (cB, 500, .inl z_16))]) hD hS hA [1, 2] rfl
    refine va_callv (va_runV (As := [.int p3]) (rest := []) ⟨hx, hb, hml, hown, ht⟩ (s_X5_append l dC dI cB cI cJ cZ cL H.size a z_15 z_16 p3 (by first | assumption | omega)) (cwV 1 ht (gV w_428 w_429 w_430 w_106 w_431) rfl rfl rfl (by decide +kernel) ⟨Nat.le_of_ble_eq_true rfl, Nat.le_of_ble_eq_true rfl⟩) (pVQn hN hK hPc hDc (ci := 5) (q0 := 0) rfl rfl) rfl rfl hl.1 rfl (lv_room (Nat.le_of_ble_eq_true rfl)) dX8_feed_48 ⟨Nat.le_of_ble_eq_true rfl, Nat.le_of_ble_eq_true rfl⟩) hS (fun q _ h => hFc q h) hFc (fun u_19 t1 H1 locs ht1 hvm hw hB hz1 hk1 hS => ?_)
    obtain ⟨z_20, z_21⟩ := u_19
    obtain ⟨hP1, hD1⟩ := hB
    rw [ht1] at hP1
    obtain ⟨hP, hD⟩ := va_join (wr := [((a 0), .inr (8, [.ref (a 1), .ref (a 2), .ref (a 3), .ref (a 4), .ref (a 5), .ref (a 6), .ref (a 7), .ref (a 8), .ref (a 9), .ref (a 10), .ref (a 11), .ref (a 12), .ref (a 13), .ref (a 14), .int fk, .int fp]))]) (w1 := [((a 1), .inr (5, [.ref (a 15), .int z_20])), ((a 15), .inl (cB, 500, .inl z_21))]) hP hD [1, 2] [0] rfl rfl (by decide) (by decide) hk1 hFc hP1 hD1
    clear hFc hDc hPc hP1 hD1 hz1 hk1 hvm
    generalize H1 = H at hP hS ⊢
    have hP : va_P (dC, dI) vwCl [((a 0), .inr (8, [.ref (a 1), .ref (a 2), .ref (a 3), .ref (a 4), .ref (a 5), .ref (a 6), .ref (a 7), .ref (a 8), .ref (a 9), .ref (a 10), .ref (a 11), .ref (a 12), .ref (a 13), .ref (a 14), .int fk, .int fp])), ((a 1), .inr (5, [.ref (a 15), .int z_20])), ((a 15), .inl (cB, 500, .inl z_21))] H := hP
    have hD : va_D A [((a 0), .inr (8, [.ref (a 1), .ref (a 2), .ref (a 3), .ref (a 4), .ref (a 5), .ref (a 6), .ref (a 7), .ref (a 8), .ref (a 9), .ref (a 10), .ref (a 11), .ref (a 12), .ref (a 13), .ref (a 14), .int fk, .int fp])), ((a 1), .inr (5, [.ref (a 15), .int z_20])), ((a 15), .inl (cB, 500, .inl z_21))] := hD
    (try dsimp only at hw)
    have hw_22 := hw
    clear hw
    refine lv_aload_n hx hb dX8_feed_51 rfl (lv_at hl 0 rfl) ?_
    refine va_get (D := (dC, dI)) (ci := 8) (v := .ref (a 1)) (C := RX8) (T := TX8) (N := 16) hx hb ht iX8 hown hK hP 0 rfl rfl 0 (by decide) (ht _ w_375) (fun _ h9 => h9) rfl dX8_feed_52 ?_
    refine lv_iload hx hb dX8_feed_55 (lv_at hl 5 rfl) ?_
    have hPc := hP.sub (ws' := [((a 1), .inr (5, [.ref (a 15), .int z_20])), ((a 15), .inl (cB, 500, .inl z_21))]) [1, 2] rfl
    have hDc := hD.sub (ws' := [((a 1), .inr (5, [.ref (a 15), .int z_20])), ((a 15), .inl (cB, 500, .inl z_21))]) [1, 2] (by decide) rfl
    have hFc := va_free (wc := [((a 1), .inr (5, [.ref (a 15), .int z_20])), ((a 15), .inl (cB, 500, .inl z_21))]) hD hS hA [1, 2] rfl
    refine va_callv (va_runV (As := [.int p4]) (rest := []) ⟨hx, hb, hml, hown, ht⟩ (s_X5_append l dC dI cB cI cJ cZ cL H.size a z_20 z_21 p4 (by first | assumption | omega)) (cwV 1 ht (gV w_428 w_429 w_430 w_106 w_431) rfl rfl rfl (by decide +kernel) ⟨Nat.le_of_ble_eq_true rfl, Nat.le_of_ble_eq_true rfl⟩) (pVQn hN hK hPc hDc (ci := 5) (q0 := 0) rfl rfl) rfl rfl hl.1 rfl (lv_room (Nat.le_of_ble_eq_true rfl)) dX8_feed_57 ⟨Nat.le_of_ble_eq_true rfl, Nat.le_of_ble_eq_true rfl⟩) hS (fun q _ h => hFc q h) hFc (fun u_24 t1 H1 locs ht1 hvm hw hB hz1 hk1 hS => ?_)
    obtain ⟨z_25, z_26⟩ := u_24
    obtain ⟨hP1, hD1⟩ := hB
    rw [ht1] at hP1
    obtain ⟨hP, hD⟩ := va_join (wr := [((a 0), .inr (8, [.ref (a 1), .ref (a 2), .ref (a 3), .ref (a 4), .ref (a 5), .ref (a 6), .ref (a 7), .ref (a 8), .ref (a 9), .ref (a 10), .ref (a 11), .ref (a 12), .ref (a 13), .ref (a 14), .int fk, .int fp]))]) (w1 := [((a 1), .inr (5, [.ref (a 15), .int z_25])), ((a 15), .inl (cB, 500, .inl z_26))]) hP hD [1, 2] [0] rfl rfl (by decide) (by decide) hk1 hFc hP1 hD1
    clear hFc hDc hPc hP1 hD1 hz1 hk1 hvm
    generalize H1 = H at hP hS ⊢
    have hP : va_P (dC, dI) vwCl [((a 0), .inr (8, [.ref (a 1), .ref (a 2), .ref (a 3), .ref (a 4), .ref (a 5), .ref (a 6), .ref (a 7), .ref (a 8), .ref (a 9), .ref (a 10), .ref (a 11), .ref (a 12), .ref (a 13), .ref (a 14), .int fk, .int fp])), ((a 1), .inr (5, [.ref (a 15), .int z_25])), ((a 15), .inl (cB, 500, .inl z_26))] H := hP
    have hD : va_D A [((a 0), .inr (8, [.ref (a 1), .ref (a 2), .ref (a 3), .ref (a 4), .ref (a 5), .ref (a 6), .ref (a 7), .ref (a 8), .ref (a 9), .ref (a 10), .ref (a 11), .ref (a 12), .ref (a 13), .ref (a 14), .int fk, .int fp])), ((a 1), .inr (5, [.ref (a 15), .int z_25])), ((a 15), .inl (cB, 500, .inl z_26))] := hD
    (try dsimp only at hw)
    have hw_27 := hw
    clear hw
    refine lv_aload_n hx hb dX8_feed_60 rfl (lv_at hl 0 rfl) ?_
    refine va_get (D := (dC, dI)) (ci := 8) (v := .ref (a 1)) (C := RX8) (T := TX8) (N := 16) hx hb ht iX8 hown hK hP 0 rfl rfl 0 (by decide) (ht _ w_375) (fun _ h9 => h9) rfl dX8_feed_61 ?_
    refine va_get (D := (dC, dI)) (ci := 5) (v := .int z_25) (C := RX5) (T := TX5) (N := 2) hx hb ht iX5 hown hK hP 1 rfl rfl 1 (by decide) (ht _ w_139) (fun _ h9 => h9) rfl dX8_feed_64 ?_
    have hP9 := hP.sub (ws' := [((a 0), .inr (8, [.ref (a 1), .ref (a 2), .ref (a 3), .ref (a 4), .ref (a 5), .ref (a 6), .ref (a 7), .ref (a 8), .ref (a 9), .ref (a 10), .ref (a 11), .ref (a 12), .ref (a 13), .ref (a 14), .int fk, .int fp])), ((a 1), .inr (5, [.ref (a 15), .int z_25])), ((a 15), .inl (cB, 500, .inl z_26))]) [0, 1, 2] rfl
    have hD9 := hD.sub (ws' := [((a 0), .inr (8, [.ref (a 1), .ref (a 2), .ref (a 3), .ref (a 4), .ref (a 5), .ref (a 6), .ref (a 7), .ref (a 8), .ref (a 9), .ref (a 10), .ref (a 11), .ref (a 12), .ref (a 13), .ref (a 14), .int fk, .int fp])), ((a 1), .inr (5, [.ref (a 15), .int z_25])), ((a 15), .inl (cB, 500, .inl z_26))]) [0, 1, 2] (by decide) rfl
    exact W.iret (v := z_25) hx hb hr (fun t ht hW => ⟨⟨z_25, (z_25, z_26), rfl, ⟨(by first | omega | assumption | (dsimp only; done) | (dsimp only; omega) | (dsimp only; assumption) | (have e0 := T0; dsimp only; omega) | (have e0 := T0; omega)), (by first | omega | assumption | (dsimp only; done) | (dsimp only; omega) | (dsimp only; assumption) | (have e0 := T0; dsimp only; omega) | (have e0 := T0; omega))⟩, ⟨by rw [ht]; exact hP9, hD9⟩⟩, hS.F ht⟩) hS.2.2 dX8_feed_67
  · (try simp only [i_lt, i_le, i_eq, T500] at c_2)
    refine lv_iconst (v := (-1)) hx hb dX8_feed_16 (by decide) ?_
    have hP9 := hP.sub (ws' := [((a 0), .inr (8, [.ref (a 1), .ref (a 2), .ref (a 3), .ref (a 4), .ref (a 5), .ref (a 6), .ref (a 7), .ref (a 8), .ref (a 9), .ref (a 10), .ref (a 11), .ref (a 12), .ref (a 13), .ref (a 14), .int fk, .int fp])), ((a 1), .inr (5, [.ref (a 15), .int tl])), ((a 15), .inl (cB, 500, .inl tb))]) [0, 1, 2] rfl
    have hD9 := hD.sub (ws' := [((a 0), .inr (8, [.ref (a 1), .ref (a 2), .ref (a 3), .ref (a 4), .ref (a 5), .ref (a 6), .ref (a 7), .ref (a 8), .ref (a 9), .ref (a 10), .ref (a 11), .ref (a 12), .ref (a 13), .ref (a 14), .int fk, .int fp])), ((a 1), .inr (5, [.ref (a 15), .int tl])), ((a 15), .inl (cB, 500, .inl tb))]) [0, 1, 2] (by decide) rfl
    exact W.iret (v := (-1)) hx hb hr (fun t ht hW => ⟨⟨(-1), (tl, tb), rfl, ⟨(by first | omega | assumption | (dsimp only; done) | (dsimp only; omega) | (dsimp only; assumption) | (have e0 := T0; dsimp only; omega) | (have e0 := T0; omega)), (by first | omega | assumption | (dsimp only; done) | (dsimp only; omega) | (dsimp only; assumption) | (have e0 := T0; dsimp only; omega) | (have e0 := T0; omega))⟩, ⟨by rw [ht]; exact hP9, hD9⟩⟩, hS.F ht⟩) hS.2.2 dX8_feed_17
set_option maxHeartbeats 8000000 in
set_option maxRecDepth 100000 in
theorem s_X8_end (l : Launch) (dC : Nat → ClassId) (dI : Nat → Nat → Nat) (cB cI cJ cZ cL : ClassId) (sz : Nat) (a : Nat → Nat) (fk : Int32) (fp : Int32) (tl : Int32) (p0 : Int32) (htl : 0 ≤ Int32.toInt tl ∧ Int32.toInt tl ≤ 500) : Met l yX8_end (wy yX8_end cX8_end 2 (some .int)) ({ frames := 0, cells := 0, slots := 0, locals := 0 }) (va_Pc [.ref (a 0), .int p0] (fun U => U.heap.size = sz ∧ va_P (dC, dI) vwCl [((a 0), .inr (8, [.ref (a 1), .ref (a 2), .ref (a 3), .ref (a 4), .ref (a 5), .ref (a 6), .ref (a 7), .ref (a 8), .ref (a 9), .ref (a 10), .ref (a 11), .ref (a 12), .ref (a 13), .ref (a 14), .int fk, .int fp])), ((a 1), .inr (5, [.ref (a 15), .int tl]))] U.heap ∧ va_K (dC, dI) vwCl (tyL cB cI cJ cZ cL) U ∧ va_D (fun _ => True) [((a 0), .inr (8, [.ref (a 1), .ref (a 2), .ref (a 3), .ref (a 4), .ref (a 5), .ref (a 6), .ref (a 7), .ref (a 8), .ref (a 9), .ref (a 10), .ref (a 11), .ref (a 12), .ref (a 13), .ref (a 14), .int fk, .int fp])), ((a 1), .inr (5, [.ref (a 15), .int tl]))] ∧ NW U)) (va_Qi (fun r u => 0 ≤ Int32.toInt u ∧ Int32.toInt u ≤ 500) (fun (u : (Int32)) t => va_P (dC, dI) vwCl [((a 0), .inr (8, [.ref (a 1), .ref (a 2), .ref (a 3), .ref (a 4), .ref (a 5), .ref (a 6), .ref (a 7), .ref (a 8), .ref (a 9), .ref (a 10), .ref (a 11), .ref (a 12), .ref (a 13), .ref (a 14), .int fk, .int fp])), ((a 1), .inr (5, [.ref (a 15), .int u]))] t.heap ∧ va_D (va_A [((a 0), .inr (8, [.ref (a 1), .ref (a 2), .ref (a 3), .ref (a 4), .ref (a 5), .ref (a 6), .ref (a 7), .ref (a 8), .ref (a 9), .ref (a 10), .ref (a 11), .ref (a 12), .ref (a 13), .ref (a 14), .int fk, .int fp])), ((a 1), .inr (5, [.ref (a 15), .int tl]))] sz) [((a 0), .inr (8, [.ref (a 1), .ref (a 2), .ref (a 3), .ref (a 4), .ref (a 5), .ref (a 6), .ref (a 7), .ref (a 8), .ref (a 9), .ref (a 10), .ref (a 11), .ref (a 12), .ref (a 13), .ref (a 14), .int fk, .int fp])), ((a 1), .inr (5, [.ref (a 15), .int u]))]) (va_A [((a 0), .inr (8, [.ref (a 1), .ref (a 2), .ref (a 3), .ref (a 4), .ref (a 5), .ref (a 6), .ref (a 7), .ref (a 8), .ref (a 9), .ref (a 10), .ref (a 11), .ref (a 12), .ref (a 13), .ref (a 14), .int fk, .int fp])), ((a 1), .inr (5, [.ref (a 15), .int tl]))] sz)) 0 0 (va_A [((a 0), .inr (8, [.ref (a 1), .ref (a 2), .ref (a 3), .ref (a 4), .ref (a 5), .ref (a 6), .ref (a 7), .ref (a 8), .ref (a 9), .ref (a 10), .ref (a 11), .ref (a 12), .ref (a 13), .ref (a 14), .int fk, .int fp])), ((a 1), .inr (5, [.ref (a 15), .int tl]))] sz) := by
  refine Met.ofW (cc := cX8_end) (maxL := 2) (ret := (some .int)) (by decide) rfl ?_
  intro p e s m args below meth c s₁ B hml hv
  obtain ⟨rfl, hsz, hP, hK, hD0, hN⟩ := hv
  have hx := B.exec
  have hb := B.bytes
  have hr := B.returns
  have ht : ∀ w ∈ lw_ok, w.before _ s = true := fun w h => atoms_spec (ws := wy yX8_end cX8_end 2 (some .int)) B.pre w (List.mem_cons_of_mem _ h)
  have hown : s.vm.findClass RX8 = some m.cls := findClass_of_methodNamed B.named
  have hlocks := B.notSynchronized
  subst hsz
  have hD := hD0.self (sz := s.heap.size)
  generalize hAe : va_A [((a 0), .inr (8, [.ref (a 1), .ref (a 2), .ref (a 3), .ref (a 4), .ref (a 5), .ref (a 6), .ref (a 7), .ref (a 8), .ref (a 9), .ref (a 10), .ref (a 11), .ref (a 12), .ref (a 13), .ref (a 14), .int fk, .int fp])), ((a 1), .inr (5, [.ref (a 15), .int tl]))] s.heap.size = A at hD ⊢
  have hA : ∀ q : Nat, s.heap.size ≤ q → A q := fun q h => by rw [← hAe]; exact Or.inr h
  have hS : va_S A s.heap s.heap [] := va_S.rf
  clear hAe hD0
  have hl := lv_entry ([.ref (a 0), .int p0]) (n := 2) (Nat.le_of_ble_eq_true rfl)
  rw [lg_entry_eq]
  generalize (lg_sl ([.ref (a 0), .int p0]) ++ List.replicate (2 - (lg_sl ([.ref (a 0), .int p0])).length) Slot.unset).toArray = ls at hl ⊢
  have hl : lv_has ls 2 [(0, .ref (a 0)), (1, .int p0)] := hl
  have hP : va_P (dC, dI) vwCl [((a 0), .inr (8, [.ref (a 1), .ref (a 2), .ref (a 3), .ref (a 4), .ref (a 5), .ref (a 6), .ref (a 7), .ref (a 8), .ref (a 9), .ref (a 10), .ref (a 11), .ref (a 12), .ref (a 13), .ref (a 14), .int fk, .int fp])), ((a 1), .inr (5, [.ref (a 15), .int tl]))] s.heap := hP
  have hD : va_D A [((a 0), .inr (8, [.ref (a 1), .ref (a 2), .ref (a 3), .ref (a 4), .ref (a 5), .ref (a 6), .ref (a 7), .ref (a 8), .ref (a 9), .ref (a 10), .ref (a 11), .ref (a 12), .ref (a 13), .ref (a 14), .int fk, .int fp])), ((a 1), .inr (5, [.ref (a 15), .int tl]))] := hD
  have rg_p0 := rgI p0
  refine lv_iload_n hx hb dX8_end_0 rfl (lv_at hl 1 rfl) ?_
  refine lv_if_lt (tgt := 15) hx hb dX8_end_1 (by decide) (fun c_1 => ?_) (fun c_1 => ?_)
  · (try simp only [i_lt, i_le, i_eq, T0] at c_1)
    refine lv_iconst (v := (-1)) hx hb dX8_end_15 (by decide) ?_
    have hP9 := hP.sub (ws' := [((a 0), .inr (8, [.ref (a 1), .ref (a 2), .ref (a 3), .ref (a 4), .ref (a 5), .ref (a 6), .ref (a 7), .ref (a 8), .ref (a 9), .ref (a 10), .ref (a 11), .ref (a 12), .ref (a 13), .ref (a 14), .int fk, .int fp])), ((a 1), .inr (5, [.ref (a 15), .int tl]))]) [0, 1] rfl
    have hD9 := hD.sub (ws' := [((a 0), .inr (8, [.ref (a 1), .ref (a 2), .ref (a 3), .ref (a 4), .ref (a 5), .ref (a 6), .ref (a 7), .ref (a 8), .ref (a 9), .ref (a 10), .ref (a 11), .ref (a 12), .ref (a 13), .ref (a 14), .int fk, .int fp])), ((a 1), .inr (5, [.ref (a 15), .int tl]))]) [0, 1] (by decide) rfl
    exact W.iret (v := (-1)) hx hb hr (fun t ht hW => ⟨⟨(-1), tl, rfl, ⟨(by first | omega | assumption | (dsimp only; done) | (dsimp only; omega) | (dsimp only; assumption) | (have e0 := T0; dsimp only; omega) | (have e0 := T0; omega)), (by first | omega | assumption | (dsimp only; done) | (dsimp only; omega) | (dsimp only; assumption) | (have e0 := T0; dsimp only; omega) | (have e0 := T0; omega))⟩, ⟨by rw [ht]; exact hP9, hD9⟩⟩, hS.F ht⟩) hS.2.2 dX8_end_16
  · (try simp only [i_lt, i_le, i_eq, T0] at c_1)
    refine lv_iload_n hx hb dX8_end_4 rfl (lv_at hl 1 rfl) ?_
    refine lv_aload_n hx hb dX8_end_5 rfl (lv_at hl 0 rfl) ?_
    refine va_get (D := (dC, dI)) (ci := 8) (v := .ref (a 1)) (C := RX8) (T := TX8) (N := 16) hx hb ht iX8 hown hK hP 0 rfl rfl 0 (by decide) (ht _ w_375) (fun _ h9 => h9) rfl dX8_end_6 ?_
    refine va_get (D := (dC, dI)) (ci := 5) (v := .int tl) (C := RX5) (T := TX5) (N := 2) hx hb ht iX5 hown hK hP 1 rfl rfl 1 (by decide) (ht _ w_139) (fun _ h9 => h9) rfl dX8_end_9 ?_
    refine lv_icmp_le (tgt := 17) hx hb dX8_end_12 (by decide) (fun c_2 => ?_) (fun c_2 => ?_)
    · (try simp only [i_lt, i_le, i_eq] at c_2)
      refine lv_aload_n hx hb dX8_end_17 rfl (lv_at hl 0 rfl) ?_
      refine va_get (D := (dC, dI)) (ci := 8) (v := .ref (a 1)) (C := RX8) (T := TX8) (N := 16) hx hb ht iX8 hown hK hP 0 rfl rfl 0 (by decide) (ht _ w_375) (fun _ h9 => h9) rfl dX8_end_18 ?_
      refine lv_iload_n hx hb dX8_end_21 rfl (lv_at hl 1 rfl) ?_
      refine va_put (D := (dC, dI)) (ci := 5) (v := .int p0) (ty := .int) (C := RX5) (T := TX5) (N := 2) hx hb ht iX5 tyX5 tyX5_ok nmX5 hown hK hP hD hS 1 rfl rfl 1 (by decide) (ht _ w_139) (fun _ h9 => h9) rfl (by decide +kernel) rfl rfl (Nat.le_of_ble_eq_true rfl) dX8_end_22 (fun H locs hP hD hS => ?_)
      have hP : va_P (dC, dI) vwCl [((a 0), .inr (8, [.ref (a 1), .ref (a 2), .ref (a 3), .ref (a 4), .ref (a 5), .ref (a 6), .ref (a 7), .ref (a 8), .ref (a 9), .ref (a 10), .ref (a 11), .ref (a 12), .ref (a 13), .ref (a 14), .int fk, .int fp])), ((a 1), .inr (5, [.ref (a 15), .int p0]))] H := hP
      have hD : va_D A [((a 0), .inr (8, [.ref (a 1), .ref (a 2), .ref (a 3), .ref (a 4), .ref (a 5), .ref (a 6), .ref (a 7), .ref (a 8), .ref (a 9), .ref (a 10), .ref (a 11), .ref (a 12), .ref (a 13), .ref (a 14), .int fk, .int fp])), ((a 1), .inr (5, [.ref (a 15), .int p0]))] := hD
      refine lv_iload_n hx hb dX8_end_25 rfl (lv_at hl 1 rfl) ?_
      have hP9 := hP.sub (ws' := [((a 0), .inr (8, [.ref (a 1), .ref (a 2), .ref (a 3), .ref (a 4), .ref (a 5), .ref (a 6), .ref (a 7), .ref (a 8), .ref (a 9), .ref (a 10), .ref (a 11), .ref (a 12), .ref (a 13), .ref (a 14), .int fk, .int fp])), ((a 1), .inr (5, [.ref (a 15), .int p0]))]) [0, 1] rfl
      have hD9 := hD.sub (ws' := [((a 0), .inr (8, [.ref (a 1), .ref (a 2), .ref (a 3), .ref (a 4), .ref (a 5), .ref (a 6), .ref (a 7), .ref (a 8), .ref (a 9), .ref (a 10), .ref (a 11), .ref (a 12), .ref (a 13), .ref (a 14), .int fk, .int fp])), ((a 1), .inr (5, [.ref (a 15), .int p0]))]) [0, 1] (by decide) rfl
      exact W.iret (v := p0) hx hb hr (fun t ht hW => ⟨⟨p0, p0, rfl, ⟨(by first | omega | assumption | (dsimp only; done) | (dsimp only; omega) | (dsimp only; assumption) | (have e0 := T0; dsimp only; omega) | (have e0 := T0; omega)), (by first | omega | assumption | (dsimp only; done) | (dsimp only; omega) | (dsimp only; assumption) | (have e0 := T0; dsimp only; omega) | (have e0 := T0; omega))⟩, ⟨by rw [ht]; exact hP9, hD9⟩⟩, hS.F ht⟩) hS.2.2 dX8_end_26
    · (try simp only [i_lt, i_le, i_eq] at c_2)
      refine lv_iconst (v := (-1)) hx hb dX8_end_15 (by decide) ?_
      have hP9 := hP.sub (ws' := [((a 0), .inr (8, [.ref (a 1), .ref (a 2), .ref (a 3), .ref (a 4), .ref (a 5), .ref (a 6), .ref (a 7), .ref (a 8), .ref (a 9), .ref (a 10), .ref (a 11), .ref (a 12), .ref (a 13), .ref (a 14), .int fk, .int fp])), ((a 1), .inr (5, [.ref (a 15), .int tl]))]) [0, 1] rfl
      have hD9 := hD.sub (ws' := [((a 0), .inr (8, [.ref (a 1), .ref (a 2), .ref (a 3), .ref (a 4), .ref (a 5), .ref (a 6), .ref (a 7), .ref (a 8), .ref (a 9), .ref (a 10), .ref (a 11), .ref (a 12), .ref (a 13), .ref (a 14), .int fk, .int fp])), ((a 1), .inr (5, [.ref (a 15), .int tl]))]) [0, 1] (by decide) rfl
      exact W.iret (v := (-1)) hx hb hr (fun t ht hW => ⟨⟨(-1), tl, rfl, ⟨(by first | omega | assumption | (dsimp only; done) | (dsimp only; omega) | (dsimp only; assumption) | (have e0 := T0; dsimp only; omega) | (have e0 := T0; omega)), (by first | omega | assumption | (dsimp only; done) | (dsimp only; omega) | (dsimp only; assumption) | (have e0 := T0; dsimp only; omega) | (have e0 := T0; omega))⟩, ⟨by rw [ht]; exact hP9, hD9⟩⟩, hS.F ht⟩) hS.2.2 dX8_end_16
set_option maxHeartbeats 8000000 in
set_option maxRecDepth 100000 in
theorem s_X8_count (l : Launch) (dC : Nat → ClassId) (dI : Nat → Nat → Nat) (cB cI cJ cZ cL : ClassId) (a : Nat → Nat) (fk : Int32) (fp : Int32) (tl : Int32) (n_lines : Int32) (n_days : Int32) (n_law : Int32) (n_odds : Int32) (n_volts : Int32) (n_spans : Int32) (n_wetLines : Int32) (n_wet : Int32) (n_acts : Int32) (ss : Nat → Int32) (p0 : Int32)  : Met l yX8_count (wy yX8_count cX8_count 2 (some .int)) ({ frames := 2, cells := 0, slots := 0, locals := 80 }) (va_Pc [.ref (a 0), .int p0] (fun U => va_P (dC, dI) vwCl [((a 0), .inr (8, [.ref (a 1), .ref (a 2), .ref (a 3), .ref (a 4), .ref (a 5), .ref (a 6), .ref (a 7), .ref (a 8), .ref (a 9), .ref (a 10), .ref (a 11), .ref (a 12), .ref (a 13), .ref (a 14), .int fk, .int fp])), ((a 1), .inr (5, [.ref (a 15), .int tl])), ((a 4), .inr (2, [.int n_lines, .int n_days, .int n_law, .int n_odds, .int n_volts, .int n_spans, .int n_wetLines, .int n_wet, .int n_acts, .ref (a 19), .ref (a 20), .ref (a 21), .ref (a 22), .ref (a 23), .ref (a 24), .ref (a 25), .ref (a 26)])), ((a 7), .inr (3, [.ref (a 35), .ref (a 36), .ref (a 37)])), ((a 37), .inl (cI, 4, .inl ss))] U.heap ∧ va_K (dC, dI) vwCl (tyL cB cI cJ cZ cL) U ∧ NW U)) (vp_Si (fun r => True)) 0 0 (fun _ => False) := by
  refine Met.ofW (cc := cX8_count) (maxL := 2) (ret := (some .int)) (by decide) rfl ?_
  intro p e s m args below meth c s₁ B hml hv
  obtain ⟨rfl, hP, hK, hN⟩ := hv
  have hx := B.exec
  have hb := B.bytes
  have hr := B.returns
  have ht : ∀ w ∈ lw_ok, w.before _ s = true := fun w h => atoms_spec (ws := wy yX8_count cX8_count 2 (some .int)) B.pre w (List.mem_cons_of_mem _ h)
  have hown : s.vm.findClass RX8 = some m.cls := findClass_of_methodNamed B.named
  have hlocks := B.notSynchronized
  have hl := lv_entry ([.ref (a 0), .int p0]) (n := 2) (Nat.le_of_ble_eq_true rfl)
  rw [lg_entry_eq]
  generalize (lg_sl ([.ref (a 0), .int p0]) ++ List.replicate (2 - (lg_sl ([.ref (a 0), .int p0])).length) Slot.unset).toArray = ls at hl ⊢
  have hl : lv_has ls 2 [(0, .ref (a 0)), (1, .int p0)] := hl
  have hP : va_P (dC, dI) vwCl [((a 0), .inr (8, [.ref (a 1), .ref (a 2), .ref (a 3), .ref (a 4), .ref (a 5), .ref (a 6), .ref (a 7), .ref (a 8), .ref (a 9), .ref (a 10), .ref (a 11), .ref (a 12), .ref (a 13), .ref (a 14), .int fk, .int fp])), ((a 1), .inr (5, [.ref (a 15), .int tl])), ((a 4), .inr (2, [.int n_lines, .int n_days, .int n_law, .int n_odds, .int n_volts, .int n_spans, .int n_wetLines, .int n_wet, .int n_acts, .ref (a 19), .ref (a 20), .ref (a 21), .ref (a 22), .ref (a 23), .ref (a 24), .ref (a 25), .ref (a 26)])), ((a 7), .inr (3, [.ref (a 35), .ref (a 36), .ref (a 37)])), ((a 37), .inl (cI, 4, .inl ss))] s.heap := hP
  have rg_p0 := rgI p0
  refine lv_iload_n hx hb dX8_count_0 rfl (lv_at hl 1 rfl) ?_
  by_cases c_1 : p0 = 0
  · refine lv_topi (fun y_2 ey_2 => ?_)
    obtain rfl : y_2 = 0 := ey_2.trans c_1
    refine lv_tableIn (off := 55) (tgt := 56) hx hb dX8_count_1 (by decide) (by decide) (by decide) (by decide) ?_
    simp only [i_eq, T0] at c_1
    refine lv_aload_n hx hb dX8_count_56 rfl (lv_at hl 0 rfl) ?_
    refine va_get (D := (dC, dI)) (ci := 8) (v := .ref (a 4)) (C := RX8) (T := TX8) (N := 16) hx hb ht iX8 hown hK hP 0 rfl rfl 3 (by decide) (ht _ w_378) (fun _ h9 => h9) rfl dX8_count_57 ?_
    refine va_get (D := (dC, dI)) (ci := 2) (v := .int n_days) (C := RX2) (T := TX2) (N := 17) hx hb ht iX2 hown hK hP 2 rfl rfl 1 (by decide) (ht _ w_206) (fun _ h9 => h9) rfl dX8_count_60 ?_
    exact W.iret (v := n_days) hx hb hr (fun t ht hW => ⟨n_days, rfl, trivial, ht⟩) (fun q h => absurd h List.not_mem_nil) dX8_count_63
  simp only [i_eq, T0] at c_1
  by_cases c_3 : p0 = 1
  · refine lv_topi (fun y_4 ey_4 => ?_)
    obtain rfl : y_4 = 1 := ey_4.trans c_3
    refine lv_tableIn (off := 63) (tgt := 64) hx hb dX8_count_1 (by decide) (by decide) (by decide) (by decide) ?_
    simp only [i_eq, T1] at c_3
    refine lv_aload_n hx hb dX8_count_64 rfl (lv_at hl 0 rfl) ?_
    refine va_get (D := (dC, dI)) (ci := 8) (v := .ref (a 4)) (C := RX8) (T := TX8) (N := 16) hx hb ht iX8 hown hK hP 0 rfl rfl 3 (by decide) (ht _ w_378) (fun _ h9 => h9) rfl dX8_count_65 ?_
    refine va_get (D := (dC, dI)) (ci := 2) (v := .int n_law) (C := RX2) (T := TX2) (N := 17) hx hb ht iX2 hown hK hP 2 rfl rfl 2 (by decide) (ht _ w_210) (fun _ h9 => h9) rfl dX8_count_68 ?_
    exact W.iret (v := n_law) hx hb hr (fun t ht hW => ⟨n_law, rfl, trivial, ht⟩) (fun q h => absurd h List.not_mem_nil) dX8_count_71
  simp only [i_eq, T1] at c_3
  by_cases c_5 : p0 = 2
  · refine lv_topi (fun y_6 ey_6 => ?_)
    obtain rfl : y_6 = 2 := ey_6.trans c_5
    refine lv_tableIn (off := 71) (tgt := 72) hx hb dX8_count_1 (by decide) (by decide) (by decide) (by decide) ?_
    simp only [i_eq, T2] at c_5
    refine lv_aload_n hx hb dX8_count_72 rfl (lv_at hl 0 rfl) ?_
    refine va_get (D := (dC, dI)) (ci := 8) (v := .ref (a 4)) (C := RX8) (T := TX8) (N := 16) hx hb ht iX8 hown hK hP 0 rfl rfl 3 (by decide) (ht _ w_378) (fun _ h9 => h9) rfl dX8_count_73 ?_
    refine va_get (D := (dC, dI)) (ci := 2) (v := .int n_odds) (C := RX2) (T := TX2) (N := 17) hx hb ht iX2 hown hK hP 2 rfl rfl 3 (by decide) (ht _ w_213) (fun _ h9 => h9) rfl dX8_count_76 ?_
    exact W.iret (v := n_odds) hx hb hr (fun t ht hW => ⟨n_odds, rfl, trivial, ht⟩) (fun q h => absurd h List.not_mem_nil) dX8_count_79
  simp only [i_eq, T2] at c_5
  by_cases c_7 : p0 = 3
  · refine lv_topi (fun y_8 ey_8 => ?_)
    obtain rfl : y_8 = 3 := ey_8.trans c_7
    refine lv_tableIn (off := 79) (tgt := 80) hx hb dX8_count_1 (by decide) (by decide) (by decide) (by decide) ?_
    simp only [i_eq, T3] at c_7
    refine lv_aload_n hx hb dX8_count_80 rfl (lv_at hl 0 rfl) ?_
    refine va_get (D := (dC, dI)) (ci := 8) (v := .ref (a 4)) (C := RX8) (T := TX8) (N := 16) hx hb ht iX8 hown hK hP 0 rfl rfl 3 (by decide) (ht _ w_378) (fun _ h9 => h9) rfl dX8_count_81 ?_
    refine va_get (D := (dC, dI)) (ci := 2) (v := .int n_volts) (C := RX2) (T := TX2) (N := 17) hx hb ht iX2 hown hK hP 2 rfl rfl 4 (by decide) (ht _ w_216) (fun _ h9 => h9) rfl dX8_count_84 ?_
    exact W.iret (v := n_volts) hx hb hr (fun t ht hW => ⟨n_volts, rfl, trivial, ht⟩) (fun q h => absurd h List.not_mem_nil) dX8_count_87
  simp only [i_eq, T3] at c_7
  by_cases c_9 : p0 = 4
  · refine lv_topi (fun y_10 ey_10 => ?_)
    obtain rfl : y_10 = 4 := ey_10.trans c_9
    refine lv_tableIn (off := 87) (tgt := 88) hx hb dX8_count_1 (by decide) (by decide) (by decide) (by decide) ?_
    simp only [i_eq, T4] at c_9
    refine lv_aload_n hx hb dX8_count_88 rfl (lv_at hl 0 rfl) ?_
    refine va_get (D := (dC, dI)) (ci := 8) (v := .ref (a 4)) (C := RX8) (T := TX8) (N := 16) hx hb ht iX8 hown hK hP 0 rfl rfl 3 (by decide) (ht _ w_378) (fun _ h9 => h9) rfl dX8_count_89 ?_
    refine va_get (D := (dC, dI)) (ci := 2) (v := .int n_spans) (C := RX2) (T := TX2) (N := 17) hx hb ht iX2 hown hK hP 2 rfl rfl 5 (by decide) (ht _ w_221) (fun _ h9 => h9) rfl dX8_count_92 ?_
    exact W.iret (v := n_spans) hx hb hr (fun t ht hW => ⟨n_spans, rfl, trivial, ht⟩) (fun q h => absurd h List.not_mem_nil) dX8_count_95
  simp only [i_eq, T4] at c_9
  by_cases c_11 : p0 = 5
  · refine lv_topi (fun y_12 ey_12 => ?_)
    obtain rfl : y_12 = 5 := ey_12.trans c_11
    refine lv_tableIn (off := 95) (tgt := 96) hx hb dX8_count_1 (by decide) (by decide) (by decide) (by decide) ?_
    simp only [i_eq, T5] at c_11
    refine lv_aload_n hx hb dX8_count_96 rfl (lv_at hl 0 rfl) ?_
    refine va_get (D := (dC, dI)) (ci := 8) (v := .ref (a 4)) (C := RX8) (T := TX8) (N := 16) hx hb ht iX8 hown hK hP 0 rfl rfl 3 (by decide) (ht _ w_378) (fun _ h9 => h9) rfl dX8_count_97 ?_
    refine va_get (D := (dC, dI)) (ci := 2) (v := .int n_wetLines) (C := RX2) (T := TX2) (N := 17) hx hb ht iX2 hown hK hP 2 rfl rfl 6 (by decide) (ht _ w_224) (fun _ h9 => h9) rfl dX8_count_100 ?_
    exact W.iret (v := n_wetLines) hx hb hr (fun t ht hW => ⟨n_wetLines, rfl, trivial, ht⟩) (fun q h => absurd h List.not_mem_nil) dX8_count_103
  simp only [i_eq, T5] at c_11
  by_cases c_13 : p0 = 6
  · refine lv_topi (fun y_14 ey_14 => ?_)
    obtain rfl : y_14 = 6 := ey_14.trans c_13
    refine lv_tableIn (off := 103) (tgt := 104) hx hb dX8_count_1 (by decide) (by decide) (by decide) (by decide) ?_
    simp only [i_eq, T6] at c_13
    refine lv_aload_n hx hb dX8_count_104 rfl (lv_at hl 0 rfl) ?_
    refine va_get (D := (dC, dI)) (ci := 8) (v := .ref (a 4)) (C := RX8) (T := TX8) (N := 16) hx hb ht iX8 hown hK hP 0 rfl rfl 3 (by decide) (ht _ w_378) (fun _ h9 => h9) rfl dX8_count_105 ?_
    refine va_get (D := (dC, dI)) (ci := 2) (v := .int n_acts) (C := RX2) (T := TX2) (N := 17) hx hb ht iX2 hown hK hP 2 rfl rfl 8 (by decide) (ht _ w_230) (fun _ h9 => h9) rfl dX8_count_108 ?_
    exact W.iret (v := n_acts) hx hb hr (fun t ht hW => ⟨n_acts, rfl, trivial, ht⟩) (fun q h => absurd h List.not_mem_nil) dX8_count_111
  simp only [i_eq, T6] at c_13
  by_cases c_15 : p0 = 7
  · refine lv_topi (fun y_16 ey_16 => ?_)
    obtain rfl : y_16 = 7 := ey_16.trans c_15
    refine lv_tableIn (off := 111) (tgt := 112) hx hb dX8_count_1 (by decide) (by decide) (by decide) (by decide) ?_
    simp only [i_eq, T7] at c_15
    refine lv_aload_n hx hb dX8_count_112 rfl (lv_at hl 0 rfl) ?_
    refine va_get (D := (dC, dI)) (ci := 8) (v := .ref (a 4)) (C := RX8) (T := TX8) (N := 16) hx hb ht iX8 hown hK hP 0 rfl rfl 3 (by decide) (ht _ w_378) (fun _ h9 => h9) rfl dX8_count_113 ?_
    refine va_get (D := (dC, dI)) (ci := 2) (v := .int n_lines) (C := RX2) (T := TX2) (N := 17) hx hb ht iX2 hown hK hP 2 rfl rfl 0 (by decide) (ht _ w_203) (fun _ h9 => h9) rfl dX8_count_116 ?_
    exact W.iret (v := n_lines) hx hb hr (fun t ht hW => ⟨n_lines, rfl, trivial, ht⟩) (fun q h => absurd h List.not_mem_nil) dX8_count_119
  simp only [i_eq, T7] at c_15
  by_cases c_17 : p0 = 8
  · refine lv_topi (fun y_18 ey_18 => ?_)
    obtain rfl : y_18 = 8 := ey_18.trans c_17
    refine lv_tableIn (off := 119) (tgt := 120) hx hb dX8_count_1 (by decide) (by decide) (by decide) (by decide) ?_
    simp only [i_eq, T8] at c_17
    refine lv_aload_n hx hb dX8_count_120 rfl (lv_at hl 0 rfl) ?_
    refine va_get (D := (dC, dI)) (ci := 8) (v := .ref (a 1)) (C := RX8) (T := TX8) (N := 16) hx hb ht iX8 hown hK hP 0 rfl rfl 0 (by decide) (ht _ w_375) (fun _ h9 => h9) rfl dX8_count_121 ?_
    refine va_get (D := (dC, dI)) (ci := 5) (v := .int tl) (C := RX5) (T := TX5) (N := 2) hx hb ht iX5 hown hK hP 1 rfl rfl 1 (by decide) (ht _ w_139) (fun _ h9 => h9) rfl dX8_count_124 ?_
    exact W.iret (v := tl) hx hb hr (fun t ht hW => ⟨tl, rfl, trivial, ht⟩) (fun q h => absurd h List.not_mem_nil) dX8_count_127
  simp only [i_eq, T8] at c_17
  by_cases c_19 : p0 = 9
  · refine lv_topi (fun y_20 ey_20 => ?_)
    obtain rfl : y_20 = 9 := ey_20.trans c_19
    refine lv_tableIn (off := 127) (tgt := 128) hx hb dX8_count_1 (by decide) (by decide) (by decide) (by decide) ?_
    simp only [i_eq, T9] at c_19
    refine lv_aload_n hx hb dX8_count_128 rfl (lv_at hl 0 rfl) ?_
    refine va_get (D := (dC, dI)) (ci := 8) (v := .ref (a 7)) (C := RX8) (T := TX8) (N := 16) hx hb ht iX8 hown hK hP 0 rfl rfl 6 (by decide) (ht _ w_381) (fun _ h9 => h9) rfl dX8_count_129 ?_
    have hPc := hP.sub (ws' := [((a 7), .inr (3, [.ref (a 35), .ref (a 36), .ref (a 37)])), ((a 37), .inl (cI, 4, .inl ss))]) [3, 4] rfl
    refine vp_callSi (W.runV (As := []) (rest := []) ⟨hx, hb, hml, hown, ht⟩ (s_X3_used l dC dI cB cI cJ cZ cL a ss) (cwV 0 ht (gV w_1205 w_1206 w_1207 w_110 w_1208) rfl rfl rfl (by decide +kernel) ⟨Nat.le_of_ble_eq_true rfl, Nat.le_of_ble_eq_true rfl⟩) (pVSn hN hK hPc (ci := 3) (q0 := 0) rfl rfl) rfl rfl hl.1 rfl (lv_room (Nat.le_of_ble_eq_true rfl)) dX8_count_132 ⟨Nat.le_of_ble_eq_true rfl, Nat.le_of_ble_eq_true rfl⟩) (fun r_21 hw => ?_)
    clear hPc
    clear hw
    exact W.iret (v := r_21) hx hb hr (fun t ht hW => ⟨r_21, rfl, trivial, ht⟩) (fun q h => absurd h List.not_mem_nil) dX8_count_135
  simp only [i_eq, T9] at c_19
  refine lv_tableOut (tgt := 136) hx hb dX8_count_1 (by omega) (by decide) ?_
  refine lv_iconst (v := (-1)) hx hb dX8_count_136 (by decide) ?_
  exact W.iret (v := (-1)) hx hb hr (fun t ht hW => ⟨(-1), rfl, trivial, ht⟩) (fun q h => absurd h List.not_mem_nil) dX8_count_137
set_option maxHeartbeats 8000000 in
set_option maxRecDepth 100000 in
theorem s_J7_rangeCheck (l : Launch) (dC : Nat → ClassId) (dI : Nat → Nat → Nat) (cB cI cJ cZ cL : ClassId)   (p1 : Int32) (p2 : Int32) (hr1 : 0 ≤ Int32.toInt p1) (hr2 : Int32.toInt p1 ≤ Int32.toInt p2) (hr3 : Int32.toInt p2 ≤ 240) : Met l yJ7_rangeCheck_23922 (wy yJ7_rangeCheck_23922 cJ7_rangeCheck_23922 3 none) ({ frames := 0, cells := 0, slots := 0, locals := 0 }) (va_Pc [.int 240, .int p1, .int p2] (fun U => va_P (dC, dI) vwCl [] U.heap ∧ va_K (dC, dI) vwCl (tyL cB cI cJ cZ cL) U ∧ NW U)) (va_Sv (fun _ => True)) 0 0 (fun _ => False) := by
  refine Met.ofW (cc := cJ7_rangeCheck_23922) (maxL := 3) (ret := none) (by decide) rfl ?_
  intro p e s m args below meth c s₁ B hml hv
  obtain ⟨rfl, hP, hK, hN⟩ := hv
  have hx := B.exec
  have hb := B.bytes
  have hr := B.returns
  have ht : ∀ w ∈ lw_ok, w.before _ s = true := fun w h => atoms_spec (ws := wy yJ7_rangeCheck_23922 cJ7_rangeCheck_23922 3 none) B.pre w (List.mem_cons_of_mem _ h)
  have hown : s.vm.findClass RJ7 = some m.cls := findClass_of_methodNamed B.named
  have hlocks := B.notSynchronized
  have hl := lv_entry ([.int 240, .int p1, .int p2]) (n := 3) (Nat.le_of_ble_eq_true rfl)
  rw [lg_entry_eq]
  generalize (lg_sl ([.int 240, .int p1, .int p2]) ++ List.replicate (3 - (lg_sl ([.int 240, .int p1, .int p2])).length) Slot.unset).toArray = ls at hl ⊢
  have hl : lv_has ls 3 [(0, .int 240), (1, .int p1), (2, .int p2)] := hl
  have hP : va_P (dC, dI) vwCl [] s.heap := hP
  have rg_p1 := rgI p1
  have rg_p2 := rgI p2
  refine lv_iload_n hx hb dJ7_rangeCheck_23922_0 rfl (lv_at hl 1 rfl) ?_
  refine lv_iload_n hx hb dJ7_rangeCheck_23922_1 rfl (lv_at hl 2 rfl) ?_
  refine lv_icmp_le (tgt := 46) hx hb dJ7_rangeCheck_23922_2 (by decide) (fun _ => ?_) (fun c9 => absurd (by rw [i_le]; exact hr2) c9)
  refine lv_iload_n hx hb dJ7_rangeCheck_23922_46 rfl (lv_at hl 1 rfl) ?_
  refine lv_if_ge (tgt := 59) hx hb dJ7_rangeCheck_23922_47 (by decide) (fun _ => ?_) (fun c9 => absurd (by rw [i_le, T0]; exact hr1) c9)
  refine lv_iload_n hx hb dJ7_rangeCheck_23922_59 rfl (lv_at hl 2 rfl) ?_
  refine lv_iload_n hx hb dJ7_rangeCheck_23922_60 rfl (lv_at hl 0 rfl) ?_
  refine lv_icmp_le (tgt := 73) hx hb dJ7_rangeCheck_23922_61 (by decide) (fun _ => ?_) (fun c9 => absurd (by rw [i_le, T240]; exact hr3) c9)
  exact W.vret hx hb hr (fun t ht hW => ⟨rfl, trivial, ht⟩) (fun q h => absurd h List.not_mem_nil) dJ7_rangeCheck_23922_73
set_option maxHeartbeats 8000000 in
set_option maxRecDepth 100000 in
theorem s_J7_fillJ (l : Launch) (dC : Nat → ClassId) (dI : Nat → Nat → Nat) (cB cI cJ cZ cL : ClassId) (sz : Nat) (q1 : Nat) (f1 : Nat → Int64) (p0 : Int32) (p1 : Int32) (p2 : Int64) (hr1 : 0 ≤ Int32.toInt p0) (hr2 : Int32.toInt p0 ≤ Int32.toInt p1) (hr3 : Int32.toInt p1 ≤ 240) : Met l yJ7_fill_bad5a (wy yJ7_fill_bad5a cJ7_fill_bad5a 6 none) ({ frames := 1, cells := 0, slots := 0, locals := 40 }) (va_Pc [.ref q1, .int p0, .int p1, .long p2] (fun U => U.heap.size = sz ∧ va_P (dC, dI) vwCl [(q1, .inl (cJ, 240, .inr (.inl f1)))] U.heap ∧ va_K (dC, dI) vwCl (tyL cB cI cJ cZ cL) U ∧ va_D (fun _ => True) [(q1, .inl (cJ, 240, .inr (.inl f1)))] ∧ NW U)) (va_Qv (fun u => True) (fun (u : (Nat → Int64)) t => va_P (dC, dI) vwCl [(q1, .inl (cJ, 240, .inr (.inl u)))] t.heap ∧ va_D (va_A [(q1, .inl (cJ, 240, .inr (.inl f1)))] sz) [(q1, .inl (cJ, 240, .inr (.inl u)))]) (va_A [(q1, .inl (cJ, 240, .inr (.inl f1)))] sz)) 0 0 (va_A [(q1, .inl (cJ, 240, .inr (.inl f1)))] sz) := by
  refine Met.ofW (cc := cJ7_fill_bad5a) (maxL := 6) (ret := none) (by decide) rfl ?_
  intro p e s m args below meth c s₁ B hml hv
  obtain ⟨rfl, hsz, hP, hK, hD0, hN⟩ := hv
  have hx := B.exec
  have hb := B.bytes
  have hr := B.returns
  have ht : ∀ w ∈ lw_ok, w.before _ s = true := fun w h => atoms_spec (ws := wy yJ7_fill_bad5a cJ7_fill_bad5a 6 none) B.pre w (List.mem_cons_of_mem _ h)
  have hown : s.vm.findClass RJ7 = some m.cls := findClass_of_methodNamed B.named
  have hlocks := B.notSynchronized
  subst hsz
  have hD := hD0.self (sz := s.heap.size)
  generalize hAe : va_A [(q1, .inl (cJ, 240, .inr (.inl f1)))] s.heap.size = A at hD ⊢
  have hA : ∀ q : Nat, s.heap.size ≤ q → A q := fun q h => by rw [← hAe]; exact Or.inr h
  have hS : va_S A s.heap s.heap [] := va_S.rf
  clear hAe hD0
  have hl := lv_entry ([.ref q1, .int p0, .int p1, .long p2]) (n := 6) (Nat.le_of_ble_eq_true rfl)
  rw [lg_entry_eq]
  generalize (lg_sl ([.ref q1, .int p0, .int p1, .long p2]) ++ List.replicate (6 - (lg_sl ([.ref q1, .int p0, .int p1, .long p2])).length) Slot.unset).toArray = ls at hl ⊢
  have hl : lv_has ls 6 [(0, .ref q1), (1, .int p0), (2, .int p1), (3, .long p2)] := hl
  have hP : va_P (dC, dI) vwCl [(q1, .inl (cJ, 240, .inr (.inl f1)))] s.heap := hP
  have hD : va_D A [(q1, .inl (cJ, 240, .inr (.inl f1)))] := hD
  have rg_p0 := rgI p0
  have rg_p1 := rgI p1
  refine lv_aload_n hx hb dJ7_fill_bad5a_0 rfl (lv_at hl 0 rfl) ?_
  refine va_alen (v := 240) hx hb hK hP 0 2 rfl rfl (by first | decide | (show Int32.ofNat 240 = 240; decide)) dJ7_fill_bad5a_1 ?_
  refine lv_iload_n hx hb dJ7_fill_bad5a_2 rfl (lv_at hl 1 rfl) ?_
  refine lv_iload_n hx hb dJ7_fill_bad5a_3 rfl (lv_at hl 2 rfl) ?_
  have hPc := hP.sub (ws' := []) [] rfl
  refine va_csv (W.runS (As := [.int 240, .int p0, .int p1]) (rest := []) ⟨hx, hb, hml, hown, ht⟩ (s_J7_rangeCheck l dC dI cB cI cJ cZ cL p0 p1 (by first | assumption | omega) (by first | assumption | omega) (by first | assumption | omega)) (va_cwS 3 ht (gQ w_1229 w_1230 w_120 w_1231) rfl rfl rfl (by decide +kernel) ⟨Nat.le_of_ble_eq_true rfl, Nat.le_of_ble_eq_true rfl⟩) (pSSn hN hK hPc) rfl rfl hl.1 rfl (lv_room (Nat.le_of_ble_eq_true rfl)) dJ7_fill_bad5a_4 ⟨Nat.le_of_ble_eq_true rfl, Nat.le_of_ble_eq_true rfl⟩) (fun hw => ?_)
  clear hPc
  clear hw
  refine lv_iload_n hx hb dJ7_fill_bad5a_7 rfl (lv_at hl 1 rfl) ?_
  refine lv_istore (lv' := [(5, .int p0), (0, .ref q1), (1, .int p0), (2, .int p1), (3, .long p2)]) hx hb dJ7_fill_bad5a_8 hl (by decide) rfl (fun ls hl => ?_)
  have lp_10 : ∀ (d : Nat) (v_5 : Int32) (wv_6 : Nat → Int64) (H : Heap) (locs : List Loc) (ls : Array Slot), ((0 ≤ Int32.toInt v_5)) → (2147483647 - Int32.toInt v_5).toNat < d → va_P (dC, dI) vwCl [(q1, .inl (cJ, 240, .inr (.inl wv_6)))] H → va_D A [(q1, .inl (cJ, 240, .inr (.inl wv_6)))] → va_S A s.heap H locs → lv_has ls 6 [(5, .int v_5), (0, .ref q1), (1, .int p0), (2, .int p1), (3, .long p2)] → W p l e (headSpec (wy yJ7_fill_bad5a cJ7_fill_bad5a 6 none) ({ frames := 1, cells := 0, slots := 0, locals := 40 })).room s m ([.ref q1, .int p0, .int p1, .long p2] : List Value).toArray below meth c H locs 0 0 (MQ below (va_Qv (fun u => True) (fun (u : (Nat → Int64)) t => va_P (dC, dI) vwCl [(q1, .inl (cJ, 240, .inr (.inl u)))] t.heap ∧ va_D A [(q1, .inl (cJ, 240, .inr (.inl u)))]) A) ([.ref q1, .int p0, .int p1, .long p2] : List Value).toArray s 0 0 A) (F0 m 10 ls []) := by
    intro d
    induction d with
    | zero => intro v_5 wv_6 H locs ls hI hM; exact absurd hM (Nat.not_lt_zero _)
    | succ d ih_11 =>
      intro v_5 wv_6 H locs ls hI hM hP hD hS hl
      refine lv_iload hx hb dJ7_fill_bad5a_10 (lv_at hl 0 rfl) ?_
      refine lv_iload_n hx hb dJ7_fill_bad5a_12 rfl (lv_at hl 3 rfl) ?_
      refine lv_icmp_ge (tgt := 27) hx hb dJ7_fill_bad5a_13 (by decide) (fun c_12 => ?_) (fun c_12 => ?_)
      · (try simp only [i_lt, i_le, i_eq] at c_12)
        have hP9 := hP.sub (ws' := [(q1, .inl (cJ, 240, .inr (.inl wv_6)))]) [0] rfl
        have hD9 := hD.sub (ws' := [(q1, .inl (cJ, 240, .inr (.inl wv_6)))]) [0] (by decide) rfl
        exact W.vret hx hb hr (fun t ht hW => ⟨⟨wv_6, rfl, trivial, ⟨by rw [ht]; exact hP9, hD9⟩⟩, hS.F ht⟩) hS.2.2 dJ7_fill_bad5a_27
      · (try simp only [i_lt, i_le, i_eq] at c_12)
        refine lv_aload_n hx hb dJ7_fill_bad5a_16 rfl (lv_at hl 1 rfl) ?_
        refine lv_iload hx hb dJ7_fill_bad5a_17 (lv_at hl 0 rfl) ?_
        refine lv_lload_n hx hb dJ7_fill_bad5a_19 rfl (lv_at hl 4 rfl) ?_
        refine va_last hx hb hK hP hD hS 0 2 rfl rfl (vp_in_iff.mpr (by omega)) dJ7_fill_bad5a_20 (fun H locs hP hD hS => ?_)
        obtain ⟨f_13, ef_13⟩ : ∃ z : Nat → Int64, z = vp_updL wv_6 (Int32.toNatClampNeg v_5) p2 := ⟨_, rfl⟩
        rw [← ef_13] at hP hD
        clear ef_13
        have hP : va_P (dC, dI) vwCl [(q1, .inl (cJ, 240, .inr (.inl f_13)))] H := hP
        have hD : va_D A [(q1, .inl (cJ, 240, .inr (.inl f_13)))] := hD
        obtain ⟨y_14, ey_14⟩ : ∃ z : Int32, z = v_5 + 1 := ⟨_, rfl⟩
        have ty_14 := iaddF ey_14
        simp only [T1] at ty_14
        refine lv_iinc (v := y_14) (lv' := [(5, .int y_14), (0, .ref q1), (1, .int p0), (2, .int p1), (3, .long p2)]) hx hb dJ7_fill_bad5a_21 hl (k := 0) rfl (by rw [ey_14]; rfl) (by decide) rfl (fun ls hl => ?_)
        clear ey_14
        refine lv_goto (tgt := 10) hx hb dJ7_fill_bad5a_24 (by decide) ?_
        exact ih_11 y_14 f_13 _ _ _ (by first | omega | assumption) (by omega) (hP.sub (ws' := [(q1, .inl (cJ, 240, .inr (.inl f_13)))]) [0] rfl) (hD.sub (ws' := [(q1, .inl (cJ, 240, .inr (.inl f_13)))]) [0] (by decide) rfl) hS (lv_sub hl [0, 1, 2, 3, 4] rfl)
  exact lp_10 _ p0 f1 _ _ _ (by first | omega | decide | assumption) (Nat.lt_succ_self _) hP hD hS (lv_sub hl [0, 1, 2, 3, 4] rfl)
set_option maxHeartbeats 8000000 in
set_option maxRecDepth 100000 in
theorem s_X3_lay (l : Launch) (dC : Nat → ClassId) (dI : Nat → Nat → Nat) (cB cI cJ cZ cL : ClassId) (sz : Nat) (a : Nat → Nat) (sn : Nat → Int64) (sw : Nat → Int32) (ss : Nat → Int32) (p0 : Int32) (p1 : Int32) (p2 : Int32) (h0 : 0 ≤ Int32.toInt p0 ∧ Int32.toInt p0 ≤ 3) (h2 : 0 ≤ Int32.toInt p2 ∧ Int32.toInt p2 ≤ 60) (hss : ∀ i : Nat, -1 ≤ Int32.toInt (ss i) ∧ Int32.toInt (ss i) ≤ 60) : Met l yX3_lay (wy yX3_lay cX3_lay 4 none) ({ frames := 2, cells := 0, slots := 0, locals := 80 }) (va_Pc [.ref (a 7), .int p0, .int p1, .int p2] (fun U => U.heap.size = sz ∧ va_P (dC, dI) vwCl [((a 7), .inr (3, [.ref (a 35), .ref (a 36), .ref (a 37)])), ((a 35), .inl (cJ, 240, .inr (.inl sn))), ((a 36), .inl (cI, 4, .inl sw)), ((a 37), .inl (cI, 4, .inl ss))] U.heap ∧ va_K (dC, dI) vwCl (tyL cB cI cJ cZ cL) U ∧ va_D (fun _ => True) [((a 7), .inr (3, [.ref (a 35), .ref (a 36), .ref (a 37)])), ((a 35), .inl (cJ, 240, .inr (.inl sn))), ((a 36), .inl (cI, 4, .inl sw)), ((a 37), .inl (cI, 4, .inl ss))] ∧ NW U)) (va_Qv (fun u => ∀ i : Nat, -1 ≤ Int32.toInt (u.2.2 i) ∧ Int32.toInt (u.2.2 i) ≤ 60) (fun (u : (Nat → Int64) × (Nat → Int32) × (Nat → Int32)) t => va_P (dC, dI) vwCl [((a 7), .inr (3, [.ref (a 35), .ref (a 36), .ref (a 37)])), ((a 35), .inl (cJ, 240, .inr (.inl u.1))), ((a 36), .inl (cI, 4, .inl u.2.1)), ((a 37), .inl (cI, 4, .inl u.2.2))] t.heap ∧ va_D (va_A [((a 7), .inr (3, [.ref (a 35), .ref (a 36), .ref (a 37)])), ((a 35), .inl (cJ, 240, .inr (.inl sn))), ((a 36), .inl (cI, 4, .inl sw)), ((a 37), .inl (cI, 4, .inl ss))] sz) [((a 7), .inr (3, [.ref (a 35), .ref (a 36), .ref (a 37)])), ((a 35), .inl (cJ, 240, .inr (.inl u.1))), ((a 36), .inl (cI, 4, .inl u.2.1)), ((a 37), .inl (cI, 4, .inl u.2.2))]) (va_A [((a 7), .inr (3, [.ref (a 35), .ref (a 36), .ref (a 37)])), ((a 35), .inl (cJ, 240, .inr (.inl sn))), ((a 36), .inl (cI, 4, .inl sw)), ((a 37), .inl (cI, 4, .inl ss))] sz)) 0 0 (va_A [((a 7), .inr (3, [.ref (a 35), .ref (a 36), .ref (a 37)])), ((a 35), .inl (cJ, 240, .inr (.inl sn))), ((a 36), .inl (cI, 4, .inl sw)), ((a 37), .inl (cI, 4, .inl ss))] sz) := by
  refine Met.ofW (cc := cX3_lay) (maxL := 4) (ret := none) (by decide) rfl ?_
  intro p e s m args below meth c s₁ B hml hv
  obtain ⟨rfl, hsz, hP, hK, hD0, hN⟩ := hv
  have hx := B.exec
  have hb := B.bytes
  have hr := B.returns
  have ht : ∀ w ∈ lw_ok, w.before _ s = true := fun w h => atoms_spec (ws := wy yX3_lay cX3_lay 4 none) B.pre w (List.mem_cons_of_mem _ h)
  have hown : s.vm.findClass RX3 = some m.cls := findClass_of_methodNamed B.named
  have hlocks := B.notSynchronized
  subst hsz
  have hD := hD0.self (sz := s.heap.size)
  generalize hAe : va_A [((a 7), .inr (3, [.ref (a 35), .ref (a 36), .ref (a 37)])), ((a 35), .inl (cJ, 240, .inr (.inl sn))), ((a 36), .inl (cI, 4, .inl sw)), ((a 37), .inl (cI, 4, .inl ss))] s.heap.size = A at hD ⊢
  have hA : ∀ q : Nat, s.heap.size ≤ q → A q := fun q h => by rw [← hAe]; exact Or.inr h
  have hS : va_S A s.heap s.heap [] := va_S.rf
  clear hAe hD0
  have hl := lv_entry ([.ref (a 7), .int p0, .int p1, .int p2]) (n := 4) (Nat.le_of_ble_eq_true rfl)
  rw [lg_entry_eq]
  generalize (lg_sl ([.ref (a 7), .int p0, .int p1, .int p2]) ++ List.replicate (4 - (lg_sl ([.ref (a 7), .int p0, .int p1, .int p2])).length) Slot.unset).toArray = ls at hl ⊢
  have hl : lv_has ls 4 [(0, .ref (a 7)), (1, .int p0), (2, .int p1), (3, .int p2)] := hl
  have hP : va_P (dC, dI) vwCl [((a 7), .inr (3, [.ref (a 35), .ref (a 36), .ref (a 37)])), ((a 35), .inl (cJ, 240, .inr (.inl sn))), ((a 36), .inl (cI, 4, .inl sw)), ((a 37), .inl (cI, 4, .inl ss))] s.heap := hP
  have hD : va_D A [((a 7), .inr (3, [.ref (a 35), .ref (a 36), .ref (a 37)])), ((a 35), .inl (cJ, 240, .inr (.inl sn))), ((a 36), .inl (cI, 4, .inl sw)), ((a 37), .inl (cI, 4, .inl ss))] := hD
  have rg_p0 := rgI p0
  have rg_p1 := rgI p1
  have rg_p2 := rgI p2
  refine lv_aload_n hx hb dX3_lay_0 rfl (lv_at hl 0 rfl) ?_
  refine va_get (D := (dC, dI)) (ci := 3) (v := .ref (a 36)) (C := RX3) (T := TX3) (N := 3) hx hb ht iX3 hown hK hP 0 rfl rfl 1 (by decide) (ht _ w_290) (fun _ h9 => h9) rfl dX3_lay_1 ?_
  refine lv_iload_n hx hb dX3_lay_4 rfl (lv_at hl 1 rfl) ?_
  refine lv_iload_n hx hb dX3_lay_5 rfl (lv_at hl 2 rfl) ?_
  refine va_iast hx hb hK hP hD hS 2 1 rfl rfl (vp_in_iff.mpr (by omega)) dX3_lay_6 (fun H locs hP hD hS => ?_)
  obtain ⟨f_1, ef_1⟩ : ∃ z : Nat → Int32, z = upd sw (Int32.toNatClampNeg p0) p1 := ⟨_, rfl⟩
  rw [← ef_1] at hP hD
  clear ef_1
  have hP : va_P (dC, dI) vwCl [((a 7), .inr (3, [.ref (a 35), .ref (a 36), .ref (a 37)])), ((a 35), .inl (cJ, 240, .inr (.inl sn))), ((a 36), .inl (cI, 4, .inl f_1)), ((a 37), .inl (cI, 4, .inl ss))] H := hP
  have hD : va_D A [((a 7), .inr (3, [.ref (a 35), .ref (a 36), .ref (a 37)])), ((a 35), .inl (cJ, 240, .inr (.inl sn))), ((a 36), .inl (cI, 4, .inl f_1)), ((a 37), .inl (cI, 4, .inl ss))] := hD
  refine lv_aload_n hx hb dX3_lay_7 rfl (lv_at hl 0 rfl) ?_
  refine va_get (D := (dC, dI)) (ci := 3) (v := .ref (a 37)) (C := RX3) (T := TX3) (N := 3) hx hb ht iX3 hown hK hP 0 rfl rfl 2 (by decide) (ht _ w_292) (fun _ h9 => h9) rfl dX3_lay_8 ?_
  refine lv_iload_n hx hb dX3_lay_11 rfl (lv_at hl 1 rfl) ?_
  refine lv_iload_n hx hb dX3_lay_12 rfl (lv_at hl 3 rfl) ?_
  refine va_iast hx hb hK hP hD hS 3 1 rfl rfl (vp_in_iff.mpr (by omega)) dX3_lay_13 (fun H locs hP hD hS => ?_)
  obtain ⟨f_2, ef_2⟩ : ∃ z : Nat → Int32, z = upd ss (Int32.toNatClampNeg p0) p2 := ⟨_, rfl⟩
  rw [← ef_2] at hP hD
  have hr_3 := rgS_upd hss ef_2 (by omega)
  have hP : va_P (dC, dI) vwCl [((a 7), .inr (3, [.ref (a 35), .ref (a 36), .ref (a 37)])), ((a 35), .inl (cJ, 240, .inr (.inl sn))), ((a 36), .inl (cI, 4, .inl f_1)), ((a 37), .inl (cI, 4, .inl f_2))] H := hP
  have hD : va_D A [((a 7), .inr (3, [.ref (a 35), .ref (a 36), .ref (a 37)])), ((a 35), .inl (cJ, 240, .inr (.inl sn))), ((a 36), .inl (cI, 4, .inl f_1)), ((a 37), .inl (cI, 4, .inl f_2))] := hD
  refine lv_aload_n hx hb dX3_lay_14 rfl (lv_at hl 0 rfl) ?_
  refine va_get (D := (dC, dI)) (ci := 3) (v := .ref (a 35)) (C := RX3) (T := TX3) (N := 3) hx hb ht iX3 hown hK hP 0 rfl rfl 0 (by decide) (ht _ w_289) (fun _ h9 => h9) rfl dX3_lay_15 ?_
  refine lv_iload_n hx hb dX3_lay_18 rfl (lv_at hl 1 rfl) ?_
  refine lv_bipush (v := 60) hx hb dX3_lay_19 (by decide) ?_
  refine lv_imul hx hb dX3_lay_21 ?_
  refine lv_topi (fun y_4 ey_4 => ?_)
  have ty_4 := imulF ey_4
  simp only [T60] at ty_4
  clear ey_4
  refine lv_iload_n hx hb dX3_lay_22 rfl (lv_at hl 1 rfl) ?_
  refine lv_iconst (v := 1) hx hb dX3_lay_23 (by decide) ?_
  refine lv_iadd hx hb dX3_lay_24 ?_
  refine lv_topi (fun y_5 ey_5 => ?_)
  have ty_5 := iaddF ey_5
  simp only [T1] at ty_5
  clear ey_5
  refine lv_bipush (v := 60) hx hb dX3_lay_25 (by decide) ?_
  refine lv_imul hx hb dX3_lay_27 ?_
  refine lv_topi (fun y_6 ey_6 => ?_)
  have ty_6 := imulF ey_6
  simp only [T60] at ty_6
  clear ey_6
  refine lv_lconst (v := 0) hx hb dX3_lay_28 (by decide) ?_
  have hPc := hP.sub (ws' := [((a 35), .inl (cJ, 240, .inr (.inl sn)))]) [1] rfl
  have hDc := hD.sub (ws' := [((a 35), .inl (cJ, 240, .inr (.inl sn)))]) [1] (by decide) rfl
  have hFc := va_free (wc := [((a 35), .inl (cJ, 240, .inr (.inl sn)))]) hD hS hA [1] rfl
  refine va_callv (va_runS (As := [.ref (a 35), .int y_4, .int y_6, .long 0]) (rest := []) ⟨hx, hb, hml, hown, ht⟩ (s_J7_fillJ l dC dI cB cI cJ cZ cL H.size (a 35) sn y_4 y_6 0 (by first | assumption | omega) (by first | assumption | omega) (by first | assumption | omega)) (va_cwS 4 ht (gQ w_1226 w_1227 w_120 w_1228) rfl rfl rfl (by decide +kernel) ⟨Nat.le_of_ble_eq_true rfl, Nat.le_of_ble_eq_true rfl⟩) (pSQn hN hK hPc hDc) rfl rfl hl.1 rfl (lv_room (Nat.le_of_ble_eq_true rfl)) dX3_lay_29 ⟨Nat.le_of_ble_eq_true rfl, Nat.le_of_ble_eq_true rfl⟩) hS (fun q _ h => hFc q h) hFc (fun u_8 t1 H1 locs ht1 hvm hw hB hz1 hk1 hS => ?_)
  obtain ⟨hP1, hD1⟩ := hB
  rw [ht1] at hP1
  obtain ⟨hP, hD⟩ := va_join (wr := [((a 7), .inr (3, [.ref (a 35), .ref (a 36), .ref (a 37)])), ((a 36), .inl (cI, 4, .inl f_1)), ((a 37), .inl (cI, 4, .inl f_2))]) (w1 := [((a 35), .inl (cJ, 240, .inr (.inl u_8)))]) hP hD [1] [0, 2, 3] rfl rfl (by decide) (by decide) hk1 hFc hP1 hD1
  clear hFc hDc hPc hP1 hD1 hz1 hk1 hvm
  generalize H1 = H at hP hS ⊢
  have hP : va_P (dC, dI) vwCl [((a 7), .inr (3, [.ref (a 35), .ref (a 36), .ref (a 37)])), ((a 36), .inl (cI, 4, .inl f_1)), ((a 37), .inl (cI, 4, .inl f_2)), ((a 35), .inl (cJ, 240, .inr (.inl u_8)))] H := hP
  have hD : va_D A [((a 7), .inr (3, [.ref (a 35), .ref (a 36), .ref (a 37)])), ((a 36), .inl (cI, 4, .inl f_1)), ((a 37), .inl (cI, 4, .inl f_2)), ((a 35), .inl (cJ, 240, .inr (.inl u_8)))] := hD
  clear hw
  have hP9 := hP.sub (ws' := [((a 7), .inr (3, [.ref (a 35), .ref (a 36), .ref (a 37)])), ((a 35), .inl (cJ, 240, .inr (.inl u_8))), ((a 36), .inl (cI, 4, .inl f_1)), ((a 37), .inl (cI, 4, .inl f_2))]) [0, 3, 1, 2] rfl
  have hD9 := hD.sub (ws' := [((a 7), .inr (3, [.ref (a 35), .ref (a 36), .ref (a 37)])), ((a 35), .inl (cJ, 240, .inr (.inl u_8))), ((a 36), .inl (cI, 4, .inl f_1)), ((a 37), .inl (cI, 4, .inl f_2))]) [0, 3, 1, 2] (by decide) rfl
  exact W.vret hx hb hr (fun t ht hW => ⟨⟨(u_8, f_1, f_2), rfl, (by first | assumption | (dsimp only; assumption)), ⟨by rw [ht]; exact hP9, hD9⟩⟩, hS.F ht⟩) hS.2.2 dX3_lay_32
set_option maxHeartbeats 8000000 in
set_option maxRecDepth 100000 in
theorem s_X8_row (l : Launch) (dC : Nat → ClassId) (dI : Nat → Nat → Nat) (cB cI cJ cZ cL : ClassId) (sz : Nat) (a : Nat → Nat) (fk : Int32) (fp : Int32) (sn : Nat → Int64) (sw : Nat → Int32) (ss : Nat → Int32) (p0 : Int32) (p1 : Int32) (p2 : Int32) (hss : ∀ i : Nat, -1 ≤ Int32.toInt (ss i) ∧ Int32.toInt (ss i) ≤ 60) : Met l yX8_row (wy yX8_row cX8_row 4 (some .int)) ({ frames := 3, cells := 0, slots := 0, locals := 120 }) (va_Pc [.ref (a 0), .int p0, .int p1, .int p2] (fun U => U.heap.size = sz ∧ va_P (dC, dI) vwCl [((a 0), .inr (8, [.ref (a 1), .ref (a 2), .ref (a 3), .ref (a 4), .ref (a 5), .ref (a 6), .ref (a 7), .ref (a 8), .ref (a 9), .ref (a 10), .ref (a 11), .ref (a 12), .ref (a 13), .ref (a 14), .int fk, .int fp])), ((a 7), .inr (3, [.ref (a 35), .ref (a 36), .ref (a 37)])), ((a 35), .inl (cJ, 240, .inr (.inl sn))), ((a 36), .inl (cI, 4, .inl sw)), ((a 37), .inl (cI, 4, .inl ss))] U.heap ∧ va_K (dC, dI) vwCl (tyL cB cI cJ cZ cL) U ∧ va_D (fun _ => True) [((a 0), .inr (8, [.ref (a 1), .ref (a 2), .ref (a 3), .ref (a 4), .ref (a 5), .ref (a 6), .ref (a 7), .ref (a 8), .ref (a 9), .ref (a 10), .ref (a 11), .ref (a 12), .ref (a 13), .ref (a 14), .int fk, .int fp])), ((a 7), .inr (3, [.ref (a 35), .ref (a 36), .ref (a 37)])), ((a 35), .inl (cJ, 240, .inr (.inl sn))), ((a 36), .inl (cI, 4, .inl sw)), ((a 37), .inl (cI, 4, .inl ss))] ∧ NW U)) (va_Qi (fun r u => (∀ i : Nat, -1 ≤ Int32.toInt (u.2.2 i) ∧ Int32.toInt (u.2.2 i) ≤ 60) ∧ PRow (Int32.toInt p0) (Int32.toInt p1) (Int32.toInt p2) r) (fun (u : (Nat → Int64) × (Nat → Int32) × (Nat → Int32)) t => va_P (dC, dI) vwCl [((a 0), .inr (8, [.ref (a 1), .ref (a 2), .ref (a 3), .ref (a 4), .ref (a 5), .ref (a 6), .ref (a 7), .ref (a 8), .ref (a 9), .ref (a 10), .ref (a 11), .ref (a 12), .ref (a 13), .ref (a 14), .int fk, .int fp])), ((a 7), .inr (3, [.ref (a 35), .ref (a 36), .ref (a 37)])), ((a 35), .inl (cJ, 240, .inr (.inl u.1))), ((a 36), .inl (cI, 4, .inl u.2.1)), ((a 37), .inl (cI, 4, .inl u.2.2))] t.heap ∧ va_D (va_A [((a 0), .inr (8, [.ref (a 1), .ref (a 2), .ref (a 3), .ref (a 4), .ref (a 5), .ref (a 6), .ref (a 7), .ref (a 8), .ref (a 9), .ref (a 10), .ref (a 11), .ref (a 12), .ref (a 13), .ref (a 14), .int fk, .int fp])), ((a 7), .inr (3, [.ref (a 35), .ref (a 36), .ref (a 37)])), ((a 35), .inl (cJ, 240, .inr (.inl sn))), ((a 36), .inl (cI, 4, .inl sw)), ((a 37), .inl (cI, 4, .inl ss))] sz) [((a 0), .inr (8, [.ref (a 1), .ref (a 2), .ref (a 3), .ref (a 4), .ref (a 5), .ref (a 6), .ref (a 7), .ref (a 8), .ref (a 9), .ref (a 10), .ref (a 11), .ref (a 12), .ref (a 13), .ref (a 14), .int fk, .int fp])), ((a 7), .inr (3, [.ref (a 35), .ref (a 36), .ref (a 37)])), ((a 35), .inl (cJ, 240, .inr (.inl u.1))), ((a 36), .inl (cI, 4, .inl u.2.1)), ((a 37), .inl (cI, 4, .inl u.2.2))]) (va_A [((a 0), .inr (8, [.ref (a 1), .ref (a 2), .ref (a 3), .ref (a 4), .ref (a 5), .ref (a 6), .ref (a 7), .ref (a 8), .ref (a 9), .ref (a 10), .ref (a 11), .ref (a 12), .ref (a 13), .ref (a 14), .int fk, .int fp])), ((a 7), .inr (3, [.ref (a 35), .ref (a 36), .ref (a 37)])), ((a 35), .inl (cJ, 240, .inr (.inl sn))), ((a 36), .inl (cI, 4, .inl sw)), ((a 37), .inl (cI, 4, .inl ss))] sz)) 0 0 (va_A [((a 0), .inr (8, [.ref (a 1), .ref (a 2), .ref (a 3), .ref (a 4), .ref (a 5), .ref (a 6), .ref (a 7), .ref (a 8), .ref (a 9), .ref (a 10), .ref (a 11), .ref (a 12), .ref (a 13), .ref (a 14), .int fk, .int fp])), ((a 7), .inr (3, [.ref (a 35), .ref (a 36), .ref (a 37)])), ((a 35), .inl (cJ, 240, .inr (.inl sn))), ((a 36), .inl (cI, 4, .inl sw)), ((a 37), .inl (cI, 4, .inl ss))] sz) := by
  refine Met.ofW (cc := cX8_row) (maxL := 4) (ret := (some .int)) (by decide) rfl ?_
  intro p e s m args below meth c s₁ B hml hv
  obtain ⟨rfl, hsz, hP, hK, hD0, hN⟩ := hv
  have hx := B.exec
  have hb := B.bytes
  have hr := B.returns
  have ht : ∀ w ∈ lw_ok, w.before _ s = true := fun w h => atoms_spec (ws := wy yX8_row cX8_row 4 (some .int)) B.pre w (List.mem_cons_of_mem _ h)
  have hown : s.vm.findClass RX8 = some m.cls := findClass_of_methodNamed B.named
  have hlocks := B.notSynchronized
  subst hsz
  have hD := hD0.self (sz := s.heap.size)
  generalize hAe : va_A [((a 0), .inr (8, [.ref (a 1), .ref (a 2), .ref (a 3), .ref (a 4), .ref (a 5), .ref (a 6), .ref (a 7), .ref (a 8), .ref (a 9), .ref (a 10), .ref (a 11), .ref (a 12), .ref (a 13), .ref (a 14), .int fk, .int fp])), ((a 7), .inr (3, [.ref (a 35), .ref (a 36), .ref (a 37)])), ((a 35), .inl (cJ, 240, .inr (.inl sn))), ((a 36), .inl (cI, 4, .inl sw)), ((a 37), .inl (cI, 4, .inl ss))] s.heap.size = A at hD ⊢
  have hA : ∀ q : Nat, s.heap.size ≤ q → A q := fun q h => by rw [← hAe]; exact Or.inr h
  have hS : va_S A s.heap s.heap [] := va_S.rf
  clear hAe hD0
  have hl := lv_entry ([.ref (a 0), .int p0, .int p1, .int p2]) (n := 4) (Nat.le_of_ble_eq_true rfl)
  rw [lg_entry_eq]
  generalize (lg_sl ([.ref (a 0), .int p0, .int p1, .int p2]) ++ List.replicate (4 - (lg_sl ([.ref (a 0), .int p0, .int p1, .int p2])).length) Slot.unset).toArray = ls at hl ⊢
  have hl : lv_has ls 4 [(0, .ref (a 0)), (1, .int p0), (2, .int p1), (3, .int p2)] := hl
  have hP : va_P (dC, dI) vwCl [((a 0), .inr (8, [.ref (a 1), .ref (a 2), .ref (a 3), .ref (a 4), .ref (a 5), .ref (a 6), .ref (a 7), .ref (a 8), .ref (a 9), .ref (a 10), .ref (a 11), .ref (a 12), .ref (a 13), .ref (a 14), .int fk, .int fp])), ((a 7), .inr (3, [.ref (a 35), .ref (a 36), .ref (a 37)])), ((a 35), .inl (cJ, 240, .inr (.inl sn))), ((a 36), .inl (cI, 4, .inl sw)), ((a 37), .inl (cI, 4, .inl ss))] s.heap := hP
  have hD : va_D A [((a 0), .inr (8, [.ref (a 1), .ref (a 2), .ref (a 3), .ref (a 4), .ref (a 5), .ref (a 6), .ref (a 7), .ref (a 8), .ref (a 9), .ref (a 10), .ref (a 11), .ref (a 12), .ref (a 13), .ref (a 14), .int fk, .int fp])), ((a 7), .inr (3, [.ref (a 35), .ref (a 36), .ref (a 37)])), ((a 35), .inl (cJ, 240, .inr (.inl sn))), ((a 36), .inl (cI, 4, .inl sw)), ((a 37), .inl (cI, 4, .inl ss))] := hD
  have rg_p0 := rgI p0
  have rg_p1 := rgI p1
  have rg_p2 := rgI p2
  refine lv_iload_n hx hb dX8_row_0 rfl (lv_at hl 1 rfl) ?_
  have hPc := hP.sub (ws' := []) [] rfl
  refine vp_callSi (W.runS (As := [.int p0]) (rest := []) ⟨hx, hb, hml, hown, ht⟩ (s_X8_isSlot l dC dI cB cI cJ cZ cL a p0) (va_cwS 1 ht (gQ w_1030 w_1031 w_105 w_1032) rfl rfl rfl (by decide +kernel) ⟨Nat.le_of_ble_eq_true rfl, Nat.le_of_ble_eq_true rfl⟩) (pSSn hN hK hPc) rfl rfl hl.1 rfl (lv_room (Nat.le_of_ble_eq_true rfl)) dX8_row_1 ⟨Nat.le_of_ble_eq_true rfl, Nat.le_of_ble_eq_true rfl⟩) (fun r_1 hw => ?_)
  clear hPc
  (try dsimp only at hw)
  have hw_2 := hw
  clear hw
  rcases hw_2 with ⟨hw, c_3⟩ | ⟨hw, c_3⟩
  · subst hw
    refine lv_if_eq (tgt := 22) hx hb dX8_row_4 (by decide) (fun c9 => by first | exact absurd c9 (by decide) | exact absurd (by decide) c9) (fun _ => ?_)
    refine lv_iload_n hx hb dX8_row_7 rfl (lv_at hl 2 rfl) ?_
    refine lv_if_lt (tgt := 22) hx hb dX8_row_8 (by decide) (fun c_4 => ?_) (fun c_4 => ?_)
    · (try simp only [i_lt, i_le, i_eq, T0] at c_4)
      refine lv_bipush (v := (-2)) hx hb dX8_row_22 (by decide) ?_
      have hP9 := hP.sub (ws' := [((a 0), .inr (8, [.ref (a 1), .ref (a 2), .ref (a 3), .ref (a 4), .ref (a 5), .ref (a 6), .ref (a 7), .ref (a 8), .ref (a 9), .ref (a 10), .ref (a 11), .ref (a 12), .ref (a 13), .ref (a 14), .int fk, .int fp])), ((a 7), .inr (3, [.ref (a 35), .ref (a 36), .ref (a 37)])), ((a 35), .inl (cJ, 240, .inr (.inl sn))), ((a 36), .inl (cI, 4, .inl sw)), ((a 37), .inl (cI, 4, .inl ss))]) [0, 1, 2, 3, 4] rfl
      have hD9 := hD.sub (ws' := [((a 0), .inr (8, [.ref (a 1), .ref (a 2), .ref (a 3), .ref (a 4), .ref (a 5), .ref (a 6), .ref (a 7), .ref (a 8), .ref (a 9), .ref (a 10), .ref (a 11), .ref (a 12), .ref (a 13), .ref (a 14), .int fk, .int fp])), ((a 7), .inr (3, [.ref (a 35), .ref (a 36), .ref (a 37)])), ((a 35), .inl (cJ, 240, .inr (.inl sn))), ((a 36), .inl (cI, 4, .inl sw)), ((a 37), .inl (cI, 4, .inl ss))]) [0, 1, 2, 3, 4] (by decide) rfl
      exact W.iret (v := (-2)) hx hb hr (fun t ht hW => ⟨⟨(-2), (sn, sw, ss), rfl, ⟨by first | assumption | (dsimp only; assumption), by exact Or.inl ⟨rfl, by omega⟩⟩, ⟨by rw [ht]; exact hP9, hD9⟩⟩, hS.F ht⟩) hS.2.2 dX8_row_24
    · (try simp only [i_lt, i_le, i_eq, T0] at c_4)
      refine lv_iload_n hx hb dX8_row_11 rfl (lv_at hl 2 rfl) ?_
      refine lv_iconst (v := 3) hx hb dX8_row_12 (by decide) ?_
      refine lv_icmp_gt (tgt := 22) hx hb dX8_row_13 (by decide) (fun c_5 => ?_) (fun c_5 => ?_)
      · (try simp only [i_lt, i_le, i_eq, T3] at c_5)
        refine lv_bipush (v := (-2)) hx hb dX8_row_22 (by decide) ?_
        have hP9 := hP.sub (ws' := [((a 0), .inr (8, [.ref (a 1), .ref (a 2), .ref (a 3), .ref (a 4), .ref (a 5), .ref (a 6), .ref (a 7), .ref (a 8), .ref (a 9), .ref (a 10), .ref (a 11), .ref (a 12), .ref (a 13), .ref (a 14), .int fk, .int fp])), ((a 7), .inr (3, [.ref (a 35), .ref (a 36), .ref (a 37)])), ((a 35), .inl (cJ, 240, .inr (.inl sn))), ((a 36), .inl (cI, 4, .inl sw)), ((a 37), .inl (cI, 4, .inl ss))]) [0, 1, 2, 3, 4] rfl
        have hD9 := hD.sub (ws' := [((a 0), .inr (8, [.ref (a 1), .ref (a 2), .ref (a 3), .ref (a 4), .ref (a 5), .ref (a 6), .ref (a 7), .ref (a 8), .ref (a 9), .ref (a 10), .ref (a 11), .ref (a 12), .ref (a 13), .ref (a 14), .int fk, .int fp])), ((a 7), .inr (3, [.ref (a 35), .ref (a 36), .ref (a 37)])), ((a 35), .inl (cJ, 240, .inr (.inl sn))), ((a 36), .inl (cI, 4, .inl sw)), ((a 37), .inl (cI, 4, .inl ss))]) [0, 1, 2, 3, 4] (by decide) rfl
        exact W.iret (v := (-2)) hx hb hr (fun t ht hW => ⟨⟨(-2), (sn, sw, ss), rfl, ⟨by first | assumption | (dsimp only; assumption), by exact Or.inl ⟨rfl, by omega⟩⟩, ⟨by rw [ht]; exact hP9, hD9⟩⟩, hS.F ht⟩) hS.2.2 dX8_row_24
      · (try simp only [i_lt, i_le, i_eq, T3] at c_5)
        refine lv_iload_n hx hb dX8_row_16 rfl (lv_at hl 3 rfl) ?_
        refine lv_bipush (v := 60) hx hb dX8_row_17 (by decide) ?_
        refine lv_icmp_le (tgt := 25) hx hb dX8_row_19 (by decide) (fun c_6 => ?_) (fun c_6 => ?_)
        · (try simp only [i_lt, i_le, i_eq, T60] at c_6)
          refine lv_iload_n hx hb dX8_row_25 rfl (lv_at hl 3 rfl) ?_
          refine lv_if_ge (tgt := 32) hx hb dX8_row_26 (by decide) (fun c_7 => ?_) (fun c_7 => ?_)
          · (try simp only [i_lt, i_le, i_eq, T0] at c_7)
            refine lv_aload_n hx hb dX8_row_32 rfl (lv_at hl 0 rfl) ?_
            refine va_get (D := (dC, dI)) (ci := 8) (v := .ref (a 7)) (C := RX8) (T := TX8) (N := 16) hx hb ht iX8 hown hK hP 0 rfl rfl 6 (by decide) (ht _ w_381) (fun _ h9 => h9) rfl dX8_row_33 ?_
            refine lv_iload_n hx hb dX8_row_36 rfl (lv_at hl 1 rfl) ?_
            refine lv_iload_n hx hb dX8_row_37 rfl (lv_at hl 2 rfl) ?_
            refine lv_iload_n hx hb dX8_row_38 rfl (lv_at hl 3 rfl) ?_
            have hPc := hP.sub (ws' := [((a 7), .inr (3, [.ref (a 35), .ref (a 36), .ref (a 37)])), ((a 35), .inl (cJ, 240, .inr (.inl sn))), ((a 36), .inl (cI, 4, .inl sw)), ((a 37), .inl (cI, 4, .inl ss))]) [1, 2, 3, 4] rfl
            have hDc := hD.sub (ws' := [((a 7), .inr (3, [.ref (a 35), .ref (a 36), .ref (a 37)])), ((a 35), .inl (cJ, 240, .inr (.inl sn))), ((a 36), .inl (cI, 4, .inl sw)), ((a 37), .inl (cI, 4, .inl ss))]) [1, 2, 3, 4] (by decide) rfl
            have hFc := va_free (wc := [((a 7), .inr (3, [.ref (a 35), .ref (a 36), .ref (a 37)])), ((a 35), .inl (cJ, 240, .inr (.inl sn))), ((a 36), .inl (cI, 4, .inl sw)), ((a 37), .inl (cI, 4, .inl ss))]) hD hS hA [1, 2, 3, 4] rfl
            refine va_callv (va_runV (As := [.int p0, .int p1, .int p2]) (rest := []) ⟨hx, hb, hml, hown, ht⟩ (s_X3_lay l dC dI cB cI cJ cZ cL s.heap.size a sn sw ss p0 p1 p2 (by first | assumption | omega) (by first | assumption | omega) (by first | assumption | omega)) (cwV 3 ht (gV w_1222 w_1223 w_1224 w_110 w_1225) rfl rfl rfl (by decide +kernel) ⟨Nat.le_of_ble_eq_true rfl, Nat.le_of_ble_eq_true rfl⟩) (pVQn hN hK hPc hDc (ci := 3) (q0 := 0) rfl rfl) rfl rfl hl.1 rfl (lv_room (Nat.le_of_ble_eq_true rfl)) dX8_row_39 ⟨Nat.le_of_ble_eq_true rfl, Nat.le_of_ble_eq_true rfl⟩) hS (fun q _ h => hFc q h) hFc (fun u_9 t1 H1 locs ht1 hvm hw hB hz1 hk1 hS => ?_)
            obtain ⟨z_10, z_11, z_12⟩ := u_9
            obtain ⟨hP1, hD1⟩ := hB
            rw [ht1] at hP1
            obtain ⟨hP, hD⟩ := va_join (wr := [((a 0), .inr (8, [.ref (a 1), .ref (a 2), .ref (a 3), .ref (a 4), .ref (a 5), .ref (a 6), .ref (a 7), .ref (a 8), .ref (a 9), .ref (a 10), .ref (a 11), .ref (a 12), .ref (a 13), .ref (a 14), .int fk, .int fp]))]) (w1 := [((a 7), .inr (3, [.ref (a 35), .ref (a 36), .ref (a 37)])), ((a 35), .inl (cJ, 240, .inr (.inl z_10))), ((a 36), .inl (cI, 4, .inl z_11)), ((a 37), .inl (cI, 4, .inl z_12))]) hP hD [1, 2, 3, 4] [0] rfl rfl (by decide) (by decide) hk1 hFc hP1 hD1
            clear hFc hDc hPc hP1 hD1 hz1 hk1 hvm
            generalize H1 = H at hP hS ⊢
            have hP : va_P (dC, dI) vwCl [((a 0), .inr (8, [.ref (a 1), .ref (a 2), .ref (a 3), .ref (a 4), .ref (a 5), .ref (a 6), .ref (a 7), .ref (a 8), .ref (a 9), .ref (a 10), .ref (a 11), .ref (a 12), .ref (a 13), .ref (a 14), .int fk, .int fp])), ((a 7), .inr (3, [.ref (a 35), .ref (a 36), .ref (a 37)])), ((a 35), .inl (cJ, 240, .inr (.inl z_10))), ((a 36), .inl (cI, 4, .inl z_11)), ((a 37), .inl (cI, 4, .inl z_12))] H := hP
            have hD : va_D A [((a 0), .inr (8, [.ref (a 1), .ref (a 2), .ref (a 3), .ref (a 4), .ref (a 5), .ref (a 6), .ref (a 7), .ref (a 8), .ref (a 9), .ref (a 10), .ref (a 11), .ref (a 12), .ref (a 13), .ref (a 14), .int fk, .int fp])), ((a 7), .inr (3, [.ref (a 35), .ref (a 36), .ref (a 37)])), ((a 35), .inl (cJ, 240, .inr (.inl z_10))), ((a 36), .inl (cI, 4, .inl z_11)), ((a 37), .inl (cI, 4, .inl z_12))] := hD
            (try dsimp only at hw)
            have hw_13 := hw
            clear hw
            refine lv_iconst (v := 0) hx hb dX8_row_42 (by decide) ?_
            have hP9 := hP.sub (ws' := [((a 0), .inr (8, [.ref (a 1), .ref (a 2), .ref (a 3), .ref (a 4), .ref (a 5), .ref (a 6), .ref (a 7), .ref (a 8), .ref (a 9), .ref (a 10), .ref (a 11), .ref (a 12), .ref (a 13), .ref (a 14), .int fk, .int fp])), ((a 7), .inr (3, [.ref (a 35), .ref (a 36), .ref (a 37)])), ((a 35), .inl (cJ, 240, .inr (.inl z_10))), ((a 36), .inl (cI, 4, .inl z_11)), ((a 37), .inl (cI, 4, .inl z_12))]) [0, 1, 2, 3, 4] rfl
            have hD9 := hD.sub (ws' := [((a 0), .inr (8, [.ref (a 1), .ref (a 2), .ref (a 3), .ref (a 4), .ref (a 5), .ref (a 6), .ref (a 7), .ref (a 8), .ref (a 9), .ref (a 10), .ref (a 11), .ref (a 12), .ref (a 13), .ref (a 14), .int fk, .int fp])), ((a 7), .inr (3, [.ref (a 35), .ref (a 36), .ref (a 37)])), ((a 35), .inl (cJ, 240, .inr (.inl z_10))), ((a 36), .inl (cI, 4, .inl z_11)), ((a 37), .inl (cI, 4, .inl z_12))]) [0, 1, 2, 3, 4] (by decide) rfl
            exact W.iret (v := 0) hx hb hr (fun t ht hW => ⟨⟨0, (z_10, z_11, z_12), rfl, ⟨by first | assumption | (dsimp only; assumption), by exact Or.inr (Or.inr ⟨rfl, by omega⟩)⟩, ⟨by rw [ht]; exact hP9, hD9⟩⟩, hS.F ht⟩) hS.2.2 dX8_row_43
          · (try simp only [i_lt, i_le, i_eq, T0] at c_7)
            refine lv_bipush (v := (-3)) hx hb dX8_row_29 (by decide) ?_
            have hP9 := hP.sub (ws' := [((a 0), .inr (8, [.ref (a 1), .ref (a 2), .ref (a 3), .ref (a 4), .ref (a 5), .ref (a 6), .ref (a 7), .ref (a 8), .ref (a 9), .ref (a 10), .ref (a 11), .ref (a 12), .ref (a 13), .ref (a 14), .int fk, .int fp])), ((a 7), .inr (3, [.ref (a 35), .ref (a 36), .ref (a 37)])), ((a 35), .inl (cJ, 240, .inr (.inl sn))), ((a 36), .inl (cI, 4, .inl sw)), ((a 37), .inl (cI, 4, .inl ss))]) [0, 1, 2, 3, 4] rfl
            have hD9 := hD.sub (ws' := [((a 0), .inr (8, [.ref (a 1), .ref (a 2), .ref (a 3), .ref (a 4), .ref (a 5), .ref (a 6), .ref (a 7), .ref (a 8), .ref (a 9), .ref (a 10), .ref (a 11), .ref (a 12), .ref (a 13), .ref (a 14), .int fk, .int fp])), ((a 7), .inr (3, [.ref (a 35), .ref (a 36), .ref (a 37)])), ((a 35), .inl (cJ, 240, .inr (.inl sn))), ((a 36), .inl (cI, 4, .inl sw)), ((a 37), .inl (cI, 4, .inl ss))]) [0, 1, 2, 3, 4] (by decide) rfl
            exact W.iret (v := (-3)) hx hb hr (fun t ht hW => ⟨⟨(-3), (sn, sw, ss), rfl, ⟨by first | assumption | (dsimp only; assumption), by exact Or.inr (Or.inl ⟨rfl, by omega⟩)⟩, ⟨by rw [ht]; exact hP9, hD9⟩⟩, hS.F ht⟩) hS.2.2 dX8_row_31
        · (try simp only [i_lt, i_le, i_eq, T60] at c_6)
          refine lv_bipush (v := (-2)) hx hb dX8_row_22 (by decide) ?_
          have hP9 := hP.sub (ws' := [((a 0), .inr (8, [.ref (a 1), .ref (a 2), .ref (a 3), .ref (a 4), .ref (a 5), .ref (a 6), .ref (a 7), .ref (a 8), .ref (a 9), .ref (a 10), .ref (a 11), .ref (a 12), .ref (a 13), .ref (a 14), .int fk, .int fp])), ((a 7), .inr (3, [.ref (a 35), .ref (a 36), .ref (a 37)])), ((a 35), .inl (cJ, 240, .inr (.inl sn))), ((a 36), .inl (cI, 4, .inl sw)), ((a 37), .inl (cI, 4, .inl ss))]) [0, 1, 2, 3, 4] rfl
          have hD9 := hD.sub (ws' := [((a 0), .inr (8, [.ref (a 1), .ref (a 2), .ref (a 3), .ref (a 4), .ref (a 5), .ref (a 6), .ref (a 7), .ref (a 8), .ref (a 9), .ref (a 10), .ref (a 11), .ref (a 12), .ref (a 13), .ref (a 14), .int fk, .int fp])), ((a 7), .inr (3, [.ref (a 35), .ref (a 36), .ref (a 37)])), ((a 35), .inl (cJ, 240, .inr (.inl sn))), ((a 36), .inl (cI, 4, .inl sw)), ((a 37), .inl (cI, 4, .inl ss))]) [0, 1, 2, 3, 4] (by decide) rfl
          exact W.iret (v := (-2)) hx hb hr (fun t ht hW => ⟨⟨(-2), (sn, sw, ss), rfl, ⟨by first | assumption | (dsimp only; assumption), by exact Or.inl ⟨rfl, by omega⟩⟩, ⟨by rw [ht]; exact hP9, hD9⟩⟩, hS.F ht⟩) hS.2.2 dX8_row_24
  · subst hw
    refine lv_if_eq (tgt := 22) hx hb dX8_row_4 (by decide) (fun _ => ?_) (fun c9 => by first | exact absurd (by decide) c9 | exact absurd c9 (by decide))
    refine lv_bipush (v := (-2)) hx hb dX8_row_22 (by decide) ?_
    have hP9 := hP.sub (ws' := [((a 0), .inr (8, [.ref (a 1), .ref (a 2), .ref (a 3), .ref (a 4), .ref (a 5), .ref (a 6), .ref (a 7), .ref (a 8), .ref (a 9), .ref (a 10), .ref (a 11), .ref (a 12), .ref (a 13), .ref (a 14), .int fk, .int fp])), ((a 7), .inr (3, [.ref (a 35), .ref (a 36), .ref (a 37)])), ((a 35), .inl (cJ, 240, .inr (.inl sn))), ((a 36), .inl (cI, 4, .inl sw)), ((a 37), .inl (cI, 4, .inl ss))]) [0, 1, 2, 3, 4] rfl
    have hD9 := hD.sub (ws' := [((a 0), .inr (8, [.ref (a 1), .ref (a 2), .ref (a 3), .ref (a 4), .ref (a 5), .ref (a 6), .ref (a 7), .ref (a 8), .ref (a 9), .ref (a 10), .ref (a 11), .ref (a 12), .ref (a 13), .ref (a 14), .int fk, .int fp])), ((a 7), .inr (3, [.ref (a 35), .ref (a 36), .ref (a 37)])), ((a 35), .inl (cJ, 240, .inr (.inl sn))), ((a 36), .inl (cI, 4, .inl sw)), ((a 37), .inl (cI, 4, .inl ss))]) [0, 1, 2, 3, 4] (by decide) rfl
    exact W.iret (v := (-2)) hx hb hr (fun t ht hW => ⟨⟨(-2), (sn, sw, ss), rfl, ⟨by first | assumption | (dsimp only; assumption), by exact Or.inl ⟨rfl, by omega⟩⟩, ⟨by rw [ht]; exact hP9, hD9⟩⟩, hS.F ht⟩) hS.2.2 dX8_row_24
set_option maxHeartbeats 8000000 in
set_option maxRecDepth 100000 in
theorem s_X3_holds (l : Launch) (dC : Nat → ClassId) (dI : Nat → Nat → Nat) (cB cI cJ cZ cL : ClassId) (a : Nat → Nat) (ss : Nat → Int32) (p0 : Int32) (p1 : Int32) (p2 : Int32) (h0 : 0 ≤ Int32.toInt p0 ∧ Int32.toInt p0 ≤ 3) (hss : ∀ i : Nat, -1 ≤ Int32.toInt (ss i) ∧ Int32.toInt (ss i) ≤ 60) : Met l yX3_holds (wy yX3_holds cX3_holds 4 (some .boolean)) ({ frames := 0, cells := 0, slots := 0, locals := 0 }) (va_Pc [.ref (a 7), .int p0, .int p1, .int p2] (fun U => va_P (dC, dI) vwCl [((a 7), .inr (3, [.ref (a 35), .ref (a 36), .ref (a 37)])), ((a 37), .inl (cI, 4, .inl ss))] U.heap ∧ va_K (dC, dI) vwCl (tyL cB cI cJ cZ cL) U ∧ NW U)) (vp_Si (fun r => (r = 1 ∧ (0 ≤ Int32.toInt p1 ∧ 0 ≤ Int32.toInt p2 ∧ Int32.toInt p1 + Int32.toInt p2 ≤ 60)) ∨ r = 0)) 0 0 (fun _ => False) := by
  refine Met.ofW (cc := cX3_holds) (maxL := 4) (ret := (some .boolean)) (by decide) rfl ?_
  intro p e s m args below meth c s₁ B hml hv
  obtain ⟨rfl, hP, hK, hN⟩ := hv
  have hx := B.exec
  have hb := B.bytes
  have hr := B.returns
  have ht : ∀ w ∈ lw_ok, w.before _ s = true := fun w h => atoms_spec (ws := wy yX3_holds cX3_holds 4 (some .boolean)) B.pre w (List.mem_cons_of_mem _ h)
  have hown : s.vm.findClass RX3 = some m.cls := findClass_of_methodNamed B.named
  have hlocks := B.notSynchronized
  have hl := lv_entry ([.ref (a 7), .int p0, .int p1, .int p2]) (n := 4) (Nat.le_of_ble_eq_true rfl)
  rw [lg_entry_eq]
  generalize (lg_sl ([.ref (a 7), .int p0, .int p1, .int p2]) ++ List.replicate (4 - (lg_sl ([.ref (a 7), .int p0, .int p1, .int p2])).length) Slot.unset).toArray = ls at hl ⊢
  have hl : lv_has ls 4 [(0, .ref (a 7)), (1, .int p0), (2, .int p1), (3, .int p2)] := hl
  have hP : va_P (dC, dI) vwCl [((a 7), .inr (3, [.ref (a 35), .ref (a 36), .ref (a 37)])), ((a 37), .inl (cI, 4, .inl ss))] s.heap := hP
  have rg_p0 := rgI p0
  have rg_p1 := rgI p1
  have rg_p2 := rgI p2
  refine lv_iload_n hx hb dX3_holds_0 rfl (lv_at hl 2 rfl) ?_
  refine lv_if_lt (tgt := 28) hx hb dX3_holds_1 (by decide) (fun c_1 => ?_) (fun c_1 => ?_)
  · (try simp only [i_lt, i_le, i_eq, T0] at c_1)
    refine lv_iconst (v := 0) hx hb dX3_holds_28 (by decide) ?_
    exact W.zret (v := 0) hx hb hr (rfl) (fun t ht hW => ⟨0, rfl, (by first | exact Or.inl ⟨rfl, by omega⟩ | exact Or.inr rfl), ht⟩) (fun q h => absurd h List.not_mem_nil) dX3_holds_29
  · (try simp only [i_lt, i_le, i_eq, T0] at c_1)
    refine lv_iload_n hx hb dX3_holds_4 rfl (lv_at hl 3 rfl) ?_
    refine lv_if_lt (tgt := 28) hx hb dX3_holds_5 (by decide) (fun c_2 => ?_) (fun c_2 => ?_)
    · (try simp only [i_lt, i_le, i_eq, T0] at c_2)
      refine lv_iconst (v := 0) hx hb dX3_holds_28 (by decide) ?_
      exact W.zret (v := 0) hx hb hr (rfl) (fun t ht hW => ⟨0, rfl, (by first | exact Or.inl ⟨rfl, by omega⟩ | exact Or.inr rfl), ht⟩) (fun q h => absurd h List.not_mem_nil) dX3_holds_29
    · (try simp only [i_lt, i_le, i_eq, T0] at c_2)
      refine lv_iload_n hx hb dX3_holds_8 rfl (lv_at hl 2 rfl) ?_
      refine lv_i2l hx hb dX3_holds_9 rfl ?_
      refine lv_topl (fun y_3 ey_3 => ?_)
      have ty_3 := i2lF ey_3
      clear ey_3
      refine lv_iload_n hx hb dX3_holds_10 rfl (lv_at hl 3 rfl) ?_
      refine lv_i2l hx hb dX3_holds_11 rfl ?_
      refine lv_topl (fun y_4 ey_4 => ?_)
      have ty_4 := i2lF ey_4
      clear ey_4
      refine lv_ladd hx hb dX3_holds_12 ?_
      refine lv_topl (fun y_5 ey_5 => ?_)
      have ty_5 := laddF ey_5
      clear ey_5
      refine lv_aload_n hx hb dX3_holds_13 rfl (lv_at hl 0 rfl) ?_
      refine va_get (D := (dC, dI)) (ci := 3) (v := .ref (a 37)) (C := RX3) (T := TX3) (N := 3) hx hb ht iX3 hown hK hP 0 rfl rfl 2 (by decide) (ht _ w_292) (fun _ h9 => h9) rfl dX3_holds_14 ?_
      refine lv_iload_n hx hb dX3_holds_17 rfl (lv_at hl 1 rfl) ?_
      refine va_iald hx hb hK hP 1 1 rfl rfl (vp_in_iff.mpr (by omega)) dX3_holds_18 ?_
      refine lv_topi (fun y_6 ey_6 => ?_)
      have ry_6 := hss (Int32.toNatClampNeg p0)
      rw [← ey_6] at ry_6
      refine lv_i2l hx hb dX3_holds_19 rfl ?_
      refine lv_topl (fun y_7 ey_7 => ?_)
      have ty_7 := i2lF ey_7
      clear ey_7
      refine W.lcmp hx hb dX3_holds_20 ?_
      refine lv_if_gt (tgt := 28) hx hb dX3_holds_21 (by decide) (fun c_8 => ?_) (fun c_8 => ?_)
      · simp only [lg_cmp_lt, lg_cmp_le, lg_cmp_gt, lg_cmp_ge, lg_cmp_eq] at c_8
        (try simp only [l_lt, l_le, l_eq] at c_8)
        refine lv_iconst (v := 0) hx hb dX3_holds_28 (by decide) ?_
        exact W.zret (v := 0) hx hb hr (rfl) (fun t ht hW => ⟨0, rfl, (by first | exact Or.inl ⟨rfl, by omega⟩ | exact Or.inr rfl), ht⟩) (fun q h => absurd h List.not_mem_nil) dX3_holds_29
      · simp only [lg_cmp_lt, lg_cmp_le, lg_cmp_gt, lg_cmp_ge, lg_cmp_eq] at c_8
        (try simp only [l_lt, l_le, l_eq] at c_8)
        refine lv_iconst (v := 1) hx hb dX3_holds_24 (by decide) ?_
        refine lv_goto (tgt := 29) hx hb dX3_holds_25 (by decide) ?_
        exact W.zret (v := 1) hx hb hr (rfl) (fun t ht hW => ⟨1, rfl, (by first | exact Or.inl ⟨rfl, by omega⟩ | exact Or.inr rfl), ht⟩) (fun q h => absurd h List.not_mem_nil) dX3_holds_29
set_option maxHeartbeats 8000000 in
set_option maxRecDepth 100000 in
theorem s_X3_copy (l : Launch) (dC : Nat → ClassId) (dI : Nat → Nat → Nat) (cB cI cJ cZ cL : ClassId) (sz : Nat) (a : Nat → Nat) (sn : Nat → Int64) (p0 : Int32) (p1 : Int32) (p2 : Int32) (p3 : Int32) (p4 : Int32) (h0 : 0 ≤ Int32.toInt p0 ∧ Int32.toInt p0 ≤ 3) (h2 : 0 ≤ Int32.toInt p2 ∧ Int32.toInt p2 ≤ 3) (h1 : 0 ≤ Int32.toInt p1 ∧ 0 ≤ Int32.toInt p3 ∧ 0 ≤ Int32.toInt p4 ∧ Int32.toInt p1 + Int32.toInt p4 ≤ 60 ∧ Int32.toInt p3 + Int32.toInt p4 ≤ 60) : Met l yX3_copy (wy yX3_copy cX3_copy 6 none) ({ frames := 2, cells := 0, slots := 0, locals := 80 }) (va_Pc [.ref (a 7), .int p0, .int p1, .int p2, .int p3, .int p4] (fun U => U.heap.size = sz ∧ va_P (dC, dI) vwCl [((a 7), .inr (3, [.ref (a 35), .ref (a 36), .ref (a 37)])), ((a 35), .inl (cJ, 240, .inr (.inl sn)))] U.heap ∧ va_K (dC, dI) vwCl (tyL cB cI cJ cZ cL) U ∧ va_D (fun _ => True) [((a 7), .inr (3, [.ref (a 35), .ref (a 36), .ref (a 37)])), ((a 35), .inl (cJ, 240, .inr (.inl sn)))] ∧ NW U)) (va_Qv (fun u => True) (fun (u : (Nat → Int64)) t => va_P (dC, dI) vwCl [((a 7), .inr (3, [.ref (a 35), .ref (a 36), .ref (a 37)])), ((a 35), .inl (cJ, 240, .inr (.inl u)))] t.heap ∧ va_D (va_A [((a 7), .inr (3, [.ref (a 35), .ref (a 36), .ref (a 37)])), ((a 35), .inl (cJ, 240, .inr (.inl sn)))] sz) [((a 7), .inr (3, [.ref (a 35), .ref (a 36), .ref (a 37)])), ((a 35), .inl (cJ, 240, .inr (.inl u)))]) (va_A [((a 7), .inr (3, [.ref (a 35), .ref (a 36), .ref (a 37)])), ((a 35), .inl (cJ, 240, .inr (.inl sn)))] sz)) 0 0 (va_A [((a 7), .inr (3, [.ref (a 35), .ref (a 36), .ref (a 37)])), ((a 35), .inl (cJ, 240, .inr (.inl sn)))] sz) := by
  refine Met.ofW (cc := cX3_copy) (maxL := 6) (ret := none) (by decide) rfl ?_
  intro p e s m args below meth c s₁ B hml hv
  obtain ⟨rfl, hsz, hP, hK, hD0, hN⟩ := hv
  have hx := B.exec
  have hb := B.bytes
  have hr := B.returns
  have ht : ∀ w ∈ lw_ok, w.before _ s = true := fun w h => atoms_spec (ws := wy yX3_copy cX3_copy 6 none) B.pre w (List.mem_cons_of_mem _ h)
  have hown : s.vm.findClass RX3 = some m.cls := findClass_of_methodNamed B.named
  have hlocks := B.notSynchronized
  subst hsz
  have hD := hD0.self (sz := s.heap.size)
  generalize hAe : va_A [((a 7), .inr (3, [.ref (a 35), .ref (a 36), .ref (a 37)])), ((a 35), .inl (cJ, 240, .inr (.inl sn)))] s.heap.size = A at hD ⊢
  have hA : ∀ q : Nat, s.heap.size ≤ q → A q := fun q h => by rw [← hAe]; exact Or.inr h
  have hS : va_S A s.heap s.heap [] := va_S.rf
  clear hAe hD0
  have hl := lv_entry ([.ref (a 7), .int p0, .int p1, .int p2, .int p3, .int p4]) (n := 6) (Nat.le_of_ble_eq_true rfl)
  rw [lg_entry_eq]
  generalize (lg_sl ([.ref (a 7), .int p0, .int p1, .int p2, .int p3, .int p4]) ++ List.replicate (6 - (lg_sl ([.ref (a 7), .int p0, .int p1, .int p2, .int p3, .int p4])).length) Slot.unset).toArray = ls at hl ⊢
  have hl : lv_has ls 6 [(0, .ref (a 7)), (1, .int p0), (2, .int p1), (3, .int p2), (4, .int p3), (5, .int p4)] := hl
  have hP : va_P (dC, dI) vwCl [((a 7), .inr (3, [.ref (a 35), .ref (a 36), .ref (a 37)])), ((a 35), .inl (cJ, 240, .inr (.inl sn)))] s.heap := hP
  have hD : va_D A [((a 7), .inr (3, [.ref (a 35), .ref (a 36), .ref (a 37)])), ((a 35), .inl (cJ, 240, .inr (.inl sn)))] := hD
  have rg_p0 := rgI p0
  have rg_p1 := rgI p1
  have rg_p2 := rgI p2
  have rg_p3 := rgI p3
  have rg_p4 := rgI p4
  refine lv_aload_n hx hb dX3_copy_0 rfl (lv_at hl 0 rfl) ?_
  refine va_get (D := (dC, dI)) (ci := 3) (v := .ref (a 35)) (C := RX3) (T := TX3) (N := 3) hx hb ht iX3 hown hK hP 0 rfl rfl 0 (by decide) (ht _ w_289) (fun _ h9 => h9) rfl dX3_copy_1 ?_
  refine lv_iload_n hx hb dX3_copy_4 rfl (lv_at hl 1 rfl) ?_
  refine lv_bipush (v := 60) hx hb dX3_copy_5 (by decide) ?_
  refine lv_imul hx hb dX3_copy_7 ?_
  refine lv_topi (fun y_1 ey_1 => ?_)
  have ty_1 := imulF ey_1
  simp only [T60] at ty_1
  clear ey_1
  refine lv_iload_n hx hb dX3_copy_8 rfl (lv_at hl 2 rfl) ?_
  refine lv_iadd hx hb dX3_copy_9 ?_
  refine lv_topi (fun y_2 ey_2 => ?_)
  have ty_2 := iaddF ey_2
  clear ey_2
  refine lv_aload_n hx hb dX3_copy_10 rfl (lv_at hl 0 rfl) ?_
  refine va_get (D := (dC, dI)) (ci := 3) (v := .ref (a 35)) (C := RX3) (T := TX3) (N := 3) hx hb ht iX3 hown hK hP 0 rfl rfl 0 (by decide) (ht _ w_289) (fun _ h9 => h9) rfl dX3_copy_11 ?_
  refine lv_iload_n hx hb dX3_copy_14 rfl (lv_at hl 3 rfl) ?_
  refine lv_bipush (v := 60) hx hb dX3_copy_15 (by decide) ?_
  refine lv_imul hx hb dX3_copy_17 ?_
  refine lv_topi (fun y_3 ey_3 => ?_)
  have ty_3 := imulF ey_3
  simp only [T60] at ty_3
  clear ey_3
  refine lv_iload hx hb dX3_copy_18 (lv_at hl 4 rfl) ?_
  refine lv_iadd hx hb dX3_copy_20 ?_
  refine lv_topi (fun y_4 ey_4 => ?_)
  have ty_4 := iaddF ey_4
  clear ey_4
  refine lv_iload hx hb dX3_copy_21 (lv_at hl 5 rfl) ?_
  refine va_copyl hx hb (by rw [hml]; exact hl.1.symm) hown (ht _ w_1255) (ht _ w_600) (ht _ w_599) (ht _ w_121) hK hP hD hS 1 1 2 2 rfl rfl rfl rfl rfl (by rw [i_lt]; simp only [T0]; omega) (by rw [i_lt]; simp only [T0]; omega) (by rw [i_lt]; simp only [T0]; omega) (cp_le (by omega)) (cp_le (by omega)) (fun _ _ => rfl) (Nat.le_of_ble_eq_true rfl) (Nat.le_of_ble_eq_true rfl) dX3_copy_23 (fun H locs hP hD hS => ?_)
  obtain ⟨f_5, ef_5⟩ : ∃ z : Nat → Int64, z = va_cpy sn sn (Int32.toNatClampNeg y_2) (Int32.toNatClampNeg y_4) (Int32.toNatClampNeg p4) := ⟨_, rfl⟩
  rw [← ef_5] at hP hD
  clear ef_5
  have hP : va_P (dC, dI) vwCl [((a 7), .inr (3, [.ref (a 35), .ref (a 36), .ref (a 37)])), ((a 35), .inl (cJ, 240, .inr (.inl f_5)))] H := hP
  have hD : va_D A [((a 7), .inr (3, [.ref (a 35), .ref (a 36), .ref (a 37)])), ((a 35), .inl (cJ, 240, .inr (.inl f_5)))] := hD
  have hP9 := hP.sub (ws' := [((a 7), .inr (3, [.ref (a 35), .ref (a 36), .ref (a 37)])), ((a 35), .inl (cJ, 240, .inr (.inl f_5)))]) [0, 1] rfl
  have hD9 := hD.sub (ws' := [((a 7), .inr (3, [.ref (a 35), .ref (a 36), .ref (a 37)])), ((a 35), .inl (cJ, 240, .inr (.inl f_5)))]) [0, 1] (by decide) rfl
  exact W.vret hx hb hr (fun t ht hW => ⟨⟨f_5, rfl, trivial, ⟨by rw [ht]; exact hP9, hD9⟩⟩, hS.F ht⟩) hS.2.2 dX3_copy_26
set_option maxHeartbeats 8000000 in
set_option maxRecDepth 100000 in
theorem s_X8_write (l : Launch) (dC : Nat → ClassId) (dI : Nat → Nat → Nat) (cB cI cJ cZ cL : ClassId) (sz : Nat) (a : Nat → Nat) (fk : Int32) (fp : Int32) (sn : Nat → Int64) (sw : Nat → Int32) (ss : Nat → Int32) (p0 : Int32) (p1 : Int32) (p2 : Int64) (hss : ∀ i : Nat, -1 ≤ Int32.toInt (ss i) ∧ Int32.toInt (ss i) ≤ 60) : Met l yX8_write (wy yX8_write cX8_write 5 (some .int)) ({ frames := 2, cells := 0, slots := 0, locals := 80 }) (va_Pc [.ref (a 0), .int p0, .int p1, .long p2] (fun U => U.heap.size = sz ∧ va_P (dC, dI) vwCl [((a 0), .inr (8, [.ref (a 1), .ref (a 2), .ref (a 3), .ref (a 4), .ref (a 5), .ref (a 6), .ref (a 7), .ref (a 8), .ref (a 9), .ref (a 10), .ref (a 11), .ref (a 12), .ref (a 13), .ref (a 14), .int fk, .int fp])), ((a 7), .inr (3, [.ref (a 35), .ref (a 36), .ref (a 37)])), ((a 35), .inl (cJ, 240, .inr (.inl sn))), ((a 36), .inl (cI, 4, .inl sw)), ((a 37), .inl (cI, 4, .inl ss))] U.heap ∧ va_K (dC, dI) vwCl (tyL cB cI cJ cZ cL) U ∧ va_D (fun _ => True) [((a 0), .inr (8, [.ref (a 1), .ref (a 2), .ref (a 3), .ref (a 4), .ref (a 5), .ref (a 6), .ref (a 7), .ref (a 8), .ref (a 9), .ref (a 10), .ref (a 11), .ref (a 12), .ref (a 13), .ref (a 14), .int fk, .int fp])), ((a 7), .inr (3, [.ref (a 35), .ref (a 36), .ref (a 37)])), ((a 35), .inl (cJ, 240, .inr (.inl sn))), ((a 36), .inl (cI, 4, .inl sw)), ((a 37), .inl (cI, 4, .inl ss))] ∧ NW U)) (va_Qi (fun r u => True) (fun (u : (Nat → Int64)) t => va_P (dC, dI) vwCl [((a 0), .inr (8, [.ref (a 1), .ref (a 2), .ref (a 3), .ref (a 4), .ref (a 5), .ref (a 6), .ref (a 7), .ref (a 8), .ref (a 9), .ref (a 10), .ref (a 11), .ref (a 12), .ref (a 13), .ref (a 14), .int fk, .int fp])), ((a 7), .inr (3, [.ref (a 35), .ref (a 36), .ref (a 37)])), ((a 35), .inl (cJ, 240, .inr (.inl u))), ((a 36), .inl (cI, 4, .inl sw)), ((a 37), .inl (cI, 4, .inl ss))] t.heap ∧ va_D (va_A [((a 0), .inr (8, [.ref (a 1), .ref (a 2), .ref (a 3), .ref (a 4), .ref (a 5), .ref (a 6), .ref (a 7), .ref (a 8), .ref (a 9), .ref (a 10), .ref (a 11), .ref (a 12), .ref (a 13), .ref (a 14), .int fk, .int fp])), ((a 7), .inr (3, [.ref (a 35), .ref (a 36), .ref (a 37)])), ((a 35), .inl (cJ, 240, .inr (.inl sn))), ((a 36), .inl (cI, 4, .inl sw)), ((a 37), .inl (cI, 4, .inl ss))] sz) [((a 0), .inr (8, [.ref (a 1), .ref (a 2), .ref (a 3), .ref (a 4), .ref (a 5), .ref (a 6), .ref (a 7), .ref (a 8), .ref (a 9), .ref (a 10), .ref (a 11), .ref (a 12), .ref (a 13), .ref (a 14), .int fk, .int fp])), ((a 7), .inr (3, [.ref (a 35), .ref (a 36), .ref (a 37)])), ((a 35), .inl (cJ, 240, .inr (.inl u))), ((a 36), .inl (cI, 4, .inl sw)), ((a 37), .inl (cI, 4, .inl ss))]) (va_A [((a 0), .inr (8, [.ref (a 1), .ref (a 2), .ref (a 3), .ref (a 4), .ref (a 5), .ref (a 6), .ref (a 7), .ref (a 8), .ref (a 9), .ref (a 10), .ref (a 11), .ref (a 12), .ref (a 13), .ref (a 14), .int fk, .int fp])), ((a 7), .inr (3, [.ref (a 35), .ref (a 36), .ref (a 37)])), ((a 35), .inl (cJ, 240, .inr (.inl sn))), ((a 36), .inl (cI, 4, .inl sw)), ((a 37), .inl (cI, 4, .inl ss))] sz)) 0 0 (va_A [((a 0), .inr (8, [.ref (a 1), .ref (a 2), .ref (a 3), .ref (a 4), .ref (a 5), .ref (a 6), .ref (a 7), .ref (a 8), .ref (a 9), .ref (a 10), .ref (a 11), .ref (a 12), .ref (a 13), .ref (a 14), .int fk, .int fp])), ((a 7), .inr (3, [.ref (a 35), .ref (a 36), .ref (a 37)])), ((a 35), .inl (cJ, 240, .inr (.inl sn))), ((a 36), .inl (cI, 4, .inl sw)), ((a 37), .inl (cI, 4, .inl ss))] sz) := by
  refine Met.ofW (cc := cX8_write) (maxL := 5) (ret := (some .int)) (by decide) rfl ?_
  intro p e s m args below meth c s₁ B hml hv
  obtain ⟨rfl, hsz, hP, hK, hD0, hN⟩ := hv
  have hx := B.exec
  have hb := B.bytes
  have hr := B.returns
  have ht : ∀ w ∈ lw_ok, w.before _ s = true := fun w h => atoms_spec (ws := wy yX8_write cX8_write 5 (some .int)) B.pre w (List.mem_cons_of_mem _ h)
  have hown : s.vm.findClass RX8 = some m.cls := findClass_of_methodNamed B.named
  have hlocks := B.notSynchronized
  subst hsz
  have hD := hD0.self (sz := s.heap.size)
  generalize hAe : va_A [((a 0), .inr (8, [.ref (a 1), .ref (a 2), .ref (a 3), .ref (a 4), .ref (a 5), .ref (a 6), .ref (a 7), .ref (a 8), .ref (a 9), .ref (a 10), .ref (a 11), .ref (a 12), .ref (a 13), .ref (a 14), .int fk, .int fp])), ((a 7), .inr (3, [.ref (a 35), .ref (a 36), .ref (a 37)])), ((a 35), .inl (cJ, 240, .inr (.inl sn))), ((a 36), .inl (cI, 4, .inl sw)), ((a 37), .inl (cI, 4, .inl ss))] s.heap.size = A at hD ⊢
  have hA : ∀ q : Nat, s.heap.size ≤ q → A q := fun q h => by rw [← hAe]; exact Or.inr h
  have hS : va_S A s.heap s.heap [] := va_S.rf
  clear hAe hD0
  have hl := lv_entry ([.ref (a 0), .int p0, .int p1, .long p2]) (n := 5) (Nat.le_of_ble_eq_true rfl)
  rw [lg_entry_eq]
  generalize (lg_sl ([.ref (a 0), .int p0, .int p1, .long p2]) ++ List.replicate (5 - (lg_sl ([.ref (a 0), .int p0, .int p1, .long p2])).length) Slot.unset).toArray = ls at hl ⊢
  have hl : lv_has ls 5 [(0, .ref (a 0)), (1, .int p0), (2, .int p1), (3, .long p2)] := hl
  have hP : va_P (dC, dI) vwCl [((a 0), .inr (8, [.ref (a 1), .ref (a 2), .ref (a 3), .ref (a 4), .ref (a 5), .ref (a 6), .ref (a 7), .ref (a 8), .ref (a 9), .ref (a 10), .ref (a 11), .ref (a 12), .ref (a 13), .ref (a 14), .int fk, .int fp])), ((a 7), .inr (3, [.ref (a 35), .ref (a 36), .ref (a 37)])), ((a 35), .inl (cJ, 240, .inr (.inl sn))), ((a 36), .inl (cI, 4, .inl sw)), ((a 37), .inl (cI, 4, .inl ss))] s.heap := hP
  have hD : va_D A [((a 0), .inr (8, [.ref (a 1), .ref (a 2), .ref (a 3), .ref (a 4), .ref (a 5), .ref (a 6), .ref (a 7), .ref (a 8), .ref (a 9), .ref (a 10), .ref (a 11), .ref (a 12), .ref (a 13), .ref (a 14), .int fk, .int fp])), ((a 7), .inr (3, [.ref (a 35), .ref (a 36), .ref (a 37)])), ((a 35), .inl (cJ, 240, .inr (.inl sn))), ((a 36), .inl (cI, 4, .inl sw)), ((a 37), .inl (cI, 4, .inl ss))] := hD
  have rg_p0 := rgI p0
  have rg_p1 := rgI p1
  refine lv_iload_n hx hb dX8_write_0 rfl (lv_at hl 1 rfl) ?_
  have hPc := hP.sub (ws' := []) [] rfl
  refine vp_callSi (W.runS (As := [.int p0]) (rest := []) ⟨hx, hb, hml, hown, ht⟩ (s_X8_isSlot l dC dI cB cI cJ cZ cL a p0) (va_cwS 1 ht (gQ w_1030 w_1031 w_105 w_1032) rfl rfl rfl (by decide +kernel) ⟨Nat.le_of_ble_eq_true rfl, Nat.le_of_ble_eq_true rfl⟩) (pSSn hN hK hPc) rfl rfl hl.1 rfl (lv_room (Nat.le_of_ble_eq_true rfl)) dX8_write_1 ⟨Nat.le_of_ble_eq_true rfl, Nat.le_of_ble_eq_true rfl⟩) (fun r_1 hw => ?_)
  clear hPc
  (try dsimp only at hw)
  have hw_2 := hw
  clear hw
  rcases hw_2 with ⟨hw, c_3⟩ | ⟨hw, c_3⟩
  · subst hw
    refine lv_if_ne (tgt := 10) hx hb dX8_write_4 (by decide) (fun _ => ?_) (fun c9 => by first | exact absurd (by decide) c9 | exact absurd c9 (by decide))
    refine lv_aload_n hx hb dX8_write_10 rfl (lv_at hl 0 rfl) ?_
    refine va_get (D := (dC, dI)) (ci := 8) (v := .ref (a 7)) (C := RX8) (T := TX8) (N := 16) hx hb ht iX8 hown hK hP 0 rfl rfl 6 (by decide) (ht _ w_381) (fun _ h9 => h9) rfl dX8_write_11 ?_
    refine lv_iload_n hx hb dX8_write_14 rfl (lv_at hl 1 rfl) ?_
    have hPc := hP.sub (ws' := [((a 7), .inr (3, [.ref (a 35), .ref (a 36), .ref (a 37)])), ((a 37), .inl (cI, 4, .inl ss))]) [1, 4] rfl
    refine vp_callSi (W.runV (As := [.int p0]) (rest := []) ⟨hx, hb, hml, hown, ht⟩ (s_X3_has l dC dI cB cI cJ cZ cL a ss p0 (by first | assumption | omega)) (cwV 1 ht (gV w_1033 w_1034 w_1035 w_110 w_1036) rfl rfl rfl (by decide +kernel) ⟨Nat.le_of_ble_eq_true rfl, Nat.le_of_ble_eq_true rfl⟩) (pVSn hN hK hPc (ci := 3) (q0 := 0) rfl rfl) rfl rfl hl.1 rfl (lv_room (Nat.le_of_ble_eq_true rfl)) dX8_write_15 ⟨Nat.le_of_ble_eq_true rfl, Nat.le_of_ble_eq_true rfl⟩) (fun r_4 hw => ?_)
    clear hPc
    clear hw
    refine lv_if_ne (tgt := 24) hx hb dX8_write_18 (by decide) (fun c_5 => ?_) (fun c_5 => ?_)
    · (try simp only [i_lt, i_le, i_eq, T0] at c_5)
      refine lv_iload_n hx hb dX8_write_24 rfl (lv_at hl 2 rfl) ?_
      refine lv_if_lt (tgt := 41) hx hb dX8_write_25 (by decide) (fun c_6 => ?_) (fun c_6 => ?_)
      · (try simp only [i_lt, i_le, i_eq, T0] at c_6)
        refine lv_bipush (v := (-7)) hx hb dX8_write_41 (by decide) ?_
        have hP9 := hP.sub (ws' := [((a 0), .inr (8, [.ref (a 1), .ref (a 2), .ref (a 3), .ref (a 4), .ref (a 5), .ref (a 6), .ref (a 7), .ref (a 8), .ref (a 9), .ref (a 10), .ref (a 11), .ref (a 12), .ref (a 13), .ref (a 14), .int fk, .int fp])), ((a 7), .inr (3, [.ref (a 35), .ref (a 36), .ref (a 37)])), ((a 35), .inl (cJ, 240, .inr (.inl sn))), ((a 36), .inl (cI, 4, .inl sw)), ((a 37), .inl (cI, 4, .inl ss))]) [0, 1, 2, 3, 4] rfl
        have hD9 := hD.sub (ws' := [((a 0), .inr (8, [.ref (a 1), .ref (a 2), .ref (a 3), .ref (a 4), .ref (a 5), .ref (a 6), .ref (a 7), .ref (a 8), .ref (a 9), .ref (a 10), .ref (a 11), .ref (a 12), .ref (a 13), .ref (a 14), .int fk, .int fp])), ((a 7), .inr (3, [.ref (a 35), .ref (a 36), .ref (a 37)])), ((a 35), .inl (cJ, 240, .inr (.inl sn))), ((a 36), .inl (cI, 4, .inl sw)), ((a 37), .inl (cI, 4, .inl ss))]) [0, 1, 2, 3, 4] (by decide) rfl
        exact W.iret (v := (-7)) hx hb hr (fun t ht hW => ⟨⟨(-7), sn, rfl, trivial, ⟨by rw [ht]; exact hP9, hD9⟩⟩, hS.F ht⟩) hS.2.2 dX8_write_43
      · (try simp only [i_lt, i_le, i_eq, T0] at c_6)
        refine lv_iload_n hx hb dX8_write_28 rfl (lv_at hl 2 rfl) ?_
        refine lv_aload_n hx hb dX8_write_29 rfl (lv_at hl 0 rfl) ?_
        refine va_get (D := (dC, dI)) (ci := 8) (v := .ref (a 7)) (C := RX8) (T := TX8) (N := 16) hx hb ht iX8 hown hK hP 0 rfl rfl 6 (by decide) (ht _ w_381) (fun _ h9 => h9) rfl dX8_write_30 ?_
        refine va_get (D := (dC, dI)) (ci := 3) (v := .ref (a 37)) (C := RX3) (T := TX3) (N := 3) hx hb ht iX3 hown hK hP 1 rfl rfl 2 (by decide) (ht _ w_293) (fun _ h9 => h9) rfl dX8_write_33 ?_
        refine lv_iload_n hx hb dX8_write_36 rfl (lv_at hl 1 rfl) ?_
        refine va_iald hx hb hK hP 4 1 rfl rfl (vp_in_iff.mpr (by omega)) dX8_write_37 ?_
        refine lv_topi (fun y_7 ey_7 => ?_)
        have ry_7 := hss (Int32.toNatClampNeg p0)
        rw [← ey_7] at ry_7
        refine lv_icmp_lt (tgt := 44) hx hb dX8_write_38 (by decide) (fun c_8 => ?_) (fun c_8 => ?_)
        · (try simp only [i_lt, i_le, i_eq] at c_8)
          refine lv_aload_n hx hb dX8_write_44 rfl (lv_at hl 0 rfl) ?_
          refine va_get (D := (dC, dI)) (ci := 8) (v := .ref (a 7)) (C := RX8) (T := TX8) (N := 16) hx hb ht iX8 hown hK hP 0 rfl rfl 6 (by decide) (ht _ w_381) (fun _ h9 => h9) rfl dX8_write_45 ?_
          refine lv_iload_n hx hb dX8_write_48 rfl (lv_at hl 1 rfl) ?_
          refine lv_iload_n hx hb dX8_write_49 rfl (lv_at hl 2 rfl) ?_
          refine lv_lload_n hx hb dX8_write_50 rfl (lv_at hl 3 rfl) ?_
          have hPc := hP.sub (ws' := [((a 7), .inr (3, [.ref (a 35), .ref (a 36), .ref (a 37)])), ((a 35), .inl (cJ, 240, .inr (.inl sn))), ((a 36), .inl (cI, 4, .inl sw))]) [1, 2, 3] rfl
          have hDc := hD.sub (ws' := [((a 7), .inr (3, [.ref (a 35), .ref (a 36), .ref (a 37)])), ((a 35), .inl (cJ, 240, .inr (.inl sn))), ((a 36), .inl (cI, 4, .inl sw))]) [1, 2, 3] (by decide) rfl
          have hFc := va_free (wc := [((a 7), .inr (3, [.ref (a 35), .ref (a 36), .ref (a 37)])), ((a 35), .inl (cJ, 240, .inr (.inl sn))), ((a 36), .inl (cI, 4, .inl sw))]) hD hS hA [1, 2, 3] rfl
          refine va_callv (va_runV (As := [.int p0, .int p1, .long p2]) (rest := []) ⟨hx, hb, hml, hown, ht⟩ (s_X3_put l dC dI cB cI cJ cZ cL s.heap.size a sn sw p0 p1 p2 (by first | assumption | omega) (by first | assumption | omega)) (cwV 3 ht (gV w_1236 w_1237 w_1238 w_110 w_1239) rfl rfl rfl (by decide +kernel) ⟨Nat.le_of_ble_eq_true rfl, Nat.le_of_ble_eq_true rfl⟩) (pVQn hN hK hPc hDc (ci := 3) (q0 := 0) rfl rfl) rfl rfl hl.1 rfl (lv_room (Nat.le_of_ble_eq_true rfl)) dX8_write_51 ⟨Nat.le_of_ble_eq_true rfl, Nat.le_of_ble_eq_true rfl⟩) hS (fun q _ h => hFc q h) hFc (fun u_10 t1 H1 locs ht1 hvm hw hB hz1 hk1 hS => ?_)
          obtain ⟨hP1, hD1⟩ := hB
          rw [ht1] at hP1
          obtain ⟨hP, hD⟩ := va_join (wr := [((a 0), .inr (8, [.ref (a 1), .ref (a 2), .ref (a 3), .ref (a 4), .ref (a 5), .ref (a 6), .ref (a 7), .ref (a 8), .ref (a 9), .ref (a 10), .ref (a 11), .ref (a 12), .ref (a 13), .ref (a 14), .int fk, .int fp])), ((a 37), .inl (cI, 4, .inl ss))]) (w1 := [((a 7), .inr (3, [.ref (a 35), .ref (a 36), .ref (a 37)])), ((a 35), .inl (cJ, 240, .inr (.inl u_10))), ((a 36), .inl (cI, 4, .inl sw))]) hP hD [1, 2, 3] [0, 4] rfl rfl (by decide) (by decide) hk1 hFc hP1 hD1
          clear hFc hDc hPc hP1 hD1 hz1 hk1 hvm
          generalize H1 = H at hP hS ⊢
          have hP : va_P (dC, dI) vwCl [((a 0), .inr (8, [.ref (a 1), .ref (a 2), .ref (a 3), .ref (a 4), .ref (a 5), .ref (a 6), .ref (a 7), .ref (a 8), .ref (a 9), .ref (a 10), .ref (a 11), .ref (a 12), .ref (a 13), .ref (a 14), .int fk, .int fp])), ((a 37), .inl (cI, 4, .inl ss)), ((a 7), .inr (3, [.ref (a 35), .ref (a 36), .ref (a 37)])), ((a 35), .inl (cJ, 240, .inr (.inl u_10))), ((a 36), .inl (cI, 4, .inl sw))] H := hP
          have hD : va_D A [((a 0), .inr (8, [.ref (a 1), .ref (a 2), .ref (a 3), .ref (a 4), .ref (a 5), .ref (a 6), .ref (a 7), .ref (a 8), .ref (a 9), .ref (a 10), .ref (a 11), .ref (a 12), .ref (a 13), .ref (a 14), .int fk, .int fp])), ((a 37), .inl (cI, 4, .inl ss)), ((a 7), .inr (3, [.ref (a 35), .ref (a 36), .ref (a 37)])), ((a 35), .inl (cJ, 240, .inr (.inl u_10))), ((a 36), .inl (cI, 4, .inl sw))] := hD
          clear hw
          refine lv_iconst (v := 0) hx hb dX8_write_54 (by decide) ?_
          have hP9 := hP.sub (ws' := [((a 0), .inr (8, [.ref (a 1), .ref (a 2), .ref (a 3), .ref (a 4), .ref (a 5), .ref (a 6), .ref (a 7), .ref (a 8), .ref (a 9), .ref (a 10), .ref (a 11), .ref (a 12), .ref (a 13), .ref (a 14), .int fk, .int fp])), ((a 7), .inr (3, [.ref (a 35), .ref (a 36), .ref (a 37)])), ((a 35), .inl (cJ, 240, .inr (.inl u_10))), ((a 36), .inl (cI, 4, .inl sw)), ((a 37), .inl (cI, 4, .inl ss))]) [0, 2, 3, 4, 1] rfl
          have hD9 := hD.sub (ws' := [((a 0), .inr (8, [.ref (a 1), .ref (a 2), .ref (a 3), .ref (a 4), .ref (a 5), .ref (a 6), .ref (a 7), .ref (a 8), .ref (a 9), .ref (a 10), .ref (a 11), .ref (a 12), .ref (a 13), .ref (a 14), .int fk, .int fp])), ((a 7), .inr (3, [.ref (a 35), .ref (a 36), .ref (a 37)])), ((a 35), .inl (cJ, 240, .inr (.inl u_10))), ((a 36), .inl (cI, 4, .inl sw)), ((a 37), .inl (cI, 4, .inl ss))]) [0, 2, 3, 4, 1] (by decide) rfl
          exact W.iret (v := 0) hx hb hr (fun t ht hW => ⟨⟨0, u_10, rfl, trivial, ⟨by rw [ht]; exact hP9, hD9⟩⟩, hS.F ht⟩) hS.2.2 dX8_write_55
        · (try simp only [i_lt, i_le, i_eq] at c_8)
          refine lv_bipush (v := (-7)) hx hb dX8_write_41 (by decide) ?_
          have hP9 := hP.sub (ws' := [((a 0), .inr (8, [.ref (a 1), .ref (a 2), .ref (a 3), .ref (a 4), .ref (a 5), .ref (a 6), .ref (a 7), .ref (a 8), .ref (a 9), .ref (a 10), .ref (a 11), .ref (a 12), .ref (a 13), .ref (a 14), .int fk, .int fp])), ((a 7), .inr (3, [.ref (a 35), .ref (a 36), .ref (a 37)])), ((a 35), .inl (cJ, 240, .inr (.inl sn))), ((a 36), .inl (cI, 4, .inl sw)), ((a 37), .inl (cI, 4, .inl ss))]) [0, 1, 2, 3, 4] rfl
          have hD9 := hD.sub (ws' := [((a 0), .inr (8, [.ref (a 1), .ref (a 2), .ref (a 3), .ref (a 4), .ref (a 5), .ref (a 6), .ref (a 7), .ref (a 8), .ref (a 9), .ref (a 10), .ref (a 11), .ref (a 12), .ref (a 13), .ref (a 14), .int fk, .int fp])), ((a 7), .inr (3, [.ref (a 35), .ref (a 36), .ref (a 37)])), ((a 35), .inl (cJ, 240, .inr (.inl sn))), ((a 36), .inl (cI, 4, .inl sw)), ((a 37), .inl (cI, 4, .inl ss))]) [0, 1, 2, 3, 4] (by decide) rfl
          exact W.iret (v := (-7)) hx hb hr (fun t ht hW => ⟨⟨(-7), sn, rfl, trivial, ⟨by rw [ht]; exact hP9, hD9⟩⟩, hS.F ht⟩) hS.2.2 dX8_write_43
    · (try simp only [i_lt, i_le, i_eq, T0] at c_5)
      refine lv_bipush (v := (-6)) hx hb dX8_write_21 (by decide) ?_
      have hP9 := hP.sub (ws' := [((a 0), .inr (8, [.ref (a 1), .ref (a 2), .ref (a 3), .ref (a 4), .ref (a 5), .ref (a 6), .ref (a 7), .ref (a 8), .ref (a 9), .ref (a 10), .ref (a 11), .ref (a 12), .ref (a 13), .ref (a 14), .int fk, .int fp])), ((a 7), .inr (3, [.ref (a 35), .ref (a 36), .ref (a 37)])), ((a 35), .inl (cJ, 240, .inr (.inl sn))), ((a 36), .inl (cI, 4, .inl sw)), ((a 37), .inl (cI, 4, .inl ss))]) [0, 1, 2, 3, 4] rfl
      have hD9 := hD.sub (ws' := [((a 0), .inr (8, [.ref (a 1), .ref (a 2), .ref (a 3), .ref (a 4), .ref (a 5), .ref (a 6), .ref (a 7), .ref (a 8), .ref (a 9), .ref (a 10), .ref (a 11), .ref (a 12), .ref (a 13), .ref (a 14), .int fk, .int fp])), ((a 7), .inr (3, [.ref (a 35), .ref (a 36), .ref (a 37)])), ((a 35), .inl (cJ, 240, .inr (.inl sn))), ((a 36), .inl (cI, 4, .inl sw)), ((a 37), .inl (cI, 4, .inl ss))]) [0, 1, 2, 3, 4] (by decide) rfl
      exact W.iret (v := (-6)) hx hb hr (fun t ht hW => ⟨⟨(-6), sn, rfl, trivial, ⟨by rw [ht]; exact hP9, hD9⟩⟩, hS.F ht⟩) hS.2.2 dX8_write_23
  · subst hw
    refine lv_if_ne (tgt := 10) hx hb dX8_write_4 (by decide) (fun c9 => by first | exact absurd c9 (by decide) | exact absurd (by decide) c9) (fun _ => ?_)
    refine lv_bipush (v := (-2)) hx hb dX8_write_7 (by decide) ?_
    have hP9 := hP.sub (ws' := [((a 0), .inr (8, [.ref (a 1), .ref (a 2), .ref (a 3), .ref (a 4), .ref (a 5), .ref (a 6), .ref (a 7), .ref (a 8), .ref (a 9), .ref (a 10), .ref (a 11), .ref (a 12), .ref (a 13), .ref (a 14), .int fk, .int fp])), ((a 7), .inr (3, [.ref (a 35), .ref (a 36), .ref (a 37)])), ((a 35), .inl (cJ, 240, .inr (.inl sn))), ((a 36), .inl (cI, 4, .inl sw)), ((a 37), .inl (cI, 4, .inl ss))]) [0, 1, 2, 3, 4] rfl
    have hD9 := hD.sub (ws' := [((a 0), .inr (8, [.ref (a 1), .ref (a 2), .ref (a 3), .ref (a 4), .ref (a 5), .ref (a 6), .ref (a 7), .ref (a 8), .ref (a 9), .ref (a 10), .ref (a 11), .ref (a 12), .ref (a 13), .ref (a 14), .int fk, .int fp])), ((a 7), .inr (3, [.ref (a 35), .ref (a 36), .ref (a 37)])), ((a 35), .inl (cJ, 240, .inr (.inl sn))), ((a 36), .inl (cI, 4, .inl sw)), ((a 37), .inl (cI, 4, .inl ss))]) [0, 1, 2, 3, 4] (by decide) rfl
    exact W.iret (v := (-2)) hx hb hr (fun t ht hW => ⟨⟨(-2), sn, rfl, trivial, ⟨by rw [ht]; exact hP9, hD9⟩⟩, hS.F ht⟩) hS.2.2 dX8_write_9
