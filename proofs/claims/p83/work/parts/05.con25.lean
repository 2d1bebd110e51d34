set_option maxHeartbeats 8000000 in
set_option maxRecDepth 100000 in
theorem s_X8_paste (l : Launch) (dC : Nat → ClassId) (dI : Nat → Nat → Nat) (cB cI cJ cZ cL : ClassId) (sz : Nat) (a : Nat → Nat) (fk : Int32) (fp : Int32) (sn : Nat → Int64) (sw : Nat → Int32) (ss : Nat → Int32) (p0 : Int32) (p1 : Int32) (p2 : Int32) (p3 : Int32) (p4 : Int32) (hss : ∀ i : Nat, -1 ≤ Int32.toInt (ss i) ∧ Int32.toInt (ss i) ≤ 60) : Met l yX8_paste (wy yX8_paste cX8_paste 6 (some .int)) ({ frames := 3, cells := 0, slots := 0, locals := 120 }) (va_Pc [.ref (a 0), .int p0, .int p1, .int p2, .int p3, .int p4] (fun U => U.heap.size = sz ∧ va_P (dC, dI) vwCl [((a 0), .inr (8, [.ref (a 1), .ref (a 2), .ref (a 3), .ref (a 4), .ref (a 5), .ref (a 6), .ref (a 7), .ref (a 8), .ref (a 9), .ref (a 10), .ref (a 11), .ref (a 12), .ref (a 13), .ref (a 14), .int fk, .int fp])), ((a 7), .inr (3, [.ref (a 35), .ref (a 36), .ref (a 37)])), ((a 35), .inl (cJ, 240, .inr (.inl sn))), ((a 36), .inl (cI, 4, .inl sw)), ((a 37), .inl (cI, 4, .inl ss))] U.heap ∧ va_K (dC, dI) vwCl (tyL cB cI cJ cZ cL) U ∧ va_D (fun _ => True) [((a 0), .inr (8, [.ref (a 1), .ref (a 2), .ref (a 3), .ref (a 4), .ref (a 5), .ref (a 6), .ref (a 7), .ref (a 8), .ref (a 9), .ref (a 10), .ref (a 11), .ref (a 12), .ref (a 13), .ref (a 14), .int fk, .int fp])), ((a 7), .inr (3, [.ref (a 35), .ref (a 36), .ref (a 37)])), ((a 35), .inl (cJ, 240, .inr (.inl sn))), ((a 36), .inl (cI, 4, .inl sw)), ((a 37), .inl (cI, 4, .inl ss))] ∧ NW U)) (va_Qi (fun r u => True) (fun (u : (Nat → Int64)) t => va_P (dC, dI) vwCl [((a 0), .inr (8, [.ref (a 1), .ref (a 2), .ref (a 3), .ref (a 4), .ref (a 5), .ref (a 6), .ref (a 7), .ref (a 8), .ref (a 9), .ref (a 10), .ref (a 11), .ref (a 12), .ref (a 13), .ref (a 14), .int fk, .int fp])), ((a 7), .inr (3, [.ref (a 35), .ref (a 36), .ref (a 37)])), ((a 35), .inl (cJ, 240, .inr (.inl u))), ((a 36), .inl (cI, 4, .inl sw)), ((a 37), .inl (cI, 4, .inl ss))] t.heap ∧ va_D (va_A [((a 0), .inr (8, [.ref (a 1), .ref (a 2), .ref (a 3), .ref (a 4), .ref (a 5), .ref (a 6), .ref (a 7), .ref (a 8), .ref (a 9), .ref (a 10), .ref (a 11), .ref (a 12), .ref (a 13), .ref (a 14), .int fk, .int fp])), ((a 7), .inr (3, [.ref (a 35), .ref (a 36), .ref (a 37)])), ((a 35), .inl (cJ, 240, .inr (.inl sn))), ((a 36), .inl (cI, 4, .inl sw)), ((a 37), .inl (cI, 4, .inl ss))] sz) [((a 0), .inr (8, [.ref (a 1), .ref (a 2), .ref (a 3), .ref (a 4), .ref (a 5), .ref (a 6), .ref (a 7), .ref (a 8), .ref (a 9), .ref (a 10), .ref (a 11), .ref (a 12), .ref (a 13), .ref (a 14), .int fk, .int fp])), ((a 7), .inr (3, [.ref (a 35), .ref (a 36), .ref (a 37)])), ((a 35), .inl (cJ, 240, .inr (.inl u))), ((a 36), .inl (cI, 4, .inl sw)), ((a 37), .inl (cI, 4, .inl ss))]) (va_A [((a 0), .inr (8, [.ref (a 1), .ref (a 2), .ref (a 3), .ref (a 4), .ref (a 5), .ref (a 6), .ref (a 7), .ref (a 8), .ref (a 9), .ref (a 10), .ref (a 11), .ref (a 12), .ref (a 13), .ref (a 14), .int fk, .int fp])), ((a 7), .inr (3, [.ref (a 35), .ref (a 36), .ref (a 37)])), ((a 35), .inl (cJ, 240, .inr (.inl sn))), ((a 36), .inl (cI, 4, .inl sw)), ((a 37), .inl (cI, 4, .inl ss))] sz)) 0 0 (va_A [((a 0), .inr (8, [.ref (a 1), .ref (a 2), .ref (a 3), .ref (a 4), .ref (a 5), .ref (a 6), .ref (a 7), .ref (a 8), .ref (a 9), .ref (a 10), .ref (a 11), .ref (a 12), .ref (a 13), .ref (a 14), .int fk, .int fp])), ((a 7), .inr (3, [.ref (a 35), .ref (a 36), .ref (a 37)])), ((a 35), .inl (cJ, 240, .inr (.inl sn))), ((a 36), .inl (cI, 4, .inl sw)), ((a 37), .inl (cI, 4, .inl ss))] sz) := by
  refine Met.ofW (cc := cX8_paste) (maxL := 6) (ret := (some .int)) (by decide) rfl ?_
  intro p e s m args below meth c s₁ B hml hv
  obtain ⟨rfl, hsz, hP, hK, hD0, hN⟩ := hv
  have hx := B.exec
  have hb := B.bytes
  have hr := B.returns
  have ht : ∀ w ∈ lw_ok, w.before _ s = true := fun w h => atoms_spec (ws := wy yX8_paste cX8_paste 6 (some .int)) B.pre w (List.mem_cons_of_mem _ h)
  have hown : s.vm.findClass RX8 = some m.cls := findClass_of_methodNamed B.named
  have hlocks := B.notSynchronized
  subst hsz
  have hD := hD0.self (sz := s.heap.size)
  generalize hAe : va_A [((a 0), .inr (8, [.ref (a 1), .ref (a 2), .ref (a 3), .ref (a 4), .ref (a 5), .ref (a 6), .ref (a 7), .ref (a 8), .ref (a 9), .ref (a 10), .ref (a 11), .ref (a 12), .ref (a 13), .ref (a 14), .int fk, .int fp])), ((a 7), .inr (3, [.ref (a 35), .ref (a 36), .ref (a 37)])), ((a 35), .inl (cJ, 240, .inr (.inl sn))), ((a 36), .inl (cI, 4, .inl sw)), ((a 37), .inl (cI, 4, .inl ss))] s.heap.size = A at hD ⊢
  have hA : ∀ q : Nat, s.heap.size ≤ q → A q := fun q h => by rw [← hAe]; exact Or.inr h
  have hS : va_S A s.heap s.heap [] := va_S.rf
  clear hAe hD0
  have hl := lv_entry ([.ref (a 0), .int p0, .int p1, .int p2, .int p3, .int p4]) (n := 6) (Nat.le_of_ble_eq_true rfl)
  rw [lg_entry_eq]
  generalize (lg_sl ([.ref (a 0), .int p0, .int p1, .int p2, .int p3, .int p4]) ++ List.replicate (6 - (lg_sl ([.ref (a 0), .int p0, .int p1, .int p2, .int p3, .int p4])).length) Slot.unset).toArray = ls at hl ⊢
  have hl : lv_has ls 6 [(0, .ref (a 0)), (1, .int p0), (2, .int p1), (3, .int p2), (4, .int p3), (5, .int p4)] := hl
  have hP : va_P (dC, dI) vwCl [((a 0), .inr (8, [.ref (a 1), .ref (a 2), .ref (a 3), .ref (a 4), .ref (a 5), .ref (a 6), .ref (a 7), .ref (a 8), .ref (a 9), .ref (a 10), .ref (a 11), .ref (a 12), .ref (a 13), .ref (a 14), .int fk, .int fp])), ((a 7), .inr (3, [.ref (a 35), .ref (a 36), .ref (a 37)])), ((a 35), .inl (cJ, 240, .inr (.inl sn))), ((a 36), .inl (cI, 4, .inl sw)), ((a 37), .inl (cI, 4, .inl ss))] s.heap := hP
  have hD : va_D A [((a 0), .inr (8, [.ref (a 1), .ref (a 2), .ref (a 3), .ref (a 4), .ref (a 5), .ref (a 6), .ref (a 7), .ref (a 8), .ref (a 9), .ref (a 10), .ref (a 11), .ref (a 12), .ref (a 13), .ref (a 14), .int fk, .int fp])), ((a 7), .inr (3, [.ref (a 35), .ref (a 36), .ref (a 37)])), ((a 35), .inl (cJ, 240, .inr (.inl sn))), ((a 36), .inl (cI, 4, .inl sw)), ((a 37), .inl (cI, 4, .inl ss))] := hD
  have rg_p0 := rgI p0
  have rg_p1 := rgI p1
  have rg_p2 := rgI p2
  have rg_p3 := rgI p3
  have rg_p4 := rgI p4
  refine lv_iload_n hx hb dX8_paste_0 rfl (lv_at hl 1 rfl) ?_
  have hPc := hP.sub (ws' := []) [] rfl
  refine vp_callSi (W.runS (As := [.int p0]) (rest := []) ⟨hx, hb, hml, hown, ht⟩ (s_X8_isSlot l dC dI cB cI cJ cZ cL a p0) (va_cwS 1 ht (gQ w_1030 w_1031 w_105 w_1032) rfl rfl rfl (by decide +kernel) ⟨Nat.le_of_ble_eq_true rfl, Nat.le_of_ble_eq_true rfl⟩) (pSSn hN hK hPc) rfl rfl hl.1 rfl (lv_room (Nat.le_of_ble_eq_true rfl)) dX8_paste_1 ⟨Nat.le_of_ble_eq_true rfl, Nat.le_of_ble_eq_true rfl⟩) (fun r_1 hw => ?_)
  clear hPc
  (try dsimp only at hw)
  have hw_2 := hw
  clear hw
  rcases hw_2 with ⟨hw, c_3⟩ | ⟨hw, c_3⟩
  · subst hw
    refine lv_if_eq (tgt := 14) hx hb dX8_paste_4 (by decide) (fun c9 => by first | exact absurd c9 (by decide) | exact absurd (by decide) c9) (fun _ => ?_)
    refine lv_iload_n hx hb dX8_paste_7 rfl (lv_at hl 3 rfl) ?_
    have hPc := hP.sub (ws' := []) [] rfl
    refine vp_callSi (W.runS (As := [.int p2]) (rest := []) ⟨hx, hb, hml, hown, ht⟩ (s_X8_isSlot l dC dI cB cI cJ cZ cL a p2) (va_cwS 1 ht (gQ w_1030 w_1031 w_105 w_1032) rfl rfl rfl (by decide +kernel) ⟨Nat.le_of_ble_eq_true rfl, Nat.le_of_ble_eq_true rfl⟩) (pSSn hN hK hPc) rfl rfl hl.1 rfl (lv_room (Nat.le_of_ble_eq_true rfl)) dX8_paste_8 ⟨Nat.le_of_ble_eq_true rfl, Nat.le_of_ble_eq_true rfl⟩) (fun r_4 hw => ?_)
    clear hPc
    (try dsimp only at hw)
    have hw_5 := hw
    clear hw
    rcases hw_5 with ⟨hw, c_6⟩ | ⟨hw, c_6⟩
    · subst hw
      refine lv_if_ne (tgt := 17) hx hb dX8_paste_11 (by decide) (fun _ => ?_) (fun c9 => by first | exact absurd (by decide) c9 | exact absurd c9 (by decide))
      refine lv_aload_n hx hb dX8_paste_17 rfl (lv_at hl 0 rfl) ?_
      refine va_get (D := (dC, dI)) (ci := 8) (v := .ref (a 7)) (C := RX8) (T := TX8) (N := 16) hx hb ht iX8 hown hK hP 0 rfl rfl 6 (by decide) (ht _ w_381) (fun _ h9 => h9) rfl dX8_paste_18 ?_
      refine lv_iload_n hx hb dX8_paste_21 rfl (lv_at hl 1 rfl) ?_
      have hPc := hP.sub (ws' := [((a 7), .inr (3, [.ref (a 35), .ref (a 36), .ref (a 37)])), ((a 37), .inl (cI, 4, .inl ss))]) [1, 4] rfl
      refine vp_callSi (W.runV (As := [.int p0]) (rest := []) ⟨hx, hb, hml, hown, ht⟩ (s_X3_has l dC dI cB cI cJ cZ cL a ss p0 (by first | assumption | omega)) (cwV 1 ht (gV w_1033 w_1034 w_1035 w_110 w_1036) rfl rfl rfl (by decide +kernel) ⟨Nat.le_of_ble_eq_true rfl, Nat.le_of_ble_eq_true rfl⟩) (pVSn hN hK hPc (ci := 3) (q0 := 0) rfl rfl) rfl rfl hl.1 rfl (lv_room (Nat.le_of_ble_eq_true rfl)) dX8_paste_22 ⟨Nat.le_of_ble_eq_true rfl, Nat.le_of_ble_eq_true rfl⟩) (fun r_7 hw => ?_)
      clear hPc
      clear hw
      refine lv_if_eq (tgt := 39) hx hb dX8_paste_25 (by decide) (fun c_8 => ?_) (fun c_8 => ?_)
      · (try simp only [i_lt, i_le, i_eq, T0] at c_8)
        refine lv_bipush (v := (-6)) hx hb dX8_paste_39 (by decide) ?_
        have hP9 := hP.sub (ws' := [((a 0), .inr (8, [.ref (a 1), .ref (a 2), .ref (a 3), .ref (a 4), .ref (a 5), .ref (a 6), .ref (a 7), .ref (a 8), .ref (a 9), .ref (a 10), .ref (a 11), .ref (a 12), .ref (a 13), .ref (a 14), .int fk, .int fp])), ((a 7), .inr (3, [.ref (a 35), .ref (a 36), .ref (a 37)])), ((a 35), .inl (cJ, 240, .inr (.inl sn))), ((a 36), .inl (cI, 4, .inl sw)), ((a 37), .inl (cI, 4, .inl ss))]) [0, 1, 2, 3, 4] rfl
        have hD9 := hD.sub (ws' := [((a 0), .inr (8, [.ref (a 1), .ref (a 2), .ref (a 3), .ref (a 4), .ref (a 5), .ref (a 6), .ref (a 7), .ref (a 8), .ref (a 9), .ref (a 10), .ref (a 11), .ref (a 12), .ref (a 13), .ref (a 14), .int fk, .int fp])), ((a 7), .inr (3, [.ref (a 35), .ref (a 36), .ref (a 37)])), ((a 35), .inl (cJ, 240, .inr (.inl sn))), ((a 36), .inl (cI, 4, .inl sw)), ((a 37), .inl (cI, 4, .inl ss))]) [0, 1, 2, 3, 4] (by decide) rfl
        exact W.iret (v := (-6)) hx hb hr (fun t ht hW => ⟨⟨(-6), sn, rfl, trivial, ⟨by rw [ht]; exact hP9, hD9⟩⟩, hS.F ht⟩) hS.2.2 dX8_paste_41
      · (try simp only [i_lt, i_le, i_eq, T0] at c_8)
        refine lv_aload_n hx hb dX8_paste_28 rfl (lv_at hl 0 rfl) ?_
        refine va_get (D := (dC, dI)) (ci := 8) (v := .ref (a 7)) (C := RX8) (T := TX8) (N := 16) hx hb ht iX8 hown hK hP 0 rfl rfl 6 (by decide) (ht _ w_381) (fun _ h9 => h9) rfl dX8_paste_29 ?_
        refine lv_iload_n hx hb dX8_paste_32 rfl (lv_at hl 3 rfl) ?_
        have hPc := hP.sub (ws' := [((a 7), .inr (3, [.ref (a 35), .ref (a 36), .ref (a 37)])), ((a 37), .inl (cI, 4, .inl ss))]) [1, 4] rfl
        refine vp_callSi (W.runV (As := [.int p2]) (rest := []) ⟨hx, hb, hml, hown, ht⟩ (s_X3_has l dC dI cB cI cJ cZ cL a ss p2 (by first | assumption | omega)) (cwV 1 ht (gV w_1033 w_1034 w_1035 w_110 w_1036) rfl rfl rfl (by decide +kernel) ⟨Nat.le_of_ble_eq_true rfl, Nat.le_of_ble_eq_true rfl⟩) (pVSn hN hK hPc (ci := 3) (q0 := 0) rfl rfl) rfl rfl hl.1 rfl (lv_room (Nat.le_of_ble_eq_true rfl)) dX8_paste_33 ⟨Nat.le_of_ble_eq_true rfl, Nat.le_of_ble_eq_true rfl⟩) (fun r_9 hw => ?_)
        clear hPc
        clear hw
        refine lv_if_ne (tgt := 42) hx hb dX8_paste_36 (by decide) (fun c_10 => ?_) (fun c_10 => ?_)
        · (try simp only [i_lt, i_le, i_eq, T0] at c_10)
          refine lv_aload_n hx hb dX8_paste_42 rfl (lv_at hl 0 rfl) ?_
          refine va_get (D := (dC, dI)) (ci := 8) (v := .ref (a 7)) (C := RX8) (T := TX8) (N := 16) hx hb ht iX8 hown hK hP 0 rfl rfl 6 (by decide) (ht _ w_381) (fun _ h9 => h9) rfl dX8_paste_43 ?_
          refine va_get (D := (dC, dI)) (ci := 3) (v := .ref (a 36)) (C := RX3) (T := TX3) (N := 3) hx hb ht iX3 hown hK hP 1 rfl rfl 1 (by decide) (ht _ w_291) (fun _ h9 => h9) rfl dX8_paste_46 ?_
          refine lv_iload_n hx hb dX8_paste_49 rfl (lv_at hl 1 rfl) ?_
          refine va_iald hx hb hK hP 3 1 rfl rfl (vp_in_iff.mpr (by omega)) dX8_paste_50 ?_
          refine lv_topi (fun y_11 ey_11 => ?_)
          refine lv_aload_n hx hb dX8_paste_51 rfl (lv_at hl 0 rfl) ?_
          refine va_get (D := (dC, dI)) (ci := 8) (v := .ref (a 7)) (C := RX8) (T := TX8) (N := 16) hx hb ht iX8 hown hK hP 0 rfl rfl 6 (by decide) (ht _ w_381) (fun _ h9 => h9) rfl dX8_paste_52 ?_
          refine va_get (D := (dC, dI)) (ci := 3) (v := .ref (a 36)) (C := RX3) (T := TX3) (N := 3) hx hb ht iX3 hown hK hP 1 rfl rfl 1 (by decide) (ht _ w_291) (fun _ h9 => h9) rfl dX8_paste_55 ?_
          refine lv_iload_n hx hb dX8_paste_58 rfl (lv_at hl 3 rfl) ?_
          refine va_iald hx hb hK hP 3 1 rfl rfl (vp_in_iff.mpr (by omega)) dX8_paste_59 ?_
          refine lv_topi (fun y_12 ey_12 => ?_)
          refine lv_icmp_eq (tgt := 66) hx hb dX8_paste_60 (by decide) (fun c_13 => ?_) (fun c_13 => ?_)
          · (try simp only [i_lt, i_le, i_eq] at c_13)
            refine lv_aload_n hx hb dX8_paste_66 rfl (lv_at hl 0 rfl) ?_
            refine va_get (D := (dC, dI)) (ci := 8) (v := .ref (a 7)) (C := RX8) (T := TX8) (N := 16) hx hb ht iX8 hown hK hP 0 rfl rfl 6 (by decide) (ht _ w_381) (fun _ h9 => h9) rfl dX8_paste_67 ?_
            refine lv_iload_n hx hb dX8_paste_70 rfl (lv_at hl 1 rfl) ?_
            refine lv_iload_n hx hb dX8_paste_71 rfl (lv_at hl 2 rfl) ?_
            refine lv_iload hx hb dX8_paste_72 (lv_at hl 5 rfl) ?_
            have hPc := hP.sub (ws' := [((a 7), .inr (3, [.ref (a 35), .ref (a 36), .ref (a 37)])), ((a 37), .inl (cI, 4, .inl ss))]) [1, 4] rfl
            refine vp_callSi (W.runV (As := [.int p0, .int p1, .int p4]) (rest := []) ⟨hx, hb, hml, hown, ht⟩ (s_X3_holds l dC dI cB cI cJ cZ cL a ss p0 p1 p4 (by first | assumption | omega) (by first | assumption | omega)) (cwV 3 ht (gV w_1247 w_1248 w_1249 w_110 w_1250) rfl rfl rfl (by decide +kernel) ⟨Nat.le_of_ble_eq_true rfl, Nat.le_of_ble_eq_true rfl⟩) (pVSn hN hK hPc (ci := 3) (q0 := 0) rfl rfl) rfl rfl hl.1 rfl (lv_room (Nat.le_of_ble_eq_true rfl)) dX8_paste_74 ⟨Nat.le_of_ble_eq_true rfl, Nat.le_of_ble_eq_true rfl⟩) (fun r_14 hw => ?_)
            clear hPc
            (try dsimp only at hw)
            have hw_15 := hw
            clear hw
            rcases hw_15 with ⟨hw, c_16⟩ | hw
            · subst hw
              refine lv_if_eq (tgt := 95) hx hb dX8_paste_77 (by decide) (fun c9 => by first | exact absurd c9 (by decide) | exact absurd (by decide) c9) (fun _ => ?_)
              refine lv_aload_n hx hb dX8_paste_80 rfl (lv_at hl 0 rfl) ?_
              refine va_get (D := (dC, dI)) (ci := 8) (v := .ref (a 7)) (C := RX8) (T := TX8) (N := 16) hx hb ht iX8 hown hK hP 0 rfl rfl 6 (by decide) (ht _ w_381) (fun _ h9 => h9) rfl dX8_paste_81 ?_
              refine lv_iload_n hx hb dX8_paste_84 rfl (lv_at hl 3 rfl) ?_
              refine lv_iload hx hb dX8_paste_85 (lv_at hl 4 rfl) ?_
              refine lv_iload hx hb dX8_paste_87 (lv_at hl 5 rfl) ?_
              have hPc := hP.sub (ws' := [((a 7), .inr (3, [.ref (a 35), .ref (a 36), .ref (a 37)])), ((a 37), .inl (cI, 4, .inl ss))]) [1, 4] rfl
              refine vp_callSi (W.runV (As := [.int p2, .int p3, .int p4]) (rest := []) ⟨hx, hb, hml, hown, ht⟩ (s_X3_holds l dC dI cB cI cJ cZ cL a ss p2 p3 p4 (by first | assumption | omega) (by first | assumption | omega)) (cwV 3 ht (gV w_1247 w_1248 w_1249 w_110 w_1250) rfl rfl rfl (by decide +kernel) ⟨Nat.le_of_ble_eq_true rfl, Nat.le_of_ble_eq_true rfl⟩) (pVSn hN hK hPc (ci := 3) (q0 := 0) rfl rfl) rfl rfl hl.1 rfl (lv_room (Nat.le_of_ble_eq_true rfl)) dX8_paste_89 ⟨Nat.le_of_ble_eq_true rfl, Nat.le_of_ble_eq_true rfl⟩) (fun r_17 hw => ?_)
              clear hPc
              (try dsimp only at hw)
              have hw_18 := hw
              clear hw
              rcases hw_18 with ⟨hw, c_19⟩ | hw
              · subst hw
                refine lv_if_ne (tgt := 98) hx hb dX8_paste_92 (by decide) (fun _ => ?_) (fun c9 => by first | exact absurd (by decide) c9 | exact absurd c9 (by decide))
                refine lv_aload_n hx hb dX8_paste_98 rfl (lv_at hl 0 rfl) ?_
                refine va_get (D := (dC, dI)) (ci := 8) (v := .ref (a 7)) (C := RX8) (T := TX8) (N := 16) hx hb ht iX8 hown hK hP 0 rfl rfl 6 (by decide) (ht _ w_381) (fun _ h9 => h9) rfl dX8_paste_99 ?_
                refine lv_iload_n hx hb dX8_paste_102 rfl (lv_at hl 1 rfl) ?_
                refine lv_iload_n hx hb dX8_paste_103 rfl (lv_at hl 2 rfl) ?_
                refine lv_iload_n hx hb dX8_paste_104 rfl (lv_at hl 3 rfl) ?_
                refine lv_iload hx hb dX8_paste_105 (lv_at hl 4 rfl) ?_
                refine lv_iload hx hb dX8_paste_107 (lv_at hl 5 rfl) ?_
                have hPc := hP.sub (ws' := [((a 7), .inr (3, [.ref (a 35), .ref (a 36), .ref (a 37)])), ((a 35), .inl (cJ, 240, .inr (.inl sn)))]) [1, 2] rfl
                have hDc := hD.sub (ws' := [((a 7), .inr (3, [.ref (a 35), .ref (a 36), .ref (a 37)])), ((a 35), .inl (cJ, 240, .inr (.inl sn)))]) [1, 2] (by decide) rfl
                have hFc := va_free (wc := [((a 7), .inr (3, [.ref (a 35), .ref (a 36), .ref (a 37)])), ((a 35), .inl (cJ, 240, .inr (.inl sn)))]) hD hS hA [1, 2] rfl
                refine va_callv (va_runV (As := [.int p0, .int p1, .int p2, .int p3, .int p4]) (rest := []) ⟨hx, hb, hml, hown, ht⟩ (s_X3_copy l dC dI cB cI cJ cZ cL s.heap.size a sn p0 p1 p2 p3 p4 (by first | assumption | omega) (by first | assumption | omega) (by first | assumption | omega)) (cwV 5 ht (gV w_1251 w_1252 w_1253 w_110 w_1254) rfl rfl rfl (by decide +kernel) ⟨Nat.le_of_ble_eq_true rfl, Nat.le_of_ble_eq_true rfl⟩) (pVQn hN hK hPc hDc (ci := 3) (q0 := 0) rfl rfl) rfl rfl hl.1 rfl (lv_room (Nat.le_of_ble_eq_true rfl)) dX8_paste_109 ⟨Nat.le_of_ble_eq_true rfl, Nat.le_of_ble_eq_true rfl⟩) hS (fun q _ h => hFc q h) hFc (fun u_21 t1 H1 locs ht1 hvm hw hB hz1 hk1 hS => ?_)
                obtain ⟨hP1, hD1⟩ := hB
                rw [ht1] at hP1
                obtain ⟨hP, hD⟩ := va_join (wr := [((a 0), .inr (8, [.ref (a 1), .ref (a 2), .ref (a 3), .ref (a 4), .ref (a 5), .ref (a 6), .ref (a 7), .ref (a 8), .ref (a 9), .ref (a 10), .ref (a 11), .ref (a 12), .ref (a 13), .ref (a 14), .int fk, .int fp])), ((a 36), .inl (cI, 4, .inl sw)), ((a 37), .inl (cI, 4, .inl ss))]) (w1 := [((a 7), .inr (3, [.ref (a 35), .ref (a 36), .ref (a 37)])), ((a 35), .inl (cJ, 240, .inr (.inl u_21)))]) hP hD [1, 2] [0, 3, 4] rfl rfl (by decide) (by decide) hk1 hFc hP1 hD1
                clear hFc hDc hPc hP1 hD1 hz1 hk1 hvm
                generalize H1 = H at hP hS ⊢
                have hP : va_P (dC, dI) vwCl [((a 0), .inr (8, [.ref (a 1), .ref (a 2), .ref (a 3), .ref (a 4), .ref (a 5), .ref (a 6), .ref (a 7), .ref (a 8), .ref (a 9), .ref (a 10), .ref (a 11), .ref (a 12), .ref (a 13), .ref (a 14), .int fk, .int fp])), ((a 36), .inl (cI, 4, .inl sw)), ((a 37), .inl (cI, 4, .inl ss)), ((a 7), .inr (3, [.ref (a 35), .ref (a 36), .ref (a 37)])), ((a 35), .inl (cJ, 240, .inr (.inl u_21)))] H := hP
                have hD : va_D A [((a 0), .inr (8, [.ref (a 1), .ref (a 2), .ref (a 3), .ref (a 4), .ref (a 5), .ref (a 6), .ref (a 7), .ref (a 8), .ref (a 9), .ref (a 10), .ref (a 11), .ref (a 12), .ref (a 13), .ref (a 14), .int fk, .int fp])), ((a 36), .inl (cI, 4, .inl sw)), ((a 37), .inl (cI, 4, .inl ss)), ((a 7), .inr (3, [.ref (a 35), .ref (a 36), .ref (a 37)])), ((a 35), .inl (cJ, 240, .inr (.inl u_21)))] := hD
                clear hw
                refine lv_iconst (v := 0) hx hb dX8_paste_112 (by decide) ?_
                have hP9 := hP.sub (ws' := [((a 0), .inr (8, [.ref (a 1), .ref (a 2), .ref (a 3), .ref (a 4), .ref (a 5), .ref (a 6), .ref (a 7), .ref (a 8), .ref (a 9), .ref (a 10), .ref (a 11), .ref (a 12), .ref (a 13), .ref (a 14), .int fk, .int fp])), ((a 7), .inr (3, [.ref (a 35), .ref (a 36), .ref (a 37)])), ((a 35), .inl (cJ, 240, .inr (.inl u_21))), ((a 36), .inl (cI, 4, .inl sw)), ((a 37), .inl (cI, 4, .inl ss))]) [0, 3, 4, 1, 2] rfl
                have hD9 := hD.sub (ws' := [((a 0), .inr (8, [.ref (a 1), .ref (a 2), .ref (a 3), .ref (a 4), .ref (a 5), .ref (a 6), .ref (a 7), .ref (a 8), .ref (a 9), .ref (a 10), .ref (a 11), .ref (a 12), .ref (a 13), .ref (a 14), .int fk, .int fp])), ((a 7), .inr (3, [.ref (a 35), .ref (a 36), .ref (a 37)])), ((a 35), .inl (cJ, 240, .inr (.inl u_21))), ((a 36), .inl (cI, 4, .inl sw)), ((a 37), .inl (cI, 4, .inl ss))]) [0, 3, 4, 1, 2] (by decide) rfl
                exact W.iret (v := 0) hx hb hr (fun t ht hW => ⟨⟨0, u_21, rfl, trivial, ⟨by rw [ht]; exact hP9, hD9⟩⟩, hS.F ht⟩) hS.2.2 dX8_paste_113
              · subst hw
                refine lv_if_ne (tgt := 98) hx hb dX8_paste_92 (by decide) (fun c9 => by first | exact absurd c9 (by decide) | exact absurd (by decide) c9) (fun _ => ?_)
                refine lv_bipush (v := (-7)) hx hb dX8_paste_95 (by decide) ?_
                have hP9 := hP.sub (ws' := [((a 0), .inr (8, [.ref (a 1), .ref (a 2), .ref (a 3), .ref (a 4), .ref (a 5), .ref (a 6), .ref (a 7), .ref (a 8), .ref (a 9), .ref (a 10), .ref (a 11), .ref (a 12), .ref (a 13), .ref (a 14), .int fk, .int fp])), ((a 7), .inr (3, [.ref (a 35), .ref (a 36), .ref (a 37)])), ((a 35), .inl (cJ, 240, .inr (.inl sn))), ((a 36), .inl (cI, 4, .inl sw)), ((a 37), .inl (cI, 4, .inl ss))]) [0, 1, 2, 3, 4] rfl
                have hD9 := hD.sub (ws' := [((a 0), .inr (8, [.ref (a 1), .ref (a 2), .ref (a 3), .ref (a 4), .ref (a 5), .ref (a 6), .ref (a 7), .ref (a 8), .ref (a 9), .ref (a 10), .ref (a 11), .ref (a 12), .ref (a 13), .ref (a 14), .int fk, .int fp])), ((a 7), .inr (3, [.ref (a 35), .ref (a 36), .ref (a 37)])), ((a 35), .inl (cJ, 240, .inr (.inl sn))), ((a 36), .inl (cI, 4, .inl sw)), ((a 37), .inl (cI, 4, .inl ss))]) [0, 1, 2, 3, 4] (by decide) rfl
                exact W.iret (v := (-7)) hx hb hr (fun t ht hW => ⟨⟨(-7), sn, rfl, trivial, ⟨by rw [ht]; exact hP9, hD9⟩⟩, hS.F ht⟩) hS.2.2 dX8_paste_97
            · subst hw
              refine lv_if_eq (tgt := 95) hx hb dX8_paste_77 (by decide) (fun _ => ?_) (fun c9 => by first | exact absurd (by decide) c9 | exact absurd c9 (by decide))
              refine lv_bipush (v := (-7)) hx hb dX8_paste_95 (by decide) ?_
              have hP9 := hP.sub (ws' := [((a 0), .inr (8, [.ref (a 1), .ref (a 2), .ref (a 3), .ref (a 4), .ref (a 5), .ref (a 6), .ref (a 7), .ref (a 8), .ref (a 9), .ref (a 10), .ref (a 11), .ref (a 12), .ref (a 13), .ref (a 14), .int fk, .int fp])), ((a 7), .inr (3, [.ref (a 35), .ref (a 36), .ref (a 37)])), ((a 35), .inl (cJ, 240, .inr (.inl sn))), ((a 36), .inl (cI, 4, .inl sw)), ((a 37), .inl (cI, 4, .inl ss))]) [0, 1, 2, 3, 4] rfl
              have hD9 := hD.sub (ws' := [((a 0), .inr (8, [.ref (a 1), .ref (a 2), .ref (a 3), .ref (a 4), .ref (a 5), .ref (a 6), .ref (a 7), .ref (a 8), .ref (a 9), .ref (a 10), .ref (a 11), .ref (a 12), .ref (a 13), .ref (a 14), .int fk, .int fp])), ((a 7), .inr (3, [.ref (a 35), .ref (a 36), .ref (a 37)])), ((a 35), .inl (cJ, 240, .inr (.inl sn))), ((a 36), .inl (cI, 4, .inl sw)), ((a 37), .inl (cI, 4, .inl ss))]) [0, 1, 2, 3, 4] (by decide) rfl
              exact W.iret (v := (-7)) hx hb hr (fun t ht hW => ⟨⟨(-7), sn, rfl, trivial, ⟨by rw [ht]; exact hP9, hD9⟩⟩, hS.F ht⟩) hS.2.2 dX8_paste_97
          · (try simp only [i_lt, i_le, i_eq] at c_13)
            refine lv_bipush (v := (-8)) hx hb dX8_paste_63 (by decide) ?_
            have hP9 := hP.sub (ws' := [((a 0), .inr (8, [.ref (a 1), .ref (a 2), .ref (a 3), .ref (a 4), .ref (a 5), .ref (a 6), .ref (a 7), .ref (a 8), .ref (a 9), .ref (a 10), .ref (a 11), .ref (a 12), .ref (a 13), .ref (a 14), .int fk, .int fp])), ((a 7), .inr (3, [.ref (a 35), .ref (a 36), .ref (a 37)])), ((a 35), .inl (cJ, 240, .inr (.inl sn))), ((a 36), .inl (cI, 4, .inl sw)), ((a 37), .inl (cI, 4, .inl ss))]) [0, 1, 2, 3, 4] rfl
            have hD9 := hD.sub (ws' := [((a 0), .inr (8, [.ref (a 1), .ref (a 2), .ref (a 3), .ref (a 4), .ref (a 5), .ref (a 6), .ref (a 7), .ref (a 8), .ref (a 9), .ref (a 10), .ref (a 11), .ref (a 12), .ref (a 13), .ref (a 14), .int fk, .int fp])), ((a 7), .inr (3, [.ref (a 35), .ref (a 36), .ref (a 37)])), ((a 35), .inl (cJ, 240, .inr (.inl sn))), ((a 36), .inl (cI, 4, .inl sw)), ((a 37), .inl (cI, 4, .inl ss))]) [0, 1, 2, 3, 4] (by decide) rfl
            exact W.iret (v := (-8)) hx hb hr (fun t ht hW => ⟨⟨(-8), sn, rfl, trivial, ⟨by rw [ht]; exact hP9, hD9⟩⟩, hS.F ht⟩) hS.2.2 dX8_paste_65
        · (try simp only [i_lt, i_le, i_eq, T0] at c_10)
          refine lv_bipush (v := (-6)) hx hb dX8_paste_39 (by decide) ?_
          have hP9 := hP.sub (ws' := [((a 0), .inr (8, [.ref (a 1), .ref (a 2), .ref (a 3), .ref (a 4), .ref (a 5), .ref (a 6), .ref (a 7), .ref (a 8), .ref (a 9), .ref (a 10), .ref (a 11), .ref (a 12), .ref (a 13), .ref (a 14), .int fk, .int fp])), ((a 7), .inr (3, [.ref (a 35), .ref (a 36), .ref (a 37)])), ((a 35), .inl (cJ, 240, .inr (.inl sn))), ((a 36), .inl (cI, 4, .inl sw)), ((a 37), .inl (cI, 4, .inl ss))]) [0, 1, 2, 3, 4] rfl
          have hD9 := hD.sub (ws' := [((a 0), .inr (8, [.ref (a 1), .ref (a 2), .ref (a 3), .ref (a 4), .ref (a 5), .ref (a 6), .ref (a 7), .ref (a 8), .ref (a 9), .ref (a 10), .ref (a 11), .ref (a 12), .ref (a 13), .ref (a 14), .int fk, .int fp])), ((a 7), .inr (3, [.ref (a 35), .ref (a 36), .ref (a 37)])), ((a 35), .inl (cJ, 240, .inr (.inl sn))), ((a 36), .inl (cI, 4, .inl sw)), ((a 37), .inl (cI, 4, .inl ss))]) [0, 1, 2, 3, 4] (by decide) rfl
          exact W.iret (v := (-6)) hx hb hr (fun t ht hW => ⟨⟨(-6), sn, rfl, trivial, ⟨by rw [ht]; exact hP9, hD9⟩⟩, hS.F ht⟩) hS.2.2 dX8_paste_41
    · subst hw
      refine lv_if_ne (tgt := 17) hx hb dX8_paste_11 (by decide) (fun c9 => by first | exact absurd c9 (by decide) | exact absurd (by decide) c9) (fun _ => ?_)
      refine lv_bipush (v := (-2)) hx hb dX8_paste_14 (by decide) ?_
      have hP9 := hP.sub (ws' := [((a 0), .inr (8, [.ref (a 1), .ref (a 2), .ref (a 3), .ref (a 4), .ref (a 5), .ref (a 6), .ref (a 7), .ref (a 8), .ref (a 9), .ref (a 10), .ref (a 11), .ref (a 12), .ref (a 13), .ref (a 14), .int fk, .int fp])), ((a 7), .inr (3, [.ref (a 35), .ref (a 36), .ref (a 37)])), ((a 35), .inl (cJ, 240, .inr (.inl sn))), ((a 36), .inl (cI, 4, .inl sw)), ((a 37), .inl (cI, 4, .inl ss))]) [0, 1, 2, 3, 4] rfl
      have hD9 := hD.sub (ws' := [((a 0), .inr (8, [.ref (a 1), .ref (a 2), .ref (a 3), .ref (a 4), .ref (a 5), .ref (a 6), .ref (a 7), .ref (a 8), .ref (a 9), .ref (a 10), .ref (a 11), .ref (a 12), .ref (a 13), .ref (a 14), .int fk, .int fp])), ((a 7), .inr (3, [.ref (a 35), .ref (a 36), .ref (a 37)])), ((a 35), .inl (cJ, 240, .inr (.inl sn))), ((a 36), .inl (cI, 4, .inl sw)), ((a 37), .inl (cI, 4, .inl ss))]) [0, 1, 2, 3, 4] (by decide) rfl
      exact W.iret (v := (-2)) hx hb hr (fun t ht hW => ⟨⟨(-2), sn, rfl, trivial, ⟨by rw [ht]; exact hP9, hD9⟩⟩, hS.F ht⟩) hS.2.2 dX8_paste_16
  · subst hw
    refine lv_if_eq (tgt := 14) hx hb dX8_paste_4 (by decide) (fun _ => ?_) (fun c9 => by first | exact absurd (by decide) c9 | exact absurd c9 (by decide))
    refine lv_bipush (v := (-2)) hx hb dX8_paste_14 (by decide) ?_
    have hP9 := hP.sub (ws' := [((a 0), .inr (8, [.ref (a 1), .ref (a 2), .ref (a 3), .ref (a 4), .ref (a 5), .ref (a 6), .ref (a 7), .ref (a 8), .ref (a 9), .ref (a 10), .ref (a 11), .ref (a 12), .ref (a 13), .ref (a 14), .int fk, .int fp])), ((a 7), .inr (3, [.ref (a 35), .ref (a 36), .ref (a 37)])), ((a 35), .inl (cJ, 240, .inr (.inl sn))), ((a 36), .inl (cI, 4, .inl sw)), ((a 37), .inl (cI, 4, .inl ss))]) [0, 1, 2, 3, 4] rfl
    have hD9 := hD.sub (ws' := [((a 0), .inr (8, [.ref (a 1), .ref (a 2), .ref (a 3), .ref (a 4), .ref (a 5), .ref (a 6), .ref (a 7), .ref (a 8), .ref (a 9), .ref (a 10), .ref (a 11), .ref (a 12), .ref (a 13), .ref (a 14), .int fk, .int fp])), ((a 7), .inr (3, [.ref (a 35), .ref (a 36), .ref (a 37)])), ((a 35), .inl (cJ, 240, .inr (.inl sn))), ((a 36), .inl (cI, 4, .inl sw)), ((a 37), .inl (cI, 4, .inl ss))]) [0, 1, 2, 3, 4] (by decide) rfl
    exact W.iret (v := (-2)) hx hb hr (fun t ht hW => ⟨⟨(-2), sn, rfl, trivial, ⟨by rw [ht]; exact hP9, hD9⟩⟩, hS.F ht⟩) hS.2.2 dX8_paste_16
