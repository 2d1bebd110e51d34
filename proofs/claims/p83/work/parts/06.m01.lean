set_option maxHeartbeats 8000000 in
set_option maxRecDepth 100000 in
theorem s_X9_leakOf (l : Launch) (dC : Nat → ClassId) (dI : Nat → Nat → Nat) (cB cI cJ cZ cL : ClassId) (g : Nat → Nat) (g_th : Int32) (g_tp : Int32) (g_so : Int32) (g_tk : Int32) (g_pl : Int32) (g_va : Int32) (g_wo : Int64) (g_bd : Int32) (g_bp : Int32) (g_fa : Int32) (g_fp : Int32) (g_lw : Int32) (g_we : Int32) (g_cu : Int32) (g_go : Int32) (g_ba : Int32) (g_jo : Int32) (g_bt : Int64) (g_sb : Int32) (g_ab : Int32) (g_al : Int32) (hs : Nat → Int32) (ac : Nat → Int32) (lk : Nat → Int32) (p0 : Int32) (p1 : Int32) (h4 : 0 ≤ Int32.toInt (hs 4) ∧ Int32.toInt (hs 4) ≤ 5) (h6 : 0 ≤ Int32.toInt (hs 6) ∧ Int32.toInt (hs 6) ≤ 30) (hlk : LK (Int32.toInt (hs 4)) lk) (hk : 0 ≤ Int32.toInt p0 ∧ Int32.toInt p0 < Int32.toInt (hs 4)) (hd : Int32.toInt p1 < 2147483647) : Met l yX9_leakOf (wy yX9_leakOf cX9_leakOf 7 (some .int)) ({ frames := 2, cells := 0, slots := 0, locals := 80 }) (va_Pc [.ref (g 0), .int p0, .int p1] (fun U => va_P (dC, dI) vwCl [((g 0), .inr (9, [.int g_th, .ref (g 1), .ref (g 2), .ref (g 3), .ref (g 4), .ref (g 5), .int g_tp, .int g_so, .int g_tk, .int g_pl, .int g_va, .long g_wo, .int g_bd, .int g_bp, .int g_fa, .int g_fp, .ref (g 6), .ref (g 7), .ref (g 8), .ref (g 9), .ref (g 10), .ref (g 11), .int g_lw, .int g_we, .int g_cu, .int g_go, .int g_ba, .ref (g 12), .ref (g 13), .int g_jo, .ref (g 14), .ref (g 15), .long g_bt, .int g_sb, .int g_ab, .int g_al, .ref (g 16), .ref (g 17)])), ((g 7), .inl (cI, 35, .inl hs)), ((g 10), .inl (cI, 450, .inl ac)), ((g 13), .inl (cI, 5, .inl lk))] U.heap ∧ va_K (dC, dI) vwCl (tyL cB cI cJ cZ cL) U ∧ NW U)) (vp_Si (fun r => (1 ≤ Int32.toInt r) ∧ (Int32.toInt r ≤ 30))) 0 0 (fun _ => False) := by
  refine Met.ofW (cc := cX9_leakOf) (maxL := 7) (ret := (some .int)) (by decide) rfl ?_
  intro p e s m args below meth c s₁ B hml hv
  obtain ⟨rfl, hP, hK, hN⟩ := hv
  have hx := B.exec
  have hb := B.bytes
  have hr := B.returns
  have ht : ∀ w ∈ lw_ok, w.before _ s = true := fun w h => atoms_spec (ws := wy yX9_leakOf cX9_leakOf 7 (some .int)) B.pre w (List.mem_cons_of_mem _ h)
  have hown : s.vm.findClass RX9 = some m.cls := findClass_of_methodNamed B.named
  have hlocks := B.notSynchronized
  have hl := lv_entry ([.ref (g 0), .int p0, .int p1]) (n := 7) (Nat.le_of_ble_eq_true rfl)
  rw [lg_entry_eq]
  generalize (lg_sl ([.ref (g 0), .int p0, .int p1]) ++ List.replicate (7 - (lg_sl ([.ref (g 0), .int p0, .int p1])).length) Slot.unset).toArray = ls at hl ⊢
  have hl : lv_has ls 7 [(0, .ref (g 0)), (1, .int p0), (2, .int p1)] := hl
  have hP : va_P (dC, dI) vwCl [((g 0), .inr (9, [.int g_th, .ref (g 1), .ref (g 2), .ref (g 3), .ref (g 4), .ref (g 5), .int g_tp, .int g_so, .int g_tk, .int g_pl, .int g_va, .long g_wo, .int g_bd, .int g_bp, .int g_fa, .int g_fp, .ref (g 6), .ref (g 7), .ref (g 8), .ref (g 9), .ref (g 10), .ref (g 11), .int g_lw, .int g_we, .int g_cu, .int g_go, .int g_ba, .ref (g 12), .ref (g 13), .int g_jo, .ref (g 14), .ref (g 15), .long g_bt, .int g_sb, .int g_ab, .int g_al, .ref (g 16), .ref (g 17)])), ((g 7), .inl (cI, 35, .inl hs)), ((g 10), .inl (cI, 450, .inl ac)), ((g 13), .inl (cI, 5, .inl lk))] s.heap := hP
  have rg_p0 := rgI p0
  have rg_p1 := rgI p1
  refine lv_aload_n hx hb dX9_leakOf_0 rfl (lv_at hl 0 rfl) ?_
  refine lv_iload_n hx hb dX9_leakOf_1 rfl (lv_at hl 1 rfl) ?_
  refine lv_iload_n hx hb dX9_leakOf_2 rfl (lv_at hl 2 rfl) ?_
  have hPc := hP.sub (ws' := [((g 0), .inr (9, [.int g_th, .ref (g 1), .ref (g 2), .ref (g 3), .ref (g 4), .ref (g 5), .int g_tp, .int g_so, .int g_tk, .int g_pl, .int g_va, .long g_wo, .int g_bd, .int g_bp, .int g_fa, .int g_fp, .ref (g 6), .ref (g 7), .ref (g 8), .ref (g 9), .ref (g 10), .ref (g 11), .int g_lw, .int g_we, .int g_cu, .int g_go, .int g_ba, .ref (g 12), .ref (g 13), .int g_jo, .ref (g 14), .ref (g 15), .long g_bt, .int g_sb, .int g_ab, .int g_al, .ref (g 16), .ref (g 17)])), ((g 7), .inl (cI, 35, .inl hs)), ((g 10), .inl (cI, 450, .inl ac))]) [0, 1, 2] rfl
  refine vp_callSi (W.runV (As := [.int p0, .int p1]) (rest := []) ⟨hx, hb, hml, hown, ht⟩ (s_X9_cupOf l dC dI cB cI cJ cZ cL g g_th g_tp g_so g_tk g_pl g_va g_wo g_bd g_bp g_fa g_fp g_lw g_we g_cu g_go g_ba g_jo g_bt g_sb g_ab g_al hs ac p0 p1 (by first | assumption | omega | decide | (simp only [T0, T1, T2, T3, Tm1]; omega))) (cwV 2 ht (gV w_1566 w_1568 w_75 w_114 w_1569) rfl rfl rfl (by decide +kernel) ⟨Nat.le_of_ble_eq_true rfl, Nat.le_of_ble_eq_true rfl⟩) (pVSn hN hK hPc (ci := 9) (q0 := 0) rfl rfl) rfl rfl hl.1 rfl (lv_room (Nat.le_of_ble_eq_true rfl)) dX9_leakOf_3 ⟨Nat.le_of_ble_eq_true rfl, Nat.le_of_ble_eq_true rfl⟩) (fun r_1 hw => ?_)
  clear hPc
  clear hw
  refine lv_istore_n (lv' := [(3, .int r_1), (0, .ref (g 0)), (1, .int p0), (2, .int p1)]) hx hb dX9_leakOf_6 rfl hl (by decide) rfl (fun ls hl => ?_)
  refine lv_iload_n hx hb dX9_leakOf_7 rfl (lv_at hl 0 rfl) ?_
  refine lv_iconst (v := (-1)) hx hb dX9_leakOf_8 (by decide) ?_
  refine lv_icmp_ne (tgt := 21) hx hb dX9_leakOf_9 (by decide) (fun c_2 => ?_) (fun c_2 => ?_)
  · (try simp only [i_lt, i_le, i_eq, Tm1] at c_2)
    refine lv_bipush (v := 30) hx hb dX9_leakOf_21 (by decide) ?_
    refine lv_istore (lv' := [(4, .int 30), (3, .int r_1), (0, .ref (g 0)), (1, .int p0), (2, .int p1)]) hx hb dX9_leakOf_23 hl (by decide) rfl (fun ls hl => ?_)
    refine lv_aload_n hx hb dX9_leakOf_25 rfl (lv_at hl 2 rfl) ?_
    refine va_get (D := (dC, dI)) (ci := 9) (v := .int g_lw) (C := RX9) (T := TX9) (N := 38) hx hb ht iX9 hown hK hP 0 rfl rfl 22 (by decide) (ht _ w_1284) (fun _ h9 => h9) rfl dX9_leakOf_26 ?_
    refine lv_iconst (v := 1) hx hb dX9_leakOf_29 (by decide) ?_
    refine lv_icmp_ne (tgt := 58) hx hb dX9_leakOf_30 (by decide) (fun c_3 => ?_) (fun c_3 => ?_)
    · (try simp only [i_lt, i_le, i_eq, T1] at c_3)
      refine lv_aload_n hx hb dX9_leakOf_58 rfl (lv_at hl 2 rfl) ?_
      refine va_get (D := (dC, dI)) (ci := 9) (v := .int g_lw) (C := RX9) (T := TX9) (N := 38) hx hb ht iX9 hown hK hP 0 rfl rfl 22 (by decide) (ht _ w_1284) (fun _ h9 => h9) rfl dX9_leakOf_59 ?_
      refine lv_iconst (v := 2) hx hb dX9_leakOf_62 (by decide) ?_
      refine lv_icmp_ne (tgt := 108) hx hb dX9_leakOf_63 (by decide) (fun c_4 => ?_) (fun c_4 => ?_)
      · (try simp only [i_lt, i_le, i_eq, T2] at c_4)
        refine lv_aload_n hx hb dX9_leakOf_108 rfl (lv_at hl 2 rfl) ?_
        refine va_get (D := (dC, dI)) (ci := 9) (v := .int g_lw) (C := RX9) (T := TX9) (N := 38) hx hb ht iX9 hown hK hP 0 rfl rfl 22 (by decide) (ht _ w_1284) (fun _ h9 => h9) rfl dX9_leakOf_109 ?_
        refine lv_if_ne (tgt := 118) hx hb dX9_leakOf_112 (by decide) (fun c_5 => ?_) (fun c_5 => ?_)
        · (try simp only [i_lt, i_le, i_eq, T0] at c_5)
          refine lv_iconst (v := 0) hx hb dX9_leakOf_118 (by decide) ?_
          refine lv_istore (lv' := [(5, .int 0), (4, .int 30), (3, .int r_1), (0, .ref (g 0)), (1, .int p0), (2, .int p1)]) hx hb dX9_leakOf_119 hl (by decide) rfl (fun ls hl => ?_)
          refine lv_iconst (v := 0) hx hb dX9_leakOf_121 (by decide) ?_
          refine lv_iload_n hx hb dX9_leakOf_122 rfl (lv_at hl 2 rfl) ?_
          have hPc := hP.sub (ws' := []) [] rfl
          refine vp_callSi (W.runS (As := [.int 0, .int r_1]) (rest := []) ⟨hx, hb, hml, hown, ht⟩ (s_X9_moreOf l dC dI cB cI cJ cZ cL 0 r_1) (va_cwS 2 ht (gQ w_1573 w_1574 w_114 w_1575) rfl rfl rfl (by decide +kernel) ⟨Nat.le_of_ble_eq_true rfl, Nat.le_of_ble_eq_true rfl⟩) (pSSn hN hK hPc) rfl rfl hl.1 rfl (lv_room (Nat.le_of_ble_eq_true rfl)) dX9_leakOf_123 ⟨Nat.le_of_ble_eq_true rfl, Nat.le_of_ble_eq_true rfl⟩) (fun r_6 hw => ?_)
          clear hPc
          (try dsimp only at hw)
          have hw_7 := hw
          clear hw
          obtain ⟨hw_7_0, hw_7_1, hw_7_2⟩ := hw_7
          (try simp only [T0] at hw_7_0 hw_7_1 hw_7_2)
          refine lv_istore (lv' := [(6, .int r_6), (5, .int 0), (4, .int 30), (3, .int r_1), (0, .ref (g 0)), (1, .int p0), (2, .int p1)]) hx hb dX9_leakOf_126 hl (by decide) rfl (fun ls hl => ?_)
          have lp_32 : ∀ (d : Nat) (v_19 : Int32) (v_20 : Int32) (ls : Array Slot), ((0 ≤ Int32.toInt v_20 ∧ 0 ≤ Int32.toInt v_19 ∧ Int32.toInt v_19 ≤ Int32.toInt v_20)) → ((2147483647 - Int32.toInt v_20).toNat < d) → lv_has ls 7 [(6, .int v_20), (5, .int v_19), (4, .int 30), (3, .int r_1), (0, .ref (g 0)), (1, .int p0), (2, .int p1)] → W p l e (headSpec (wy yX9_leakOf cX9_leakOf 7 (some .int)) ({ frames := 2, cells := 0, slots := 0, locals := 80 })).room s m ([.ref (g 0), .int p0, .int p1] : List Value).toArray below meth c s.heap [] 0 0 (MQ below (vp_Si (fun r => (1 ≤ Int32.toInt r) ∧ (Int32.toInt r ≤ 30))) ([.ref (g 0), .int p0, .int p1] : List Value).toArray s 0 0 (fun _ => False)) (F0 m 128 ls []) := by
            intro d
            induction d with
            | zero => intro v_19 v_20  ls hI hM; exfalso; exact absurd hM (Nat.not_lt_zero _)
            | succ d ih_33 =>
              intro v_19 v_20 ls hI hM hl
              have hI_34 := hI
              refine lv_iload hx hb dX9_leakOf_128 (lv_at hl 0 rfl) ?_
              refine lv_iload_n hx hb dX9_leakOf_130 rfl (lv_at hl 6 rfl) ?_
              refine lv_icmp_gt (tgt := 162) hx hb dX9_leakOf_131 (by decide) (fun c_35 => ?_) (fun c_35 => ?_)
              · (try simp only [i_lt, i_le, i_eq] at c_35)
                have rg9 := rgI v_19
                refine lv_iconst (v := 1) hx hb dX9_leakOf_162 (by decide) ?_
                refine lv_iload hx hb dX9_leakOf_163 (lv_at hl 2 rfl) ?_
                refine lv_iload hx hb dX9_leakOf_165 (lv_at hl 1 rfl) ?_
                refine lv_isub hx hb dX9_leakOf_167 ?_
                refine lv_topi (fun y_36 ey_36 => ?_)
                have ty_36 := isubF ey_36
                simp only [T30] at ty_36
                clear ey_36
                have hPc := hP.sub (ws' := []) [] rfl
                refine vp_callSi (W.runS (As := [.int 1, .int y_36]) (rest := []) ⟨hx, hb, hml, hown, ht⟩ (s_X9_moreOf l dC dI cB cI cJ cZ cL 1 y_36) (va_cwS 2 ht (gQ w_1573 w_1574 w_114 w_1575) rfl rfl rfl (by decide +kernel) ⟨Nat.le_of_ble_eq_true rfl, Nat.le_of_ble_eq_true rfl⟩) (pSSn hN hK hPc) rfl rfl hl.1 rfl (lv_room (Nat.le_of_ble_eq_true rfl)) dX9_leakOf_168 ⟨Nat.le_of_ble_eq_true rfl, Nat.le_of_ble_eq_true rfl⟩) (fun r_37 hw => ?_)
                clear hPc
                (try dsimp only at hw)
                have hw_38 := hw
                clear hw
                obtain ⟨hw_38_0, hw_38_1, hw_38_2⟩ := hw_38
                (try simp only [T1] at hw_38_0 hw_38_1 hw_38_2)
                exact W.iret (v := r_37) hx hb hr (fun t ht hW => ⟨r_37, rfl, ⟨(by first | omega | assumption | decide | exact LK_mono (by assumption) (by omega) | exact OM_mono (by assumption) (by omega) | exact CLR_mono (by assumption) (by omega) | (have e0 := T0; have e1 := T1; have e2 := T2; have e3 := T3; have em1 := Tm1; omega) | (dsimp only; done) | (dsimp only; first | omega | assumption | decide | exact LK_mono (by assumption) (by omega) | exact OM_mono (by assumption) (by omega) | exact CLR_mono (by assumption) (by omega) | (have e0 := T0; have e1 := T1; have e2 := T2; have e3 := T3; have em1 := Tm1; omega))), (by first | omega | assumption | decide | exact LK_mono (by assumption) (by omega) | exact OM_mono (by assumption) (by omega) | exact CLR_mono (by assumption) (by omega) | (have e0 := T0; have e1 := T1; have e2 := T2; have e3 := T3; have em1 := Tm1; omega) | (dsimp only; done) | (dsimp only; first | omega | assumption | decide | exact LK_mono (by assumption) (by omega) | exact OM_mono (by assumption) (by omega) | exact CLR_mono (by assumption) (by omega) | (have e0 := T0; have e1 := T1; have e2 := T2; have e3 := T3; have em1 := Tm1; omega)))⟩, ht⟩) (fun q h => absurd h List.not_mem_nil) dX9_leakOf_171
              · (try simp only [i_lt, i_le, i_eq] at c_35)
                refine lv_iload hx hb dX9_leakOf_134 (lv_at hl 1 rfl) ?_
                refine lv_aload_n hx hb dX9_leakOf_136 rfl (lv_at hl 4 rfl) ?_
                refine va_get (D := (dC, dI)) (ci := 9) (v := .int g_we) (C := RX9) (T := TX9) (N := 38) hx hb ht iX9 hown hK hP 0 rfl rfl 23 (by decide) (ht _ w_1285) (fun _ h9 => h9) rfl dX9_leakOf_137 ?_
                refine lv_iload hx hb dX9_leakOf_140 (lv_at hl 0 rfl) ?_
                have hPc := hP.sub (ws' := []) [] rfl
                refine vp_callSi (W.runS (As := [.int g_we, .int v_20]) (rest := [.int v_19]) ⟨hx, hb, hml, hown, ht⟩ (s_X9_isBit l dC dI cB cI cJ cZ cL g_we v_20) (va_cwS 2 ht (gQ w_1570 w_1571 w_114 w_1572) rfl rfl rfl (by decide +kernel) ⟨Nat.le_of_ble_eq_true rfl, Nat.le_of_ble_eq_true rfl⟩) (pSSn hN hK hPc) rfl rfl hl.1 rfl (lv_room (Nat.le_of_ble_eq_true rfl)) dX9_leakOf_142 ⟨Nat.le_of_ble_eq_true rfl, Nat.le_of_ble_eq_true rfl⟩) (fun r_39 hw => ?_)
                clear hPc
                (try dsimp only at hw)
                have hw_40 := hw
                clear hw
                refine lv_if_eq (tgt := 152) hx hb dX9_leakOf_145 (by decide) (fun c_41 => ?_) (fun c_41 => ?_)
                · (try simp only [i_lt, i_le, i_eq, T0] at c_41)
                  refine lv_iconst (v := 0) hx hb dX9_leakOf_152 (by decide) ?_
                  refine lv_iadd hx hb dX9_leakOf_153 ?_
                  refine lv_topi (fun y_42 ey_42 => ?_)
                  have ty_42 := iaddF ey_42
                  simp only [T0] at ty_42
                  clear ey_42
                  refine lv_istore (lv' := [(5, .int y_42), (6, .int v_20), (4, .int 30), (3, .int r_1), (0, .ref (g 0)), (1, .int p0), (2, .int p1)]) hx hb dX9_leakOf_154 hl (by decide) rfl (fun ls hl => ?_)
                  obtain ⟨y_43, ey_43⟩ : ∃ z : Int32, z = v_20 + 1 := ⟨_, rfl⟩
                  have ty_43 := iaddF ey_43
                  simp only [T1] at ty_43
                  refine lv_iinc (v := y_43) (lv' := [(6, .int y_43), (5, .int y_42), (4, .int 30), (3, .int r_1), (0, .ref (g 0)), (1, .int p0), (2, .int p1)]) hx hb dX9_leakOf_156 hl (k := 1) rfl (by rw [ey_43]; rfl) (by decide) rfl (fun ls hl => ?_)
                  clear ey_43
                  refine lv_goto (tgt := 128) hx hb dX9_leakOf_159 (by decide) ?_
                  exact ih_33 y_42 y_43 _ (by first | omega | assumption | decide | exact LK_0 | exact OM_0 | exact CE_0 | exact SZI_0 | exact CLR_0 | exact CP_0 | exact PV_0 | exact BV_0 (by assumption) (by omega) (by omega) | exact LK_mono (by assumption) (by omega) | exact OM_mono (by assumption) (by omega) | exact CE_mono (by assumption) (by omega) | exact CLR_mono (by assumption) (by omega) | exact CP_mono (by assumption) (by omega) | (have e0 := T0; have e1 := T1; have e2 := T2; have em1 := Tm1; omega)) (by omega) (lv_sub hl [0, 1, 2, 3, 4, 5, 6] rfl)
                · (try simp only [i_lt, i_le, i_eq, T0] at c_41)
                  refine lv_iconst (v := 1) hx hb dX9_leakOf_148 (by decide) ?_
                  refine lv_goto (tgt := 153) hx hb dX9_leakOf_149 (by decide) ?_
                  refine lv_iadd hx hb dX9_leakOf_153 ?_
                  refine lv_topi (fun y_44 ey_44 => ?_)
                  have ty_44 := iaddF ey_44
                  simp only [T1] at ty_44
                  clear ey_44
                  refine lv_istore (lv' := [(5, .int y_44), (6, .int v_20), (4, .int 30), (3, .int r_1), (0, .ref (g 0)), (1, .int p0), (2, .int p1)]) hx hb dX9_leakOf_154 hl (by decide) rfl (fun ls hl => ?_)
                  obtain ⟨y_45, ey_45⟩ : ∃ z : Int32, z = v_20 + 1 := ⟨_, rfl⟩
                  have ty_45 := iaddF ey_45
                  simp only [T1] at ty_45
                  refine lv_iinc (v := y_45) (lv' := [(6, .int y_45), (5, .int y_44), (4, .int 30), (3, .int r_1), (0, .ref (g 0)), (1, .int p0), (2, .int p1)]) hx hb dX9_leakOf_156 hl (k := 1) rfl (by rw [ey_45]; rfl) (by decide) rfl (fun ls hl => ?_)
                  clear ey_45
                  refine lv_goto (tgt := 128) hx hb dX9_leakOf_159 (by decide) ?_
                  exact ih_33 y_44 y_45 _ (by first | omega | assumption | decide | exact LK_0 | exact OM_0 | exact CE_0 | exact SZI_0 | exact CLR_0 | exact CP_0 | exact PV_0 | exact BV_0 (by assumption) (by omega) (by omega) | exact LK_mono (by assumption) (by omega) | exact OM_mono (by assumption) (by omega) | exact CE_mono (by assumption) (by omega) | exact CLR_mono (by assumption) (by omega) | exact CP_mono (by assumption) (by omega) | (have e0 := T0; have e1 := T1; have e2 := T2; have em1 := Tm1; omega)) (by omega) (lv_sub hl [0, 1, 2, 3, 4, 5, 6] rfl)
          exact lp_32 _ 0 r_6 _ (by first | omega | assumption | decide | exact LK_0 | exact OM_0 | exact CE_0 | exact SZI_0 | exact CLR_0 | exact CP_0 | exact PV_0 | exact BV_0 (by assumption) (by omega) (by omega) | exact LK_mono (by assumption) (by omega) | exact OM_mono (by assumption) (by omega) | exact CE_mono (by assumption) (by omega) | exact CLR_mono (by assumption) (by omega) | exact CP_mono (by assumption) (by omega) | (have e0 := T0; have e1 := T1; have e2 := T2; have em1 := Tm1; omega)) (Nat.lt_succ_self _) (lv_sub hl [0, 1, 2, 3, 4, 5, 6] rfl)
        · (try simp only [i_lt, i_le, i_eq, T0] at c_5)
          refine lv_iload hx hb dX9_leakOf_115 (lv_at hl 0 rfl) ?_
          exact W.iret (v := 30) hx hb hr (fun t ht hW => ⟨30, rfl, ⟨(by first | omega | assumption | decide | exact LK_mono (by assumption) (by omega) | exact OM_mono (by assumption) (by omega) | exact CLR_mono (by assumption) (by omega) | (have e0 := T0; have e1 := T1; have e2 := T2; have e3 := T3; have em1 := Tm1; omega) | (dsimp only; done) | (dsimp only; first | omega | assumption | decide | exact LK_mono (by assumption) (by omega) | exact OM_mono (by assumption) (by omega) | exact CLR_mono (by assumption) (by omega) | (have e0 := T0; have e1 := T1; have e2 := T2; have e3 := T3; have em1 := Tm1; omega))), (by first | omega | assumption | decide | exact LK_mono (by assumption) (by omega) | exact OM_mono (by assumption) (by omega) | exact CLR_mono (by assumption) (by omega) | (have e0 := T0; have e1 := T1; have e2 := T2; have e3 := T3; have em1 := Tm1; omega) | (dsimp only; done) | (dsimp only; first | omega | assumption | decide | exact LK_mono (by assumption) (by omega) | exact OM_mono (by assumption) (by omega) | exact CLR_mono (by assumption) (by omega) | (have e0 := T0; have e1 := T1; have e2 := T2; have e3 := T3; have em1 := Tm1; omega)))⟩, ht⟩) (fun q h => absurd h List.not_mem_nil) dX9_leakOf_117
      · (try simp only [i_lt, i_le, i_eq, T2] at c_4)
        refine lv_aload_n hx hb dX9_leakOf_66 rfl (lv_at hl 2 rfl) ?_
        refine va_get (D := (dC, dI)) (ci := 9) (v := .int g_we) (C := RX9) (T := TX9) (N := 38) hx hb ht iX9 hown hK hP 0 rfl rfl 23 (by decide) (ht _ w_1285) (fun _ h9 => h9) rfl dX9_leakOf_67 ?_
        refine lv_iload_n hx hb dX9_leakOf_70 rfl (lv_at hl 4 rfl) ?_
        have hPc := hP.sub (ws' := []) [] rfl
        refine vp_callSi (W.runS (As := [.int g_we, .int p1]) (rest := []) ⟨hx, hb, hml, hown, ht⟩ (s_X9_isBit l dC dI cB cI cJ cZ cL g_we p1) (va_cwS 2 ht (gQ w_1570 w_1571 w_114 w_1572) rfl rfl rfl (by decide +kernel) ⟨Nat.le_of_ble_eq_true rfl, Nat.le_of_ble_eq_true rfl⟩) (pSSn hN hK hPc) rfl rfl hl.1 rfl (lv_room (Nat.le_of_ble_eq_true rfl)) dX9_leakOf_71 ⟨Nat.le_of_ble_eq_true rfl, Nat.le_of_ble_eq_true rfl⟩) (fun r_46 hw => ?_)
        clear hPc
        (try dsimp only at hw)
        have hw_47 := hw
        clear hw
        refine lv_if_ne (tgt := 94) hx hb dX9_leakOf_74 (by decide) (fun c_48 => ?_) (fun c_48 => ?_)
        · (try simp only [i_lt, i_le, i_eq, T0] at c_48)
          refine lv_iconst (v := 1) hx hb dX9_leakOf_94 (by decide) ?_
          refine lv_iload hx hb dX9_leakOf_95 (lv_at hl 0 rfl) ?_
          refine lv_iconst (v := 2) hx hb dX9_leakOf_97 (by decide) ?_
          refine lv_idiv hx hb dX9_leakOf_98 (by decide) ?_
          refine lv_topi (fun y_49 ey_49 => ?_)
          obtain rfl : y_49 = 15 := ey_49.trans (by decide)
          have hPc := hP.sub (ws' := []) [] rfl
          refine vp_callSi (W.runS (As := [.int 1, .int 15]) (rest := []) ⟨hx, hb, hml, hown, ht⟩ (s_X9_moreOf l dC dI cB cI cJ cZ cL 1 15) (va_cwS 2 ht (gQ w_1573 w_1574 w_114 w_1575) rfl rfl rfl (by decide +kernel) ⟨Nat.le_of_ble_eq_true rfl, Nat.le_of_ble_eq_true rfl⟩) (pSSn hN hK hPc) rfl rfl hl.1 rfl (lv_room (Nat.le_of_ble_eq_true rfl)) dX9_leakOf_99 ⟨Nat.le_of_ble_eq_true rfl, Nat.le_of_ble_eq_true rfl⟩) (fun r_50 hw => ?_)
          clear hPc
          (try dsimp only at hw)
          have hw_51 := hw
          clear hw
          obtain ⟨hw_51_0, hw_51_1, hw_51_2⟩ := hw_51
          (try simp only [T1, T15] at hw_51_0 hw_51_1 hw_51_2)
          refine lv_goto (tgt := 107) hx hb dX9_leakOf_102 (by decide) ?_
          exact W.iret (v := r_50) hx hb hr (fun t ht hW => ⟨r_50, rfl, ⟨(by first | omega | assumption | decide | exact LK_mono (by assumption) (by omega) | exact OM_mono (by assumption) (by omega) | exact CLR_mono (by assumption) (by omega) | (have e0 := T0; have e1 := T1; have e2 := T2; have e3 := T3; have em1 := Tm1; omega) | (dsimp only; done) | (dsimp only; first | omega | assumption | decide | exact LK_mono (by assumption) (by omega) | exact OM_mono (by assumption) (by omega) | exact CLR_mono (by assumption) (by omega) | (have e0 := T0; have e1 := T1; have e2 := T2; have e3 := T3; have em1 := Tm1; omega))), (by first | omega | assumption | decide | exact LK_mono (by assumption) (by omega) | exact OM_mono (by assumption) (by omega) | exact CLR_mono (by assumption) (by omega) | (have e0 := T0; have e1 := T1; have e2 := T2; have e3 := T3; have em1 := Tm1; omega) | (dsimp only; done) | (dsimp only; first | omega | assumption | decide | exact LK_mono (by assumption) (by omega) | exact OM_mono (by assumption) (by omega) | exact CLR_mono (by assumption) (by omega) | (have e0 := T0; have e1 := T1; have e2 := T2; have e3 := T3; have em1 := Tm1; omega)))⟩, ht⟩) (fun q h => absurd h List.not_mem_nil) dX9_leakOf_107
        · (try simp only [i_lt, i_le, i_eq, T0] at c_48)
          refine lv_iload_n hx hb dX9_leakOf_77 rfl (lv_at hl 4 rfl) ?_
          refine lv_if_le (tgt := 105) hx hb dX9_leakOf_78 (by decide) (fun c_52 => ?_) (fun c_52 => ?_)
          · (try simp only [i_lt, i_le, i_eq, T0] at c_52)
            refine lv_iload hx hb dX9_leakOf_105 (lv_at hl 0 rfl) ?_
            exact W.iret (v := 30) hx hb hr (fun t ht hW => ⟨30, rfl, ⟨(by first | omega | assumption | decide | exact LK_mono (by assumption) (by omega) | exact OM_mono (by assumption) (by omega) | exact CLR_mono (by assumption) (by omega) | (have e0 := T0; have e1 := T1; have e2 := T2; have e3 := T3; have em1 := Tm1; omega) | (dsimp only; done) | (dsimp only; first | omega | assumption | decide | exact LK_mono (by assumption) (by omega) | exact OM_mono (by assumption) (by omega) | exact CLR_mono (by assumption) (by omega) | (have e0 := T0; have e1 := T1; have e2 := T2; have e3 := T3; have em1 := Tm1; omega))), (by first | omega | assumption | decide | exact LK_mono (by assumption) (by omega) | exact OM_mono (by assumption) (by omega) | exact CLR_mono (by assumption) (by omega) | (have e0 := T0; have e1 := T1; have e2 := T2; have e3 := T3; have em1 := Tm1; omega) | (dsimp only; done) | (dsimp only; first | omega | assumption | decide | exact LK_mono (by assumption) (by omega) | exact OM_mono (by assumption) (by omega) | exact CLR_mono (by assumption) (by omega) | (have e0 := T0; have e1 := T1; have e2 := T2; have e3 := T3; have em1 := Tm1; omega)))⟩, ht⟩) (fun q h => absurd h List.not_mem_nil) dX9_leakOf_107
          · (try simp only [i_lt, i_le, i_eq, T0] at c_52)
            refine lv_aload_n hx hb dX9_leakOf_81 rfl (lv_at hl 2 rfl) ?_
            refine va_get (D := (dC, dI)) (ci := 9) (v := .int g_we) (C := RX9) (T := TX9) (N := 38) hx hb ht iX9 hown hK hP 0 rfl rfl 23 (by decide) (ht _ w_1285) (fun _ h9 => h9) rfl dX9_leakOf_82 ?_
            refine lv_iload_n hx hb dX9_leakOf_85 rfl (lv_at hl 4 rfl) ?_
            refine lv_iconst (v := 1) hx hb dX9_leakOf_86 (by decide) ?_
            refine lv_isub hx hb dX9_leakOf_87 ?_
            refine lv_topi (fun y_53 ey_53 => ?_)
            have ty_53 := isubF ey_53
            simp only [T1] at ty_53
            clear ey_53
            have hPc := hP.sub (ws' := []) [] rfl
            refine vp_callSi (W.runS (As := [.int g_we, .int y_53]) (rest := []) ⟨hx, hb, hml, hown, ht⟩ (s_X9_isBit l dC dI cB cI cJ cZ cL g_we y_53) (va_cwS 2 ht (gQ w_1570 w_1571 w_114 w_1572) rfl rfl rfl (by decide +kernel) ⟨Nat.le_of_ble_eq_true rfl, Nat.le_of_ble_eq_true rfl⟩) (pSSn hN hK hPc) rfl rfl hl.1 rfl (lv_room (Nat.le_of_ble_eq_true rfl)) dX9_leakOf_88 ⟨Nat.le_of_ble_eq_true rfl, Nat.le_of_ble_eq_true rfl⟩) (fun r_54 hw => ?_)
            clear hPc
            (try dsimp only at hw)
            have hw_55 := hw
            clear hw
            refine lv_if_eq (tgt := 105) hx hb dX9_leakOf_91 (by decide) (fun c_56 => ?_) (fun c_56 => ?_)
            · (try simp only [i_lt, i_le, i_eq, T0] at c_56)
              refine lv_iload hx hb dX9_leakOf_105 (lv_at hl 0 rfl) ?_
              exact W.iret (v := 30) hx hb hr (fun t ht hW => ⟨30, rfl, ⟨(by first | omega | assumption | decide | exact LK_mono (by assumption) (by omega) | exact OM_mono (by assumption) (by omega) | exact CLR_mono (by assumption) (by omega) | (have e0 := T0; have e1 := T1; have e2 := T2; have e3 := T3; have em1 := Tm1; omega) | (dsimp only; done) | (dsimp only; first | omega | assumption | decide | exact LK_mono (by assumption) (by omega) | exact OM_mono (by assumption) (by omega) | exact CLR_mono (by assumption) (by omega) | (have e0 := T0; have e1 := T1; have e2 := T2; have e3 := T3; have em1 := Tm1; omega))), (by first | omega | assumption | decide | exact LK_mono (by assumption) (by omega) | exact OM_mono (by assumption) (by omega) | exact CLR_mono (by assumption) (by omega) | (have e0 := T0; have e1 := T1; have e2 := T2; have e3 := T3; have em1 := Tm1; omega) | (dsimp only; done) | (dsimp only; first | omega | assumption | decide | exact LK_mono (by assumption) (by omega) | exact OM_mono (by assumption) (by omega) | exact CLR_mono (by assumption) (by omega) | (have e0 := T0; have e1 := T1; have e2 := T2; have e3 := T3; have em1 := Tm1; omega)))⟩, ht⟩) (fun q h => absurd h List.not_mem_nil) dX9_leakOf_107
            · (try simp only [i_lt, i_le, i_eq, T0] at c_56)
              refine lv_iconst (v := 1) hx hb dX9_leakOf_94 (by decide) ?_
              refine lv_iload hx hb dX9_leakOf_95 (lv_at hl 0 rfl) ?_
              refine lv_iconst (v := 2) hx hb dX9_leakOf_97 (by decide) ?_
              refine lv_idiv hx hb dX9_leakOf_98 (by decide) ?_
              refine lv_topi (fun y_57 ey_57 => ?_)
              obtain rfl : y_57 = 15 := ey_57.trans (by decide)
              have hPc := hP.sub (ws' := []) [] rfl
              refine vp_callSi (W.runS (As := [.int 1, .int 15]) (rest := []) ⟨hx, hb, hml, hown, ht⟩ (s_X9_moreOf l dC dI cB cI cJ cZ cL 1 15) (va_cwS 2 ht (gQ w_1573 w_1574 w_114 w_1575) rfl rfl rfl (by decide +kernel) ⟨Nat.le_of_ble_eq_true rfl, Nat.le_of_ble_eq_true rfl⟩) (pSSn hN hK hPc) rfl rfl hl.1 rfl (lv_room (Nat.le_of_ble_eq_true rfl)) dX9_leakOf_99 ⟨Nat.le_of_ble_eq_true rfl, Nat.le_of_ble_eq_true rfl⟩) (fun r_58 hw => ?_)
              clear hPc
              (try dsimp only at hw)
              have hw_59 := hw
              clear hw
              obtain ⟨hw_59_0, hw_59_1, hw_59_2⟩ := hw_59
              (try simp only [T1, T15] at hw_59_0 hw_59_1 hw_59_2)
              refine lv_goto (tgt := 107) hx hb dX9_leakOf_102 (by decide) ?_
              exact W.iret (v := r_58) hx hb hr (fun t ht hW => ⟨r_58, rfl, ⟨(by first | omega | assumption | decide | exact LK_mono (by assumption) (by omega) | exact OM_mono (by assumption) (by omega) | exact CLR_mono (by assumption) (by omega) | (have e0 := T0; have e1 := T1; have e2 := T2; have e3 := T3; have em1 := Tm1; omega) | (dsimp only; done) | (dsimp only; first | omega | assumption | decide | exact LK_mono (by assumption) (by omega) | exact OM_mono (by assumption) (by omega) | exact CLR_mono (by assumption) (by omega) | (have e0 := T0; have e1 := T1; have e2 := T2; have e3 := T3; have em1 := Tm1; omega))), (by first | omega | assumption | decide | exact LK_mono (by assumption) (by omega) | exact OM_mono (by assumption) (by omega) | exact CLR_mono (by assumption) (by omega) | (have e0 := T0; have e1 := T1; have e2 := T2; have e3 := T3; have em1 := Tm1; omega) | (dsimp only; done) | (dsimp only; first | omega | assumption | decide | exact LK_mono (by assumption) (by omega) | exact OM_mono (by assumption) (by omega) | exact CLR_mono (by assumption) (by omega) | (have e0 := T0; have e1 := T1; have e2 := T2; have e3 := T3; have em1 := Tm1; omega)))⟩, ht⟩) (fun q h => absurd h List.not_mem_nil) dX9_leakOf_107
    · (try simp only [i_lt, i_le, i_eq, T1] at c_3)
      refine lv_aload_n hx hb dX9_leakOf_33 rfl (lv_at hl 2 rfl) ?_
      refine va_get (D := (dC, dI)) (ci := 9) (v := .int g_we) (C := RX9) (T := TX9) (N := 38) hx hb ht iX9 hown hK hP 0 rfl rfl 23 (by decide) (ht _ w_1285) (fun _ h9 => h9) rfl dX9_leakOf_34 ?_
      refine lv_iload_n hx hb dX9_leakOf_37 rfl (lv_at hl 4 rfl) ?_
      have hPc := hP.sub (ws' := []) [] rfl
      refine vp_callSi (W.runS (As := [.int g_we, .int p1]) (rest := []) ⟨hx, hb, hml, hown, ht⟩ (s_X9_isBit l dC dI cB cI cJ cZ cL g_we p1) (va_cwS 2 ht (gQ w_1570 w_1571 w_114 w_1572) rfl rfl rfl (by decide +kernel) ⟨Nat.le_of_ble_eq_true rfl, Nat.le_of_ble_eq_true rfl⟩) (pSSn hN hK hPc) rfl rfl hl.1 rfl (lv_room (Nat.le_of_ble_eq_true rfl)) dX9_leakOf_38 ⟨Nat.le_of_ble_eq_true rfl, Nat.le_of_ble_eq_true rfl⟩) (fun r_60 hw => ?_)
      clear hPc
      (try dsimp only at hw)
      have hw_61 := hw
      clear hw
      refine lv_if_eq (tgt := 55) hx hb dX9_leakOf_41 (by decide) (fun c_62 => ?_) (fun c_62 => ?_)
      · (try simp only [i_lt, i_le, i_eq, T0] at c_62)
        refine lv_iload hx hb dX9_leakOf_55 (lv_at hl 0 rfl) ?_
        exact W.iret (v := 30) hx hb hr (fun t ht hW => ⟨30, rfl, ⟨(by first | omega | assumption | decide | exact LK_mono (by assumption) (by omega) | exact OM_mono (by assumption) (by omega) | exact CLR_mono (by assumption) (by omega) | (have e0 := T0; have e1 := T1; have e2 := T2; have e3 := T3; have em1 := Tm1; omega) | (dsimp only; done) | (dsimp only; first | omega | assumption | decide | exact LK_mono (by assumption) (by omega) | exact OM_mono (by assumption) (by omega) | exact CLR_mono (by assumption) (by omega) | (have e0 := T0; have e1 := T1; have e2 := T2; have e3 := T3; have em1 := Tm1; omega))), (by first | omega | assumption | decide | exact LK_mono (by assumption) (by omega) | exact OM_mono (by assumption) (by omega) | exact CLR_mono (by assumption) (by omega) | (have e0 := T0; have e1 := T1; have e2 := T2; have e3 := T3; have em1 := Tm1; omega) | (dsimp only; done) | (dsimp only; first | omega | assumption | decide | exact LK_mono (by assumption) (by omega) | exact OM_mono (by assumption) (by omega) | exact CLR_mono (by assumption) (by omega) | (have e0 := T0; have e1 := T1; have e2 := T2; have e3 := T3; have em1 := Tm1; omega)))⟩, ht⟩) (fun q h => absurd h List.not_mem_nil) dX9_leakOf_57
      · (try simp only [i_lt, i_le, i_eq, T0] at c_62)
        refine lv_iconst (v := 1) hx hb dX9_leakOf_44 (by decide) ?_
        refine lv_iload hx hb dX9_leakOf_45 (lv_at hl 0 rfl) ?_
        refine lv_iconst (v := 2) hx hb dX9_leakOf_47 (by decide) ?_
        refine lv_idiv hx hb dX9_leakOf_48 (by decide) ?_
        refine lv_topi (fun y_63 ey_63 => ?_)
        obtain rfl : y_63 = 15 := ey_63.trans (by decide)
        have hPc := hP.sub (ws' := []) [] rfl
        refine vp_callSi (W.runS (As := [.int 1, .int 15]) (rest := []) ⟨hx, hb, hml, hown, ht⟩ (s_X9_moreOf l dC dI cB cI cJ cZ cL 1 15) (va_cwS 2 ht (gQ w_1573 w_1574 w_114 w_1575) rfl rfl rfl (by decide +kernel) ⟨Nat.le_of_ble_eq_true rfl, Nat.le_of_ble_eq_true rfl⟩) (pSSn hN hK hPc) rfl rfl hl.1 rfl (lv_room (Nat.le_of_ble_eq_true rfl)) dX9_leakOf_49 ⟨Nat.le_of_ble_eq_true rfl, Nat.le_of_ble_eq_true rfl⟩) (fun r_64 hw => ?_)
        clear hPc
        (try dsimp only at hw)
        have hw_65 := hw
        clear hw
        obtain ⟨hw_65_0, hw_65_1, hw_65_2⟩ := hw_65
        (try simp only [T1, T15] at hw_65_0 hw_65_1 hw_65_2)
        refine lv_goto (tgt := 57) hx hb dX9_leakOf_52 (by decide) ?_
        exact W.iret (v := r_64) hx hb hr (fun t ht hW => ⟨r_64, rfl, ⟨(by first | omega | assumption | decide | exact LK_mono (by assumption) (by omega) | exact OM_mono (by assumption) (by omega) | exact CLR_mono (by assumption) (by omega) | (have e0 := T0; have e1 := T1; have e2 := T2; have e3 := T3; have em1 := Tm1; omega) | (dsimp only; done) | (dsimp only; first | omega | assumption | decide | exact LK_mono (by assumption) (by omega) | exact OM_mono (by assumption) (by omega) | exact CLR_mono (by assumption) (by omega) | (have e0 := T0; have e1 := T1; have e2 := T2; have e3 := T3; have em1 := Tm1; omega))), (by first | omega | assumption | decide | exact LK_mono (by assumption) (by omega) | exact OM_mono (by assumption) (by omega) | exact CLR_mono (by assumption) (by omega) | (have e0 := T0; have e1 := T1; have e2 := T2; have e3 := T3; have em1 := Tm1; omega) | (dsimp only; done) | (dsimp only; first | omega | assumption | decide | exact LK_mono (by assumption) (by omega) | exact OM_mono (by assumption) (by omega) | exact CLR_mono (by assumption) (by omega) | (have e0 := T0; have e1 := T1; have e2 := T2; have e3 := T3; have em1 := Tm1; omega)))⟩, ht⟩) (fun q h => absurd h List.not_mem_nil) dX9_leakOf_57
  · (try simp only [i_lt, i_le, i_eq, Tm1] at c_2)
    refine lv_aload_n hx hb dX9_leakOf_12 rfl (lv_at hl 1 rfl) ?_
    refine va_get (D := (dC, dI)) (ci := 9) (v := .ref (g 13)) (C := RX9) (T := TX9) (N := 38) hx hb ht iX9 hown hK hP 0 rfl rfl 28 (by decide) (ht _ w_1290) (fun _ h9 => h9) rfl dX9_leakOf_13 ?_
    refine lv_iload_n hx hb dX9_leakOf_16 rfl (lv_at hl 2 rfl) ?_
    refine va_iald hx hb hK hP 3 1 rfl rfl (vp_in_iff.mpr (by omega)) dX9_leakOf_17 ?_
    refine lv_topi (fun y_66 ey_66 => ?_)
    have ry_66 := LK_at hlk (x := p0) (by omega) (by omega)
    rw [← ey_66] at ry_66
    refine lv_goto (tgt := 23) hx hb dX9_leakOf_18 (by decide) ?_
    refine lv_istore (lv' := [(4, .int y_66), (3, .int r_1), (0, .ref (g 0)), (1, .int p0), (2, .int p1)]) hx hb dX9_leakOf_23 hl (by decide) rfl (fun ls hl => ?_)
    refine lv_aload_n hx hb dX9_leakOf_25 rfl (lv_at hl 2 rfl) ?_
    refine va_get (D := (dC, dI)) (ci := 9) (v := .int g_lw) (C := RX9) (T := TX9) (N := 38) hx hb ht iX9 hown hK hP 0 rfl rfl 22 (by decide) (ht _ w_1284) (fun _ h9 => h9) rfl dX9_leakOf_26 ?_
    refine lv_iconst (v := 1) hx hb dX9_leakOf_29 (by decide) ?_
    refine lv_icmp_ne (tgt := 58) hx hb dX9_leakOf_30 (by decide) (fun c_67 => ?_) (fun c_67 => ?_)
    · (try simp only [i_lt, i_le, i_eq, T1] at c_67)
      refine lv_aload_n hx hb dX9_leakOf_58 rfl (lv_at hl 2 rfl) ?_
      refine va_get (D := (dC, dI)) (ci := 9) (v := .int g_lw) (C := RX9) (T := TX9) (N := 38) hx hb ht iX9 hown hK hP 0 rfl rfl 22 (by decide) (ht _ w_1284) (fun _ h9 => h9) rfl dX9_leakOf_59 ?_
      refine lv_iconst (v := 2) hx hb dX9_leakOf_62 (by decide) ?_
      refine lv_icmp_ne (tgt := 108) hx hb dX9_leakOf_63 (by decide) (fun c_68 => ?_) (fun c_68 => ?_)
      · (try simp only [i_lt, i_le, i_eq, T2] at c_68)
        refine lv_aload_n hx hb dX9_leakOf_108 rfl (lv_at hl 2 rfl) ?_
        refine va_get (D := (dC, dI)) (ci := 9) (v := .int g_lw) (C := RX9) (T := TX9) (N := 38) hx hb ht iX9 hown hK hP 0 rfl rfl 22 (by decide) (ht _ w_1284) (fun _ h9 => h9) rfl dX9_leakOf_109 ?_
        refine lv_if_ne (tgt := 118) hx hb dX9_leakOf_112 (by decide) (fun c_69 => ?_) (fun c_69 => ?_)
        · (try simp only [i_lt, i_le, i_eq, T0] at c_69)
          refine lv_iconst (v := 0) hx hb dX9_leakOf_118 (by decide) ?_
          refine lv_istore (lv' := [(5, .int 0), (4, .int y_66), (3, .int r_1), (0, .ref (g 0)), (1, .int p0), (2, .int p1)]) hx hb dX9_leakOf_119 hl (by decide) rfl (fun ls hl => ?_)
          refine lv_iconst (v := 0) hx hb dX9_leakOf_121 (by decide) ?_
          refine lv_iload_n hx hb dX9_leakOf_122 rfl (lv_at hl 2 rfl) ?_
          have hPc := hP.sub (ws' := []) [] rfl
          refine vp_callSi (W.runS (As := [.int 0, .int r_1]) (rest := []) ⟨hx, hb, hml, hown, ht⟩ (s_X9_moreOf l dC dI cB cI cJ cZ cL 0 r_1) (va_cwS 2 ht (gQ w_1573 w_1574 w_114 w_1575) rfl rfl rfl (by decide +kernel) ⟨Nat.le_of_ble_eq_true rfl, Nat.le_of_ble_eq_true rfl⟩) (pSSn hN hK hPc) rfl rfl hl.1 rfl (lv_room (Nat.le_of_ble_eq_true rfl)) dX9_leakOf_123 ⟨Nat.le_of_ble_eq_true rfl, Nat.le_of_ble_eq_true rfl⟩) (fun r_70 hw => ?_)
          clear hPc
          (try dsimp only at hw)
          have hw_71 := hw
          clear hw
          obtain ⟨hw_71_0, hw_71_1, hw_71_2⟩ := hw_71
          (try simp only [T0] at hw_71_0 hw_71_1 hw_71_2)
          refine lv_istore (lv' := [(6, .int r_70), (5, .int 0), (4, .int y_66), (3, .int r_1), (0, .ref (g 0)), (1, .int p0), (2, .int p1)]) hx hb dX9_leakOf_126 hl (by decide) rfl (fun ls hl => ?_)
          have lp_96 : ∀ (d : Nat) (v_83 : Int32) (v_84 : Int32) (ls : Array Slot), ((0 ≤ Int32.toInt v_84 ∧ 0 ≤ Int32.toInt v_83 ∧ Int32.toInt v_83 ≤ Int32.toInt v_84)) → ((2147483647 - Int32.toInt v_84).toNat < d) → lv_has ls 7 [(6, .int v_84), (5, .int v_83), (4, .int y_66), (3, .int r_1), (0, .ref (g 0)), (1, .int p0), (2, .int p1)] → W p l e (headSpec (wy yX9_leakOf cX9_leakOf 7 (some .int)) ({ frames := 2, cells := 0, slots := 0, locals := 80 })).room s m ([.ref (g 0), .int p0, .int p1] : List Value).toArray below meth c s.heap [] 0 0 (MQ below (vp_Si (fun r => (1 ≤ Int32.toInt r) ∧ (Int32.toInt r ≤ 30))) ([.ref (g 0), .int p0, .int p1] : List Value).toArray s 0 0 (fun _ => False)) (F0 m 128 ls []) := by
            intro d
            induction d with
            | zero => intro v_83 v_84  ls hI hM; exfalso; exact absurd hM (Nat.not_lt_zero _)
            | succ d ih_97 =>
              intro v_83 v_84 ls hI hM hl
              have hI_98 := hI
              refine lv_iload hx hb dX9_leakOf_128 (lv_at hl 0 rfl) ?_
              refine lv_iload_n hx hb dX9_leakOf_130 rfl (lv_at hl 6 rfl) ?_
              refine lv_icmp_gt (tgt := 162) hx hb dX9_leakOf_131 (by decide) (fun c_99 => ?_) (fun c_99 => ?_)
              · (try simp only [i_lt, i_le, i_eq] at c_99)
                have rg9 := rgI v_83
                refine lv_iconst (v := 1) hx hb dX9_leakOf_162 (by decide) ?_
                refine lv_iload hx hb dX9_leakOf_163 (lv_at hl 2 rfl) ?_
                refine lv_iload hx hb dX9_leakOf_165 (lv_at hl 1 rfl) ?_
                refine lv_isub hx hb dX9_leakOf_167 ?_
                refine lv_topi (fun y_100 ey_100 => ?_)
                have ty_100 := isubF ey_100
                clear ey_100
                have hPc := hP.sub (ws' := []) [] rfl
                refine vp_callSi (W.runS (As := [.int 1, .int y_100]) (rest := []) ⟨hx, hb, hml, hown, ht⟩ (s_X9_moreOf l dC dI cB cI cJ cZ cL 1 y_100) (va_cwS 2 ht (gQ w_1573 w_1574 w_114 w_1575) rfl rfl rfl (by decide +kernel) ⟨Nat.le_of_ble_eq_true rfl, Nat.le_of_ble_eq_true rfl⟩) (pSSn hN hK hPc) rfl rfl hl.1 rfl (lv_room (Nat.le_of_ble_eq_true rfl)) dX9_leakOf_168 ⟨Nat.le_of_ble_eq_true rfl, Nat.le_of_ble_eq_true rfl⟩) (fun r_101 hw => ?_)
                clear hPc
                (try dsimp only at hw)
                have hw_102 := hw
                clear hw
                obtain ⟨hw_102_0, hw_102_1, hw_102_2⟩ := hw_102
                (try simp only [T1] at hw_102_0 hw_102_1 hw_102_2)
                exact W.iret (v := r_101) hx hb hr (fun t ht hW => ⟨r_101, rfl, ⟨(by first | omega | assumption | decide | exact LK_mono (by assumption) (by omega) | exact OM_mono (by assumption) (by omega) | exact CLR_mono (by assumption) (by omega) | (have e0 := T0; have e1 := T1; have e2 := T2; have e3 := T3; have em1 := Tm1; omega) | (dsimp only; done) | (dsimp only; first | omega | assumption | decide | exact LK_mono (by assumption) (by omega) | exact OM_mono (by assumption) (by omega) | exact CLR_mono (by assumption) (by omega) | (have e0 := T0; have e1 := T1; have e2 := T2; have e3 := T3; have em1 := Tm1; omega))), (by first | omega | assumption | decide | exact LK_mono (by assumption) (by omega) | exact OM_mono (by assumption) (by omega) | exact CLR_mono (by assumption) (by omega) | (have e0 := T0; have e1 := T1; have e2 := T2; have e3 := T3; have em1 := Tm1; omega) | (dsimp only; done) | (dsimp only; first | omega | assumption | decide | exact LK_mono (by assumption) (by omega) | exact OM_mono (by assumption) (by omega) | exact CLR_mono (by assumption) (by omega) | (have e0 := T0; have e1 := T1; have e2 := T2; have e3 := T3; have em1 := Tm1; omega)))⟩, ht⟩) (fun q h => absurd h List.not_mem_nil) dX9_leakOf_171
              · (try simp only [i_lt, i_le, i_eq] at c_99)
                refine lv_iload hx hb dX9_leakOf_134 (lv_at hl 1 rfl) ?_
                refine lv_aload_n hx hb dX9_leakOf_136 rfl (lv_at hl 4 rfl) ?_
                refine va_get (D := (dC, dI)) (ci := 9) (v := .int g_we) (C := RX9) (T := TX9) (N := 38) hx hb ht iX9 hown hK hP 0 rfl rfl 23 (by decide) (ht _ w_1285) (fun _ h9 => h9) rfl dX9_leakOf_137 ?_
                refine lv_iload hx hb dX9_leakOf_140 (lv_at hl 0 rfl) ?_
                have hPc := hP.sub (ws' := []) [] rfl
                refine vp_callSi (W.runS (As := [.int g_we, .int v_84]) (rest := [.int v_83]) ⟨hx, hb, hml, hown, ht⟩ (s_X9_isBit l dC dI cB cI cJ cZ cL g_we v_84) (va_cwS 2 ht (gQ w_1570 w_1571 w_114 w_1572) rfl rfl rfl (by decide +kernel) ⟨Nat.le_of_ble_eq_true rfl, Nat.le_of_ble_eq_true rfl⟩) (pSSn hN hK hPc) rfl rfl hl.1 rfl (lv_room (Nat.le_of_ble_eq_true rfl)) dX9_leakOf_142 ⟨Nat.le_of_ble_eq_true rfl, Nat.le_of_ble_eq_true rfl⟩) (fun r_103 hw => ?_)
                clear hPc
                (try dsimp only at hw)
                have hw_104 := hw
                clear hw
                refine lv_if_eq (tgt := 152) hx hb dX9_leakOf_145 (by decide) (fun c_105 => ?_) (fun c_105 => ?_)
                · (try simp only [i_lt, i_le, i_eq, T0] at c_105)
                  refine lv_iconst (v := 0) hx hb dX9_leakOf_152 (by decide) ?_
                  refine lv_iadd hx hb dX9_leakOf_153 ?_
                  refine lv_topi (fun y_106 ey_106 => ?_)
                  have ty_106 := iaddF ey_106
                  simp only [T0] at ty_106
                  clear ey_106
                  refine lv_istore (lv' := [(5, .int y_106), (6, .int v_84), (4, .int y_66), (3, .int r_1), (0, .ref (g 0)), (1, .int p0), (2, .int p1)]) hx hb dX9_leakOf_154 hl (by decide) rfl (fun ls hl => ?_)
                  obtain ⟨y_107, ey_107⟩ : ∃ z : Int32, z = v_84 + 1 := ⟨_, rfl⟩
                  have ty_107 := iaddF ey_107
                  simp only [T1] at ty_107
                  refine lv_iinc (v := y_107) (lv' := [(6, .int y_107), (5, .int y_106), (4, .int y_66), (3, .int r_1), (0, .ref (g 0)), (1, .int p0), (2, .int p1)]) hx hb dX9_leakOf_156 hl (k := 1) rfl (by rw [ey_107]; rfl) (by decide) rfl (fun ls hl => ?_)
                  clear ey_107
                  refine lv_goto (tgt := 128) hx hb dX9_leakOf_159 (by decide) ?_
                  exact ih_97 y_106 y_107 _ (by first | omega | assumption | decide | exact LK_0 | exact OM_0 | exact CE_0 | exact SZI_0 | exact CLR_0 | exact CP_0 | exact PV_0 | exact BV_0 (by assumption) (by omega) (by omega) | exact LK_mono (by assumption) (by omega) | exact OM_mono (by assumption) (by omega) | exact CE_mono (by assumption) (by omega) | exact CLR_mono (by assumption) (by omega) | exact CP_mono (by assumption) (by omega) | (have e0 := T0; have e1 := T1; have e2 := T2; have em1 := Tm1; omega)) (by omega) (lv_sub hl [0, 1, 2, 3, 4, 5, 6] rfl)
                · (try simp only [i_lt, i_le, i_eq, T0] at c_105)
                  refine lv_iconst (v := 1) hx hb dX9_leakOf_148 (by decide) ?_
                  refine lv_goto (tgt := 153) hx hb dX9_leakOf_149 (by decide) ?_
                  refine lv_iadd hx hb dX9_leakOf_153 ?_
                  refine lv_topi (fun y_108 ey_108 => ?_)
                  have ty_108 := iaddF ey_108
                  simp only [T1] at ty_108
                  clear ey_108
                  refine lv_istore (lv' := [(5, .int y_108), (6, .int v_84), (4, .int y_66), (3, .int r_1), (0, .ref (g 0)), (1, .int p0), (2, .int p1)]) hx hb dX9_leakOf_154 hl (by decide) rfl (fun ls hl => ?_)
                  obtain ⟨y_109, ey_109⟩ : ∃ z : Int32, z = v_84 + 1 := ⟨_, rfl⟩
                  have ty_109 := iaddF ey_109
                  simp only [T1] at ty_109
                  refine lv_iinc (v := y_109) (lv' := [(6, .int y_109), (5, .int y_108), (4, .int y_66), (3, .int r_1), (0, .ref (g 0)), (1, .int p0), (2, .int p1)]) hx hb dX9_leakOf_156 hl (k := 1) rfl (by rw [ey_109]; rfl) (by decide) rfl (fun ls hl => ?_)
                  clear ey_109
                  refine lv_goto (tgt := 128) hx hb dX9_leakOf_159 (by decide) ?_
                  exact ih_97 y_108 y_109 _ (by first | omega | assumption | decide | exact LK_0 | exact OM_0 | exact CE_0 | exact SZI_0 | exact CLR_0 | exact CP_0 | exact PV_0 | exact BV_0 (by assumption) (by omega) (by omega) | exact LK_mono (by assumption) (by omega) | exact OM_mono (by assumption) (by omega) | exact CE_mono (by assumption) (by omega) | exact CLR_mono (by assumption) (by omega) | exact CP_mono (by assumption) (by omega) | (have e0 := T0; have e1 := T1; have e2 := T2; have em1 := Tm1; omega)) (by omega) (lv_sub hl [0, 1, 2, 3, 4, 5, 6] rfl)
          exact lp_96 _ 0 r_70 _ (by first | omega | assumption | decide | exact LK_0 | exact OM_0 | exact CE_0 | exact SZI_0 | exact CLR_0 | exact CP_0 | exact PV_0 | exact BV_0 (by assumption) (by omega) (by omega) | exact LK_mono (by assumption) (by omega) | exact OM_mono (by assumption) (by omega) | exact CE_mono (by assumption) (by omega) | exact CLR_mono (by assumption) (by omega) | exact CP_mono (by assumption) (by omega) | (have e0 := T0; have e1 := T1; have e2 := T2; have em1 := Tm1; omega)) (Nat.lt_succ_self _) (lv_sub hl [0, 1, 2, 3, 4, 5, 6] rfl)
        · (try simp only [i_lt, i_le, i_eq, T0] at c_69)
          refine lv_iload hx hb dX9_leakOf_115 (lv_at hl 0 rfl) ?_
          exact W.iret (v := y_66) hx hb hr (fun t ht hW => ⟨y_66, rfl, ⟨(by first | omega | assumption | decide | exact LK_mono (by assumption) (by omega) | exact OM_mono (by assumption) (by omega) | exact CLR_mono (by assumption) (by omega) | (have e0 := T0; have e1 := T1; have e2 := T2; have e3 := T3; have em1 := Tm1; omega) | (dsimp only; done) | (dsimp only; first | omega | assumption | decide | exact LK_mono (by assumption) (by omega) | exact OM_mono (by assumption) (by omega) | exact CLR_mono (by assumption) (by omega) | (have e0 := T0; have e1 := T1; have e2 := T2; have e3 := T3; have em1 := Tm1; omega))), (by first | omega | assumption | decide | exact LK_mono (by assumption) (by omega) | exact OM_mono (by assumption) (by omega) | exact CLR_mono (by assumption) (by omega) | (have e0 := T0; have e1 := T1; have e2 := T2; have e3 := T3; have em1 := Tm1; omega) | (dsimp only; done) | (dsimp only; first | omega | assumption | decide | exact LK_mono (by assumption) (by omega) | exact OM_mono (by assumption) (by omega) | exact CLR_mono (by assumption) (by omega) | (have e0 := T0; have e1 := T1; have e2 := T2; have e3 := T3; have em1 := Tm1; omega)))⟩, ht⟩) (fun q h => absurd h List.not_mem_nil) dX9_leakOf_117
      · (try simp only [i_lt, i_le, i_eq, T2] at c_68)
        refine lv_aload_n hx hb dX9_leakOf_66 rfl (lv_at hl 2 rfl) ?_
        refine va_get (D := (dC, dI)) (ci := 9) (v := .int g_we) (C := RX9) (T := TX9) (N := 38) hx hb ht iX9 hown hK hP 0 rfl rfl 23 (by decide) (ht _ w_1285) (fun _ h9 => h9) rfl dX9_leakOf_67 ?_
        refine lv_iload_n hx hb dX9_leakOf_70 rfl (lv_at hl 4 rfl) ?_
        have hPc := hP.sub (ws' := []) [] rfl
        refine vp_callSi (W.runS (As := [.int g_we, .int p1]) (rest := []) ⟨hx, hb, hml, hown, ht⟩ (s_X9_isBit l dC dI cB cI cJ cZ cL g_we p1) (va_cwS 2 ht (gQ w_1570 w_1571 w_114 w_1572) rfl rfl rfl (by decide +kernel) ⟨Nat.le_of_ble_eq_true rfl, Nat.le_of_ble_eq_true rfl⟩) (pSSn hN hK hPc) rfl rfl hl.1 rfl (lv_room (Nat.le_of_ble_eq_true rfl)) dX9_leakOf_71 ⟨Nat.le_of_ble_eq_true rfl, Nat.le_of_ble_eq_true rfl⟩) (fun r_110 hw => ?_)
        clear hPc
        (try dsimp only at hw)
        have hw_111 := hw
        clear hw
        refine lv_if_ne (tgt := 94) hx hb dX9_leakOf_74 (by decide) (fun c_112 => ?_) (fun c_112 => ?_)
        · (try simp only [i_lt, i_le, i_eq, T0] at c_112)
          refine lv_iconst (v := 1) hx hb dX9_leakOf_94 (by decide) ?_
          refine lv_iload hx hb dX9_leakOf_95 (lv_at hl 0 rfl) ?_
          refine lv_iconst (v := 2) hx hb dX9_leakOf_97 (by decide) ?_
          refine lv_idiv hx hb dX9_leakOf_98 (by decide) ?_
          refine lv_topi (fun y_113 ey_113 => ?_)
          have ty_113 := idiv2F ey_113
          clear ey_113
          have hPc := hP.sub (ws' := []) [] rfl
          refine vp_callSi (W.runS (As := [.int 1, .int y_113]) (rest := []) ⟨hx, hb, hml, hown, ht⟩ (s_X9_moreOf l dC dI cB cI cJ cZ cL 1 y_113) (va_cwS 2 ht (gQ w_1573 w_1574 w_114 w_1575) rfl rfl rfl (by decide +kernel) ⟨Nat.le_of_ble_eq_true rfl, Nat.le_of_ble_eq_true rfl⟩) (pSSn hN hK hPc) rfl rfl hl.1 rfl (lv_room (Nat.le_of_ble_eq_true rfl)) dX9_leakOf_99 ⟨Nat.le_of_ble_eq_true rfl, Nat.le_of_ble_eq_true rfl⟩) (fun r_114 hw => ?_)
          clear hPc
          (try dsimp only at hw)
          have hw_115 := hw
          clear hw
          obtain ⟨hw_115_0, hw_115_1, hw_115_2⟩ := hw_115
          (try simp only [T1] at hw_115_0 hw_115_1 hw_115_2)
          refine lv_goto (tgt := 107) hx hb dX9_leakOf_102 (by decide) ?_
          exact W.iret (v := r_114) hx hb hr (fun t ht hW => ⟨r_114, rfl, ⟨(by first | omega | assumption | decide | exact LK_mono (by assumption) (by omega) | exact OM_mono (by assumption) (by omega) | exact CLR_mono (by assumption) (by omega) | (have e0 := T0; have e1 := T1; have e2 := T2; have e3 := T3; have em1 := Tm1; omega) | (dsimp only; done) | (dsimp only; first | omega | assumption | decide | exact LK_mono (by assumption) (by omega) | exact OM_mono (by assumption) (by omega) | exact CLR_mono (by assumption) (by omega) | (have e0 := T0; have e1 := T1; have e2 := T2; have e3 := T3; have em1 := Tm1; omega))), (by first | omega | assumption | decide | exact LK_mono (by assumption) (by omega) | exact OM_mono (by assumption) (by omega) | exact CLR_mono (by assumption) (by omega) | (have e0 := T0; have e1 := T1; have e2 := T2; have e3 := T3; have em1 := Tm1; omega) | (dsimp only; done) | (dsimp only; first | omega | assumption | decide | exact LK_mono (by assumption) (by omega) | exact OM_mono (by assumption) (by omega) | exact CLR_mono (by assumption) (by omega) | (have e0 := T0; have e1 := T1; have e2 := T2; have e3 := T3; have em1 := Tm1; omega)))⟩, ht⟩) (fun q h => absurd h List.not_mem_nil) dX9_leakOf_107
        · (try simp only [i_lt, i_le, i_eq, T0] at c_112)
          refine lv_iload_n hx hb dX9_leakOf_77 rfl (lv_at hl 4 rfl) ?_
          refine lv_if_le (tgt := 105) hx hb dX9_leakOf_78 (by decide) (fun c_116 => ?_) (fun c_116 => ?_)
          · (try simp only [i_lt, i_le, i_eq, T0] at c_116)
            refine lv_iload hx hb dX9_leakOf_105 (lv_at hl 0 rfl) ?_
            exact W.iret (v := y_66) hx hb hr (fun t ht hW => ⟨y_66, rfl, ⟨(by first | omega | assumption | decide | exact LK_mono (by assumption) (by omega) | exact OM_mono (by assumption) (by omega) | exact CLR_mono (by assumption) (by omega) | (have e0 := T0; have e1 := T1; have e2 := T2; have e3 := T3; have em1 := Tm1; omega) | (dsimp only; done) | (dsimp only; first | omega | assumption | decide | exact LK_mono (by assumption) (by omega) | exact OM_mono (by assumption) (by omega) | exact CLR_mono (by assumption) (by omega) | (have e0 := T0; have e1 := T1; have e2 := T2; have e3 := T3; have em1 := Tm1; omega))), (by first | omega | assumption | decide | exact LK_mono (by assumption) (by omega) | exact OM_mono (by assumption) (by omega) | exact CLR_mono (by assumption) (by omega) | (have e0 := T0; have e1 := T1; have e2 := T2; have e3 := T3; have em1 := Tm1; omega) | (dsimp only; done) | (dsimp only; first | omega | assumption | decide | exact LK_mono (by assumption) (by omega) | exact OM_mono (by assumption) (by omega) | exact CLR_mono (by assumption) (by omega) | (have e0 := T0; have e1 := T1; have e2 := T2; have e3 := T3; have em1 := Tm1; omega)))⟩, ht⟩) (fun q h => absurd h List.not_mem_nil) dX9_leakOf_107
          · (try simp only [i_lt, i_le, i_eq, T0] at c_116)
            refine lv_aload_n hx hb dX9_leakOf_81 rfl (lv_at hl 2 rfl) ?_
            refine va_get (D := (dC, dI)) (ci := 9) (v := .int g_we) (C := RX9) (T := TX9) (N := 38) hx hb ht iX9 hown hK hP 0 rfl rfl 23 (by decide) (ht _ w_1285) (fun _ h9 => h9) rfl dX9_leakOf_82 ?_
            refine lv_iload_n hx hb dX9_leakOf_85 rfl (lv_at hl 4 rfl) ?_
            refine lv_iconst (v := 1) hx hb dX9_leakOf_86 (by decide) ?_
            refine lv_isub hx hb dX9_leakOf_87 ?_
            refine lv_topi (fun y_117 ey_117 => ?_)
            have ty_117 := isubF ey_117
            simp only [T1] at ty_117
            clear ey_117
            have hPc := hP.sub (ws' := []) [] rfl
            refine vp_callSi (W.runS (As := [.int g_we, .int y_117]) (rest := []) ⟨hx, hb, hml, hown, ht⟩ (s_X9_isBit l dC dI cB cI cJ cZ cL g_we y_117) (va_cwS 2 ht (gQ w_1570 w_1571 w_114 w_1572) rfl rfl rfl (by decide +kernel) ⟨Nat.le_of_ble_eq_true rfl, Nat.le_of_ble_eq_true rfl⟩) (pSSn hN hK hPc) rfl rfl hl.1 rfl (lv_room (Nat.le_of_ble_eq_true rfl)) dX9_leakOf_88 ⟨Nat.le_of_ble_eq_true rfl, Nat.le_of_ble_eq_true rfl⟩) (fun r_118 hw => ?_)
            clear hPc
            (try dsimp only at hw)
            have hw_119 := hw
            clear hw
            refine lv_if_eq (tgt := 105) hx hb dX9_leakOf_91 (by decide) (fun c_120 => ?_) (fun c_120 => ?_)
            · (try simp only [i_lt, i_le, i_eq, T0] at c_120)
              refine lv_iload hx hb dX9_leakOf_105 (lv_at hl 0 rfl) ?_
              exact W.iret (v := y_66) hx hb hr (fun t ht hW => ⟨y_66, rfl, ⟨(by first | omega | assumption | decide | exact LK_mono (by assumption) (by omega) | exact OM_mono (by assumption) (by omega) | exact CLR_mono (by assumption) (by omega) | (have e0 := T0; have e1 := T1; have e2 := T2; have e3 := T3; have em1 := Tm1; omega) | (dsimp only; done) | (dsimp only; first | omega | assumption | decide | exact LK_mono (by assumption) (by omega) | exact OM_mono (by assumption) (by omega) | exact CLR_mono (by assumption) (by omega) | (have e0 := T0; have e1 := T1; have e2 := T2; have e3 := T3; have em1 := Tm1; omega))), (by first | omega | assumption | decide | exact LK_mono (by assumption) (by omega) | exact OM_mono (by assumption) (by omega) | exact CLR_mono (by assumption) (by omega) | (have e0 := T0; have e1 := T1; have e2 := T2; have e3 := T3; have em1 := Tm1; omega) | (dsimp only; done) | (dsimp only; first | omega | assumption | decide | exact LK_mono (by assumption) (by omega) | exact OM_mono (by assumption) (by omega) | exact CLR_mono (by assumption) (by omega) | (have e0 := T0; have e1 := T1; have e2 := T2; have e3 := T3; have em1 := Tm1; omega)))⟩, ht⟩) (fun q h => absurd h List.not_mem_nil) dX9_leakOf_107
            · (try simp only [i_lt, i_le, i_eq, T0] at c_120)
              refine lv_iconst (v := 1) hx hb dX9_leakOf_94 (by decide) ?_
              refine lv_iload hx hb dX9_leakOf_95 (lv_at hl 0 rfl) ?_
              refine lv_iconst (v := 2) hx hb dX9_leakOf_97 (by decide) ?_
              refine lv_idiv hx hb dX9_leakOf_98 (by decide) ?_
              refine lv_topi (fun y_121 ey_121 => ?_)
              have ty_121 := idiv2F ey_121
              clear ey_121
              have hPc := hP.sub (ws' := []) [] rfl
              refine vp_callSi (W.runS (As := [.int 1, .int y_121]) (rest := []) ⟨hx, hb, hml, hown, ht⟩ (s_X9_moreOf l dC dI cB cI cJ cZ cL 1 y_121) (va_cwS 2 ht (gQ w_1573 w_1574 w_114 w_1575) rfl rfl rfl (by decide +kernel) ⟨Nat.le_of_ble_eq_true rfl, Nat.le_of_ble_eq_true rfl⟩) (pSSn hN hK hPc) rfl rfl hl.1 rfl (lv_room (Nat.le_of_ble_eq_true rfl)) dX9_leakOf_99 ⟨Nat.le_of_ble_eq_true rfl, Nat.le_of_ble_eq_true rfl⟩) (fun r_122 hw => ?_)
              clear hPc
              (try dsimp only at hw)
              have hw_123 := hw
              clear hw
              obtain ⟨hw_123_0, hw_123_1, hw_123_2⟩ := hw_123
              (try simp only [T1] at hw_123_0 hw_123_1 hw_123_2)
              refine lv_goto (tgt := 107) hx hb dX9_leakOf_102 (by decide) ?_
              exact W.iret (v := r_122) hx hb hr (fun t ht hW => ⟨r_122, rfl, ⟨(by first | omega | assumption | decide | exact LK_mono (by assumption) (by omega) | exact OM_mono (by assumption) (by omega) | exact CLR_mono (by assumption) (by omega) | (have e0 := T0; have e1 := T1; have e2 := T2; have e3 := T3; have em1 := Tm1; omega) | (dsimp only; done) | (dsimp only; first | omega | assumption | decide | exact LK_mono (by assumption) (by omega) | exact OM_mono (by assumption) (by omega) | exact CLR_mono (by assumption) (by omega) | (have e0 := T0; have e1 := T1; have e2 := T2; have e3 := T3; have em1 := Tm1; omega))), (by first | omega | assumption | decide | exact LK_mono (by assumption) (by omega) | exact OM_mono (by assumption) (by omega) | exact CLR_mono (by assumption) (by omega) | (have e0 := T0; have e1 := T1; have e2 := T2; have e3 := T3; have em1 := Tm1; omega) | (dsimp only; done) | (dsimp only; first | omega | assumption | decide | exact LK_mono (by assumption) (by omega) | exact OM_mono (by assumption) (by omega) | exact CLR_mono (by assumption) (by omega) | (have e0 := T0; have e1 := T1; have e2 := T2; have e3 := T3; have em1 := Tm1; omega)))⟩, ht⟩) (fun q h => absurd h List.not_mem_nil) dX9_leakOf_107
    · (try simp only [i_lt, i_le, i_eq, T1] at c_67)
      refine lv_aload_n hx hb dX9_leakOf_33 rfl (lv_at hl 2 rfl) ?_
      refine va_get (D := (dC, dI)) (ci := 9) (v := .int g_we) (C := RX9) (T := TX9) (N := 38) hx hb ht iX9 hown hK hP 0 rfl rfl 23 (by decide) (ht _ w_1285) (fun _ h9 => h9) rfl dX9_leakOf_34 ?_
      refine lv_iload_n hx hb dX9_leakOf_37 rfl (lv_at hl 4 rfl) ?_
      have hPc := hP.sub (ws' := []) [] rfl
      refine vp_callSi (W.runS (As := [.int g_we, .int p1]) (rest := []) ⟨hx, hb, hml, hown, ht⟩ (s_X9_isBit l dC dI cB cI cJ cZ cL g_we p1) (va_cwS 2 ht (gQ w_1570 w_1571 w_114 w_1572) rfl rfl rfl (by decide +kernel) ⟨Nat.le_of_ble_eq_true rfl, Nat.le_of_ble_eq_true rfl⟩) (pSSn hN hK hPc) rfl rfl hl.1 rfl (lv_room (Nat.le_of_ble_eq_true rfl)) dX9_leakOf_38 ⟨Nat.le_of_ble_eq_true rfl, Nat.le_of_ble_eq_true rfl⟩) (fun r_124 hw => ?_)
      clear hPc
      (try dsimp only at hw)
      have hw_125 := hw
      clear hw
      refine lv_if_eq (tgt := 55) hx hb dX9_leakOf_41 (by decide) (fun c_126 => ?_) (fun c_126 => ?_)
      · (try simp only [i_lt, i_le, i_eq, T0] at c_126)
        refine lv_iload hx hb dX9_leakOf_55 (lv_at hl 0 rfl) ?_
        exact W.iret (v := y_66) hx hb hr (fun t ht hW => ⟨y_66, rfl, ⟨(by first | omega | assumption | decide | exact LK_mono (by assumption) (by omega) | exact OM_mono (by assumption) (by omega) | exact CLR_mono (by assumption) (by omega) | (have e0 := T0; have e1 := T1; have e2 := T2; have e3 := T3; have em1 := Tm1; omega) | (dsimp only; done) | (dsimp only; first | omega | assumption | decide | exact LK_mono (by assumption) (by omega) | exact OM_mono (by assumption) (by omega) | exact CLR_mono (by assumption) (by omega) | (have e0 := T0; have e1 := T1; have e2 := T2; have e3 := T3; have em1 := Tm1; omega))), (by first | omega | assumption | decide | exact LK_mono (by assumption) (by omega) | exact OM_mono (by assumption) (by omega) | exact CLR_mono (by assumption) (by omega) | (have e0 := T0; have e1 := T1; have e2 := T2; have e3 := T3; have em1 := Tm1; omega) | (dsimp only; done) | (dsimp only; first | omega | assumption | decide | exact LK_mono (by assumption) (by omega) | exact OM_mono (by assumption) (by omega) | exact CLR_mono (by assumption) (by omega) | (have e0 := T0; have e1 := T1; have e2 := T2; have e3 := T3; have em1 := Tm1; omega)))⟩, ht⟩) (fun q h => absurd h List.not_mem_nil) dX9_leakOf_57
      · (try simp only [i_lt, i_le, i_eq, T0] at c_126)
        refine lv_iconst (v := 1) hx hb dX9_leakOf_44 (by decide) ?_
        refine lv_iload hx hb dX9_leakOf_45 (lv_at hl 0 rfl) ?_
        refine lv_iconst (v := 2) hx hb dX9_leakOf_47 (by decide) ?_
        refine lv_idiv hx hb dX9_leakOf_48 (by decide) ?_
        refine lv_topi (fun y_127 ey_127 => ?_)
        have ty_127 := idiv2F ey_127
        clear ey_127
        have hPc := hP.sub (ws' := []) [] rfl
        refine vp_callSi (W.runS (As := [.int 1, .int y_127]) (rest := []) ⟨hx, hb, hml, hown, ht⟩ (s_X9_moreOf l dC dI cB cI cJ cZ cL 1 y_127) (va_cwS 2 ht (gQ w_1573 w_1574 w_114 w_1575) rfl rfl rfl (by decide +kernel) ⟨Nat.le_of_ble_eq_true rfl, Nat.le_of_ble_eq_true rfl⟩) (pSSn hN hK hPc) rfl rfl hl.1 rfl (lv_room (Nat.le_of_ble_eq_true rfl)) dX9_leakOf_49 ⟨Nat.le_of_ble_eq_true rfl, Nat.le_of_ble_eq_true rfl⟩) (fun r_128 hw => ?_)
        clear hPc
        (try dsimp only at hw)
        have hw_129 := hw
        clear hw
        obtain ⟨hw_129_0, hw_129_1, hw_129_2⟩ := hw_129
        (try simp only [T1] at hw_129_0 hw_129_1 hw_129_2)
        refine lv_goto (tgt := 57) hx hb dX9_leakOf_52 (by decide) ?_
        exact W.iret (v := r_128) hx hb hr (fun t ht hW => ⟨r_128, rfl, ⟨(by first | omega | assumption | decide | exact LK_mono (by assumption) (by omega) | exact OM_mono (by assumption) (by omega) | exact CLR_mono (by assumption) (by omega) | (have e0 := T0; have e1 := T1; have e2 := T2; have e3 := T3; have em1 := Tm1; omega) | (dsimp only; done) | (dsimp only; first | omega | assumption | decide | exact LK_mono (by assumption) (by omega) | exact OM_mono (by assumption) (by omega) | exact CLR_mono (by assumption) (by omega) | (have e0 := T0; have e1 := T1; have e2 := T2; have e3 := T3; have em1 := Tm1; omega))), (by first | omega | assumption | decide | exact LK_mono (by assumption) (by omega) | exact OM_mono (by assumption) (by omega) | exact CLR_mono (by assumption) (by omega) | (have e0 := T0; have e1 := T1; have e2 := T2; have e3 := T3; have em1 := Tm1; omega) | (dsimp only; done) | (dsimp only; first | omega | assumption | decide | exact LK_mono (by assumption) (by omega) | exact OM_mono (by assumption) (by omega) | exact CLR_mono (by assumption) (by omega) | (have e0 := T0; have e1 := T1; have e2 := T2; have e3 := T3; have em1 := Tm1; omega)))⟩, ht⟩) (fun q h => absurd h List.not_mem_nil) dX9_leakOf_57
set_option maxHeartbeats 8000000 in
set_option maxRecDepth 100000 in
theorem s_X9_isBroken (l : Launch) (dC : Nat → ClassId) (dI : Nat → Nat → Nat) (cB cI cJ cZ cL : ClassId) (g : Nat → Nat) (g_th : Int32) (g_tp : Int32) (g_so : Int32) (g_tk : Int32) (g_pl : Int32) (g_va : Int32) (g_wo : Int64) (g_bd : Int32) (g_bp : Int32) (g_fa : Int32) (g_fp : Int32) (g_lw : Int32) (g_we : Int32) (g_cu : Int32) (g_go : Int32) (g_ba : Int32) (g_jo : Int32) (g_bt : Int64) (g_sb : Int32) (g_ab : Int32) (g_al : Int32) (hs : Nat → Int32) (ac : Nat → Int32) (p0 : Int32) (p1 : Int32) (h6 : 0 ≤ Int32.toInt (hs 6) ∧ Int32.toInt (hs 6) ≤ 30) : Met l yX9_isBroken (wy yX9_isBroken cX9_isBroken 4 (some .boolean)) ({ frames := 1, cells := 0, slots := 0, locals := 40 }) (va_Pc [.ref (g 0), .int p0, .int p1] (fun U => va_P (dC, dI) vwCl [((g 0), .inr (9, [.int g_th, .ref (g 1), .ref (g 2), .ref (g 3), .ref (g 4), .ref (g 5), .int g_tp, .int g_so, .int g_tk, .int g_pl, .int g_va, .long g_wo, .int g_bd, .int g_bp, .int g_fa, .int g_fp, .ref (g 6), .ref (g 7), .ref (g 8), .ref (g 9), .ref (g 10), .ref (g 11), .int g_lw, .int g_we, .int g_cu, .int g_go, .int g_ba, .ref (g 12), .ref (g 13), .int g_jo, .ref (g 14), .ref (g 15), .long g_bt, .int g_sb, .int g_ab, .int g_al, .ref (g 16), .ref (g 17)])), ((g 7), .inl (cI, 35, .inl hs)), ((g 10), .inl (cI, 450, .inl ac))] U.heap ∧ va_K (dC, dI) vwCl (tyL cB cI cJ cZ cL) U ∧ NW U)) (vp_Si (fun r => True)) 0 0 (fun _ => False) := by
  refine Met.ofW (cc := cX9_isBroken) (maxL := 4) (ret := (some .boolean)) (by decide) rfl ?_
  intro p e s m args below meth c s₁ B hml hv
  obtain ⟨rfl, hP, hK, hN⟩ := hv
  have hx := B.exec
  have hb := B.bytes
  have hr := B.returns
  have ht : ∀ w ∈ lw_ok, w.before _ s = true := fun w h => atoms_spec (ws := wy yX9_isBroken cX9_isBroken 4 (some .boolean)) B.pre w (List.mem_cons_of_mem _ h)
  have hown : s.vm.findClass RX9 = some m.cls := findClass_of_methodNamed B.named
  have hlocks := B.notSynchronized
  have hl := lv_entry ([.ref (g 0), .int p0, .int p1]) (n := 4) (Nat.le_of_ble_eq_true rfl)
  rw [lg_entry_eq]
  generalize (lg_sl ([.ref (g 0), .int p0, .int p1]) ++ List.replicate (4 - (lg_sl ([.ref (g 0), .int p0, .int p1])).length) Slot.unset).toArray = ls at hl ⊢
  have hl : lv_has ls 4 [(0, .ref (g 0)), (1, .int p0), (2, .int p1)] := hl
  have hP : va_P (dC, dI) vwCl [((g 0), .inr (9, [.int g_th, .ref (g 1), .ref (g 2), .ref (g 3), .ref (g 4), .ref (g 5), .int g_tp, .int g_so, .int g_tk, .int g_pl, .int g_va, .long g_wo, .int g_bd, .int g_bp, .int g_fa, .int g_fp, .ref (g 6), .ref (g 7), .ref (g 8), .ref (g 9), .ref (g 10), .ref (g 11), .int g_lw, .int g_we, .int g_cu, .int g_go, .int g_ba, .ref (g 12), .ref (g 13), .int g_jo, .ref (g 14), .ref (g 15), .long g_bt, .int g_sb, .int g_ab, .int g_al, .ref (g 16), .ref (g 17)])), ((g 7), .inl (cI, 35, .inl hs)), ((g 10), .inl (cI, 450, .inl ac))] s.heap := hP
  have rg_p0 := rgI p0
  have rg_p1 := rgI p1
  refine lv_aload_n hx hb dX9_isBroken_0 rfl (lv_at hl 0 rfl) ?_
  refine va_get (D := (dC, dI)) (ci := 9) (v := .int g_go) (C := RX9) (T := TX9) (N := 38) hx hb ht iX9 hown hK hP 0 rfl rfl 25 (by decide) (ht _ w_1287) (fun _ h9 => h9) rfl dX9_isBroken_1 ?_
  refine lv_iload_n hx hb dX9_isBroken_4 rfl (lv_at hl 1 rfl) ?_
  have hPc := hP.sub (ws' := []) [] rfl
  refine vp_callSi (W.runS (As := [.int g_go, .int p0]) (rest := []) ⟨hx, hb, hml, hown, ht⟩ (s_X9_isBit l dC dI cB cI cJ cZ cL g_go p0) (va_cwS 2 ht (gQ w_1570 w_1571 w_114 w_1572) rfl rfl rfl (by decide +kernel) ⟨Nat.le_of_ble_eq_true rfl, Nat.le_of_ble_eq_true rfl⟩) (pSSn hN hK hPc) rfl rfl hl.1 rfl (lv_room (Nat.le_of_ble_eq_true rfl)) dX9_isBroken_5 ⟨Nat.le_of_ble_eq_true rfl, Nat.le_of_ble_eq_true rfl⟩) (fun r_1 hw => ?_)
  clear hPc
  (try dsimp only at hw)
  have hw_2 := hw
  clear hw
  refine lv_if_eq (tgt := 13) hx hb dX9_isBroken_8 (by decide) (fun c_3 => ?_) (fun c_3 => ?_)
  · (try simp only [i_lt, i_le, i_eq, T0] at c_3)
    refine lv_iconst (v := 0) hx hb dX9_isBroken_13 (by decide) ?_
    refine lv_istore_n (lv' := [(3, .int 0), (0, .ref (g 0)), (1, .int p0), (2, .int p1)]) hx hb dX9_isBroken_14 rfl hl (by decide) rfl (fun ls hl => ?_)
    have lp_34 : ∀ (d : Nat) (v_17 : Int32) (ls : Array Slot), ((0 ≤ Int32.toInt v_17)) → ((2147483647 - Int32.toInt v_17).toNat < d) → lv_has ls 4 [(3, .int v_17), (0, .ref (g 0)), (1, .int p0), (2, .int p1)] → W p l e (headSpec (wy yX9_isBroken cX9_isBroken 4 (some .boolean)) ({ frames := 1, cells := 0, slots := 0, locals := 40 })).room s m ([.ref (g 0), .int p0, .int p1] : List Value).toArray below meth c s.heap [] 0 0 (MQ below (vp_Si (fun r => True)) ([.ref (g 0), .int p0, .int p1] : List Value).toArray s 0 0 (fun _ => False)) (F0 m 15 ls []) := by
      intro d
      induction d with
      | zero => intro v_17  ls hI hM; exfalso; exact absurd hM (Nat.not_lt_zero _)
      | succ d ih_35 =>
        intro v_17 ls hI hM hl
        have hI_36 := hI
        refine lv_iload_n hx hb dX9_isBroken_15 rfl (lv_at hl 0 rfl) ?_
        refine lv_aload_n hx hb dX9_isBroken_16 rfl (lv_at hl 1 rfl) ?_
        refine va_get (D := (dC, dI)) (ci := 9) (v := .ref (g 7)) (C := RX9) (T := TX9) (N := 38) hx hb ht iX9 hown hK hP 0 rfl rfl 17 (by decide) (ht _ w_1279) (fun _ h9 => h9) rfl dX9_isBroken_17 ?_
        refine lv_bipush (v := 6) hx hb dX9_isBroken_20 (by decide) ?_
        refine va_iald hx hb hK hP 1 1 rfl rfl (by unfold vp_in; decide) dX9_isBroken_22 ?_
        refine lv_topi (fun y_37 ey_37 => ?_)
        have qy_37 : Int32.toInt y_37 = Int32.toInt (hs 6) := congrArg Int32.toInt ey_37
        refine lv_icmp_ge (tgt := 74) hx hb dX9_isBroken_23 (by decide) (fun c_38 => ?_) (fun c_38 => ?_)
        · (try simp only [i_lt, i_le, i_eq] at c_38)
          refine lv_iconst (v := 0) hx hb dX9_isBroken_74 (by decide) ?_
          exact W.zret (v := 0) hx hb hr (rfl) (fun t ht hW => ⟨0, rfl, trivial, ht⟩) (fun q h => absurd h List.not_mem_nil) dX9_isBroken_75
        · (try simp only [i_lt, i_le, i_eq] at c_38)
          refine lv_aload_n hx hb dX9_isBroken_26 rfl (lv_at hl 1 rfl) ?_
          refine va_get (D := (dC, dI)) (ci := 9) (v := .ref (g 10)) (C := RX9) (T := TX9) (N := 38) hx hb ht iX9 hown hK hP 0 rfl rfl 20 (by decide) (ht _ w_1282) (fun _ h9 => h9) rfl dX9_isBroken_27 ?_
          refine lv_iconst (v := 3) hx hb dX9_isBroken_30 (by decide) ?_
          refine lv_iload_n hx hb dX9_isBroken_31 rfl (lv_at hl 0 rfl) ?_
          refine lv_imul hx hb dX9_isBroken_32 ?_
          refine lv_topi (fun y_39 ey_39 => ?_)
          have ty_39 := imulF ey_39
          simp only [T3] at ty_39
          clear ey_39
          refine va_iald hx hb hK hP 2 1 rfl rfl (vp_in_iff.mpr (by omega)) dX9_isBroken_33 ?_
          refine lv_topi (fun y_40 ey_40 => ?_)
          refine lv_iconst (v := 1) hx hb dX9_isBroken_34 (by decide) ?_
          refine lv_icmp_ne (tgt := 68) hx hb dX9_isBroken_35 (by decide) (fun c_41 => ?_) (fun c_41 => ?_)
          · (try simp only [i_lt, i_le, i_eq, T1] at c_41)
            obtain ⟨y_42, ey_42⟩ : ∃ z : Int32, z = v_17 + 1 := ⟨_, rfl⟩
            have ty_42 := iaddF ey_42
            simp only [T1] at ty_42
            refine lv_iinc (v := y_42) (lv' := [(3, .int y_42), (0, .ref (g 0)), (1, .int p0), (2, .int p1)]) hx hb dX9_isBroken_68 hl (k := 0) rfl (by rw [ey_42]; rfl) (by decide) rfl (fun ls hl => ?_)
            clear ey_42
            refine lv_goto (tgt := 15) hx hb dX9_isBroken_71 (by decide) ?_
            exact ih_35 y_42 _ (by first | omega | assumption | decide | exact LK_0 | exact OM_0 | exact CE_0 | exact SZI_0 | exact CLR_0 | exact CP_0 | exact PV_0 | exact BV_0 (by assumption) (by omega) (by omega) | exact LK_mono (by assumption) (by omega) | exact OM_mono (by assumption) (by omega) | exact CE_mono (by assumption) (by omega) | exact CLR_mono (by assumption) (by omega) | exact CP_mono (by assumption) (by omega) | (have e0 := T0; have e1 := T1; have e2 := T2; have em1 := Tm1; omega)) (by omega) (lv_sub hl [0, 1, 2, 3] rfl)
          · (try simp only [i_lt, i_le, i_eq, T1] at c_41)
            refine lv_aload_n hx hb dX9_isBroken_38 rfl (lv_at hl 1 rfl) ?_
            refine va_get (D := (dC, dI)) (ci := 9) (v := .ref (g 10)) (C := RX9) (T := TX9) (N := 38) hx hb ht iX9 hown hK hP 0 rfl rfl 20 (by decide) (ht _ w_1282) (fun _ h9 => h9) rfl dX9_isBroken_39 ?_
            refine lv_iconst (v := 3) hx hb dX9_isBroken_42 (by decide) ?_
            refine lv_iload_n hx hb dX9_isBroken_43 rfl (lv_at hl 0 rfl) ?_
            refine lv_imul hx hb dX9_isBroken_44 ?_
            refine lv_topi (fun y_43 ey_43 => ?_)
            have ty_43 := imulF ey_43
            simp only [T3] at ty_43
            clear ey_43
            refine lv_iconst (v := 1) hx hb dX9_isBroken_45 (by decide) ?_
            refine lv_iadd hx hb dX9_isBroken_46 ?_
            refine lv_topi (fun y_44 ey_44 => ?_)
            have ty_44 := iaddF ey_44
            simp only [T1] at ty_44
            clear ey_44
            refine va_iald hx hb hK hP 2 1 rfl rfl (vp_in_iff.mpr (by omega)) dX9_isBroken_47 ?_
            refine lv_topi (fun y_45 ey_45 => ?_)
            refine lv_iload_n hx hb dX9_isBroken_48 rfl (lv_at hl 2 rfl) ?_
            refine lv_icmp_ne (tgt := 68) hx hb dX9_isBroken_49 (by decide) (fun c_46 => ?_) (fun c_46 => ?_)
            · (try simp only [i_lt, i_le, i_eq] at c_46)
              obtain ⟨y_47, ey_47⟩ : ∃ z : Int32, z = v_17 + 1 := ⟨_, rfl⟩
              have ty_47 := iaddF ey_47
              simp only [T1] at ty_47
              refine lv_iinc (v := y_47) (lv' := [(3, .int y_47), (0, .ref (g 0)), (1, .int p0), (2, .int p1)]) hx hb dX9_isBroken_68 hl (k := 0) rfl (by rw [ey_47]; rfl) (by decide) rfl (fun ls hl => ?_)
              clear ey_47
              refine lv_goto (tgt := 15) hx hb dX9_isBroken_71 (by decide) ?_
              exact ih_35 y_47 _ (by first | omega | assumption | decide | exact LK_0 | exact OM_0 | exact CE_0 | exact SZI_0 | exact CLR_0 | exact CP_0 | exact PV_0 | exact BV_0 (by assumption) (by omega) (by omega) | exact LK_mono (by assumption) (by omega) | exact OM_mono (by assumption) (by omega) | exact CE_mono (by assumption) (by omega) | exact CLR_mono (by assumption) (by omega) | exact CP_mono (by assumption) (by omega) | (have e0 := T0; have e1 := T1; have e2 := T2; have em1 := Tm1; omega)) (by omega) (lv_sub hl [0, 1, 2, 3] rfl)
            · (try simp only [i_lt, i_le, i_eq] at c_46)
              refine lv_aload_n hx hb dX9_isBroken_52 rfl (lv_at hl 1 rfl) ?_
              refine va_get (D := (dC, dI)) (ci := 9) (v := .ref (g 10)) (C := RX9) (T := TX9) (N := 38) hx hb ht iX9 hown hK hP 0 rfl rfl 20 (by decide) (ht _ w_1282) (fun _ h9 => h9) rfl dX9_isBroken_53 ?_
              refine lv_iconst (v := 3) hx hb dX9_isBroken_56 (by decide) ?_
              refine lv_iload_n hx hb dX9_isBroken_57 rfl (lv_at hl 0 rfl) ?_
              refine lv_imul hx hb dX9_isBroken_58 ?_
              refine lv_topi (fun y_48 ey_48 => ?_)
              have ty_48 := imulF ey_48
              simp only [T3] at ty_48
              clear ey_48
              refine lv_iconst (v := 2) hx hb dX9_isBroken_59 (by decide) ?_
              refine lv_iadd hx hb dX9_isBroken_60 ?_
              refine lv_topi (fun y_49 ey_49 => ?_)
              have ty_49 := iaddF ey_49
              simp only [T2] at ty_49
              clear ey_49
              refine va_iald hx hb hK hP 2 1 rfl rfl (vp_in_iff.mpr (by omega)) dX9_isBroken_61 ?_
              refine lv_topi (fun y_50 ey_50 => ?_)
              refine lv_iload_n hx hb dX9_isBroken_62 rfl (lv_at hl 3 rfl) ?_
              refine lv_icmp_gt (tgt := 68) hx hb dX9_isBroken_63 (by decide) (fun c_51 => ?_) (fun c_51 => ?_)
              · (try simp only [i_lt, i_le, i_eq] at c_51)
                obtain ⟨y_52, ey_52⟩ : ∃ z : Int32, z = v_17 + 1 := ⟨_, rfl⟩
                have ty_52 := iaddF ey_52
                simp only [T1] at ty_52
                refine lv_iinc (v := y_52) (lv' := [(3, .int y_52), (0, .ref (g 0)), (1, .int p0), (2, .int p1)]) hx hb dX9_isBroken_68 hl (k := 0) rfl (by rw [ey_52]; rfl) (by decide) rfl (fun ls hl => ?_)
                clear ey_52
                refine lv_goto (tgt := 15) hx hb dX9_isBroken_71 (by decide) ?_
                exact ih_35 y_52 _ (by first | omega | assumption | decide | exact LK_0 | exact OM_0 | exact CE_0 | exact SZI_0 | exact CLR_0 | exact CP_0 | exact PV_0 | exact BV_0 (by assumption) (by omega) (by omega) | exact LK_mono (by assumption) (by omega) | exact OM_mono (by assumption) (by omega) | exact CE_mono (by assumption) (by omega) | exact CLR_mono (by assumption) (by omega) | exact CP_mono (by assumption) (by omega) | (have e0 := T0; have e1 := T1; have e2 := T2; have em1 := Tm1; omega)) (by omega) (lv_sub hl [0, 1, 2, 3] rfl)
              · (try simp only [i_lt, i_le, i_eq] at c_51)
                refine lv_iconst (v := 1) hx hb dX9_isBroken_66 (by decide) ?_
                exact W.zret (v := 1) hx hb hr (rfl) (fun t ht hW => ⟨1, rfl, trivial, ht⟩) (fun q h => absurd h List.not_mem_nil) dX9_isBroken_67
    exact lp_34 _ 0 _ (by first | omega | assumption | decide | exact LK_0 | exact OM_0 | exact CE_0 | exact SZI_0 | exact CLR_0 | exact CP_0 | exact PV_0 | exact BV_0 (by assumption) (by omega) (by omega) | exact LK_mono (by assumption) (by omega) | exact OM_mono (by assumption) (by omega) | exact CE_mono (by assumption) (by omega) | exact CLR_mono (by assumption) (by omega) | exact CP_mono (by assumption) (by omega) | (have e0 := T0; have e1 := T1; have e2 := T2; have em1 := Tm1; omega)) (Nat.lt_succ_self _) (lv_sub hl [0, 1, 2, 3] rfl)
  · (try simp only [i_lt, i_le, i_eq, T0] at c_3)
    refine lv_iconst (v := 1) hx hb dX9_isBroken_11 (by decide) ?_
    exact W.zret (v := 1) hx hb hr (rfl) (fun t ht hW => ⟨1, rfl, trivial, ht⟩) (fun q h => absurd h List.not_mem_nil) dX9_isBroken_12
set_option maxHeartbeats 8000000 in
set_option maxRecDepth 100000 in
theorem s_X9_laysDay (l : Launch) (dC : Nat → ClassId) (dI : Nat → Nat → Nat) (cB cI cJ cZ cL : ClassId) (sz : Nat) (g : Nat → Nat) (g_th : Int32) (g_tp : Int32) (g_so : Int32) (g_tk : Int32) (g_pl : Int32) (g_va : Int32) (g_wo : Int64) (g_bd : Int32) (g_bp : Int32) (g_fa : Int32) (g_fp : Int32) (g_lw : Int32) (g_we : Int32) (g_cu : Int32) (g_go : Int32) (g_ba : Int32) (g_jo : Int32) (g_bt : Int64) (g_sb : Int32) (g_ab : Int32) (g_al : Int32) (hs : Nat → Int32) (ac : Nat → Int32) (om : Nat → Int32) (lk : Nat → Int32) (pa : Nat → Int64) (fl : Nat → Int64) (p0 : Int32) (h4 : 0 ≤ Int32.toInt (hs 4) ∧ Int32.toInt (hs 4) ≤ 5) (h6 : 0 ≤ Int32.toInt (hs 6) ∧ Int32.toInt (hs 6) ≤ 30) (hlk : LK (Int32.toInt (hs 4)) lk) (hom : OM (Int32.toInt (hs 4)) om) (hd : Int32.toInt p0 < 2147483647) : Met l yX9_laysDay (wy yX9_laysDay cX9_laysDay 7 none) ({ frames := 3, cells := 0, slots := 0, locals := 120 }) (va_Pc [.ref (g 0), .int p0] (fun U => U.heap.size = sz ∧ va_P (dC, dI) vwCl [((g 0), .inr (9, [.int g_th, .ref (g 1), .ref (g 2), .ref (g 3), .ref (g 4), .ref (g 5), .int g_tp, .int g_so, .int g_tk, .int g_pl, .int g_va, .long g_wo, .int g_bd, .int g_bp, .int g_fa, .int g_fp, .ref (g 6), .ref (g 7), .ref (g 8), .ref (g 9), .ref (g 10), .ref (g 11), .int g_lw, .int g_we, .int g_cu, .int g_go, .int g_ba, .ref (g 12), .ref (g 13), .int g_jo, .ref (g 14), .ref (g 15), .long g_bt, .int g_sb, .int g_ab, .int g_al, .ref (g 16), .ref (g 17)])), ((g 7), .inl (cI, 35, .inl hs)), ((g 10), .inl (cI, 450, .inl ac)), ((g 12), .inl (cI, 5, .inl om)), ((g 13), .inl (cI, 5, .inl lk)), ((g 14), .inl (cJ, 6, .inr (.inl pa))), ((g 15), .inl (cJ, 5, .inr (.inl fl)))] U.heap ∧ va_K (dC, dI) vwCl (tyL cB cI cJ cZ cL) U ∧ va_D (fun _ => True) [((g 0), .inr (9, [.int g_th, .ref (g 1), .ref (g 2), .ref (g 3), .ref (g 4), .ref (g 5), .int g_tp, .int g_so, .int g_tk, .int g_pl, .int g_va, .long g_wo, .int g_bd, .int g_bp, .int g_fa, .int g_fp, .ref (g 6), .ref (g 7), .ref (g 8), .ref (g 9), .ref (g 10), .ref (g 11), .int g_lw, .int g_we, .int g_cu, .int g_go, .int g_ba, .ref (g 12), .ref (g 13), .int g_jo, .ref (g 14), .ref (g 15), .long g_bt, .int g_sb, .int g_ab, .int g_al, .ref (g 16), .ref (g 17)])), ((g 7), .inl (cI, 35, .inl hs)), ((g 10), .inl (cI, 450, .inl ac)), ((g 12), .inl (cI, 5, .inl om)), ((g 13), .inl (cI, 5, .inl lk)), ((g 14), .inl (cJ, 6, .inr (.inl pa))), ((g 15), .inl (cJ, 5, .inr (.inl fl)))] ∧ NW U)) (va_Qv (fun u => (0 ≤ Int32.toInt u.1) ∧ (Int32.toInt u.1 ≤ Int32.toInt (hs 4)) ∧ (1 ≤ Int64.toInt u.2.1)) (fun (u : (Int32) × (Int64) × (Nat → Int64) × (Nat → Int64)) t => va_P (dC, dI) vwCl [((g 0), .inr (9, [.int g_th, .ref (g 1), .ref (g 2), .ref (g 3), .ref (g 4), .ref (g 5), .int g_tp, .int g_so, .int g_tk, .int g_pl, .int g_va, .long g_wo, .int g_bd, .int g_bp, .int g_fa, .int g_fp, .ref (g 6), .ref (g 7), .ref (g 8), .ref (g 9), .ref (g 10), .ref (g 11), .int g_lw, .int g_we, .int g_cu, .int g_go, .int g_ba, .ref (g 12), .ref (g 13), .int u.1, .ref (g 14), .ref (g 15), .long u.2.1, .int g_sb, .int g_ab, .int g_al, .ref (g 16), .ref (g 17)])), ((g 7), .inl (cI, 35, .inl hs)), ((g 10), .inl (cI, 450, .inl ac)), ((g 12), .inl (cI, 5, .inl om)), ((g 13), .inl (cI, 5, .inl lk)), ((g 14), .inl (cJ, 6, .inr (.inl u.2.2.1))), ((g 15), .inl (cJ, 5, .inr (.inl u.2.2.2)))] t.heap ∧ va_D (va_A [((g 0), .inr (9, [.int g_th, .ref (g 1), .ref (g 2), .ref (g 3), .ref (g 4), .ref (g 5), .int g_tp, .int g_so, .int g_tk, .int g_pl, .int g_va, .long g_wo, .int g_bd, .int g_bp, .int g_fa, .int g_fp, .ref (g 6), .ref (g 7), .ref (g 8), .ref (g 9), .ref (g 10), .ref (g 11), .int g_lw, .int g_we, .int g_cu, .int g_go, .int g_ba, .ref (g 12), .ref (g 13), .int g_jo, .ref (g 14), .ref (g 15), .long g_bt, .int g_sb, .int g_ab, .int g_al, .ref (g 16), .ref (g 17)])), ((g 7), .inl (cI, 35, .inl hs)), ((g 10), .inl (cI, 450, .inl ac)), ((g 12), .inl (cI, 5, .inl om)), ((g 13), .inl (cI, 5, .inl lk)), ((g 14), .inl (cJ, 6, .inr (.inl pa))), ((g 15), .inl (cJ, 5, .inr (.inl fl)))] sz) [((g 0), .inr (9, [.int g_th, .ref (g 1), .ref (g 2), .ref (g 3), .ref (g 4), .ref (g 5), .int g_tp, .int g_so, .int g_tk, .int g_pl, .int g_va, .long g_wo, .int g_bd, .int g_bp, .int g_fa, .int g_fp, .ref (g 6), .ref (g 7), .ref (g 8), .ref (g 9), .ref (g 10), .ref (g 11), .int g_lw, .int g_we, .int g_cu, .int g_go, .int g_ba, .ref (g 12), .ref (g 13), .int u.1, .ref (g 14), .ref (g 15), .long u.2.1, .int g_sb, .int g_ab, .int g_al, .ref (g 16), .ref (g 17)])), ((g 7), .inl (cI, 35, .inl hs)), ((g 10), .inl (cI, 450, .inl ac)), ((g 12), .inl (cI, 5, .inl om)), ((g 13), .inl (cI, 5, .inl lk)), ((g 14), .inl (cJ, 6, .inr (.inl u.2.2.1))), ((g 15), .inl (cJ, 5, .inr (.inl u.2.2.2)))]) (va_A [((g 0), .inr (9, [.int g_th, .ref (g 1), .ref (g 2), .ref (g 3), .ref (g 4), .ref (g 5), .int g_tp, .int g_so, .int g_tk, .int g_pl, .int g_va, .long g_wo, .int g_bd, .int g_bp, .int g_fa, .int g_fp, .ref (g 6), .ref (g 7), .ref (g 8), .ref (g 9), .ref (g 10), .ref (g 11), .int g_lw, .int g_we, .int g_cu, .int g_go, .int g_ba, .ref (g 12), .ref (g 13), .int g_jo, .ref (g 14), .ref (g 15), .long g_bt, .int g_sb, .int g_ab, .int g_al, .ref (g 16), .ref (g 17)])), ((g 7), .inl (cI, 35, .inl hs)), ((g 10), .inl (cI, 450, .inl ac)), ((g 12), .inl (cI, 5, .inl om)), ((g 13), .inl (cI, 5, .inl lk)), ((g 14), .inl (cJ, 6, .inr (.inl pa))), ((g 15), .inl (cJ, 5, .inr (.inl fl)))] sz)) 0 0 (va_A [((g 0), .inr (9, [.int g_th, .ref (g 1), .ref (g 2), .ref (g 3), .ref (g 4), .ref (g 5), .int g_tp, .int g_so, .int g_tk, .int g_pl, .int g_va, .long g_wo, .int g_bd, .int g_bp, .int g_fa, .int g_fp, .ref (g 6), .ref (g 7), .ref (g 8), .ref (g 9), .ref (g 10), .ref (g 11), .int g_lw, .int g_we, .int g_cu, .int g_go, .int g_ba, .ref (g 12), .ref (g 13), .int g_jo, .ref (g 14), .ref (g 15), .long g_bt, .int g_sb, .int g_ab, .int g_al, .ref (g 16), .ref (g 17)])), ((g 7), .inl (cI, 35, .inl hs)), ((g 10), .inl (cI, 450, .inl ac)), ((g 12), .inl (cI, 5, .inl om)), ((g 13), .inl (cI, 5, .inl lk)), ((g 14), .inl (cJ, 6, .inr (.inl pa))), ((g 15), .inl (cJ, 5, .inr (.inl fl)))] sz) := by
  refine Met.ofW (cc := cX9_laysDay) (maxL := 7) (ret := none) (by decide) rfl ?_
  intro p e s m args below meth c s₁ B hml hv
  obtain ⟨rfl, hsz, hP, hK, hD0, hN⟩ := hv
  have hx := B.exec
  have hb := B.bytes
  have hr := B.returns
  have ht : ∀ w ∈ lw_ok, w.before _ s = true := fun w h => atoms_spec (ws := wy yX9_laysDay cX9_laysDay 7 none) B.pre w (List.mem_cons_of_mem _ h)
  have hown : s.vm.findClass RX9 = some m.cls := findClass_of_methodNamed B.named
  have hlocks := B.notSynchronized
  subst hsz
  have hD := hD0.self (sz := s.heap.size)
  generalize hAe : va_A [((g 0), .inr (9, [.int g_th, .ref (g 1), .ref (g 2), .ref (g 3), .ref (g 4), .ref (g 5), .int g_tp, .int g_so, .int g_tk, .int g_pl, .int g_va, .long g_wo, .int g_bd, .int g_bp, .int g_fa, .int g_fp, .ref (g 6), .ref (g 7), .ref (g 8), .ref (g 9), .ref (g 10), .ref (g 11), .int g_lw, .int g_we, .int g_cu, .int g_go, .int g_ba, .ref (g 12), .ref (g 13), .int g_jo, .ref (g 14), .ref (g 15), .long g_bt, .int g_sb, .int g_ab, .int g_al, .ref (g 16), .ref (g 17)])), ((g 7), .inl (cI, 35, .inl hs)), ((g 10), .inl (cI, 450, .inl ac)), ((g 12), .inl (cI, 5, .inl om)), ((g 13), .inl (cI, 5, .inl lk)), ((g 14), .inl (cJ, 6, .inr (.inl pa))), ((g 15), .inl (cJ, 5, .inr (.inl fl)))] s.heap.size = A at hD ⊢
  have hA : ∀ q : Nat, s.heap.size ≤ q → A q := fun q h => by rw [← hAe]; exact Or.inr h
  have hS : va_S A s.heap s.heap [] := va_S.rf
  clear hAe hD0
  have hl := lv_entry ([.ref (g 0), .int p0]) (n := 7) (Nat.le_of_ble_eq_true rfl)
  rw [lg_entry_eq]
  generalize (lg_sl ([.ref (g 0), .int p0]) ++ List.replicate (7 - (lg_sl ([.ref (g 0), .int p0])).length) Slot.unset).toArray = ls at hl ⊢
  have hl : lv_has ls 7 [(0, .ref (g 0)), (1, .int p0)] := hl
  have hP : va_P (dC, dI) vwCl [((g 0), .inr (9, [.int g_th, .ref (g 1), .ref (g 2), .ref (g 3), .ref (g 4), .ref (g 5), .int g_tp, .int g_so, .int g_tk, .int g_pl, .int g_va, .long g_wo, .int g_bd, .int g_bp, .int g_fa, .int g_fp, .ref (g 6), .ref (g 7), .ref (g 8), .ref (g 9), .ref (g 10), .ref (g 11), .int g_lw, .int g_we, .int g_cu, .int g_go, .int g_ba, .ref (g 12), .ref (g 13), .int g_jo, .ref (g 14), .ref (g 15), .long g_bt, .int g_sb, .int g_ab, .int g_al, .ref (g 16), .ref (g 17)])), ((g 7), .inl (cI, 35, .inl hs)), ((g 10), .inl (cI, 450, .inl ac)), ((g 12), .inl (cI, 5, .inl om)), ((g 13), .inl (cI, 5, .inl lk)), ((g 14), .inl (cJ, 6, .inr (.inl pa))), ((g 15), .inl (cJ, 5, .inr (.inl fl)))] s.heap := hP
  have hD : va_D A [((g 0), .inr (9, [.int g_th, .ref (g 1), .ref (g 2), .ref (g 3), .ref (g 4), .ref (g 5), .int g_tp, .int g_so, .int g_tk, .int g_pl, .int g_va, .long g_wo, .int g_bd, .int g_bp, .int g_fa, .int g_fp, .ref (g 6), .ref (g 7), .ref (g 8), .ref (g 9), .ref (g 10), .ref (g 11), .int g_lw, .int g_we, .int g_cu, .int g_go, .int g_ba, .ref (g 12), .ref (g 13), .int g_jo, .ref (g 14), .ref (g 15), .long g_bt, .int g_sb, .int g_ab, .int g_al, .ref (g 16), .ref (g 17)])), ((g 7), .inl (cI, 35, .inl hs)), ((g 10), .inl (cI, 450, .inl ac)), ((g 12), .inl (cI, 5, .inl om)), ((g 13), .inl (cI, 5, .inl lk)), ((g 14), .inl (cJ, 6, .inr (.inl pa))), ((g 15), .inl (cJ, 5, .inr (.inl fl)))] := hD
  have rg_p0 := rgI p0
  refine lv_aload_n hx hb dX9_laysDay_0 rfl (lv_at hl 0 rfl) ?_
  refine lv_iconst (v := 0) hx hb dX9_laysDay_1 (by decide) ?_
  refine va_put (D := (dC, dI)) (ci := 9) (v := .int 0) (ty := .int) (C := RX9) (T := TX9) (N := 38) hx hb ht iX9 tyX9 tyX9_ok nmX9 hown hK hP hD hS 0 rfl rfl 29 (by decide) (ht _ w_1291) (fun _ h9 => h9) rfl (by decide +kernel) rfl rfl (Nat.le_of_ble_eq_true rfl) dX9_laysDay_2 (fun H locs hP hD hS => ?_)
  have hP : va_P (dC, dI) vwCl [((g 0), .inr (9, [.int g_th, .ref (g 1), .ref (g 2), .ref (g 3), .ref (g 4), .ref (g 5), .int g_tp, .int g_so, .int g_tk, .int g_pl, .int g_va, .long g_wo, .int g_bd, .int g_bp, .int g_fa, .int g_fp, .ref (g 6), .ref (g 7), .ref (g 8), .ref (g 9), .ref (g 10), .ref (g 11), .int g_lw, .int g_we, .int g_cu, .int g_go, .int g_ba, .ref (g 12), .ref (g 13), .int 0, .ref (g 14), .ref (g 15), .long g_bt, .int g_sb, .int g_ab, .int g_al, .ref (g 16), .ref (g 17)])), ((g 7), .inl (cI, 35, .inl hs)), ((g 10), .inl (cI, 450, .inl ac)), ((g 12), .inl (cI, 5, .inl om)), ((g 13), .inl (cI, 5, .inl lk)), ((g 14), .inl (cJ, 6, .inr (.inl pa))), ((g 15), .inl (cJ, 5, .inr (.inl fl)))] H := hP
  have hD : va_D A [((g 0), .inr (9, [.int g_th, .ref (g 1), .ref (g 2), .ref (g 3), .ref (g 4), .ref (g 5), .int g_tp, .int g_so, .int g_tk, .int g_pl, .int g_va, .long g_wo, .int g_bd, .int g_bp, .int g_fa, .int g_fp, .ref (g 6), .ref (g 7), .ref (g 8), .ref (g 9), .ref (g 10), .ref (g 11), .int g_lw, .int g_we, .int g_cu, .int g_go, .int g_ba, .ref (g 12), .ref (g 13), .int 0, .ref (g 14), .ref (g 15), .long g_bt, .int g_sb, .int g_ab, .int g_al, .ref (g 16), .ref (g 17)])), ((g 7), .inl (cI, 35, .inl hs)), ((g 10), .inl (cI, 450, .inl ac)), ((g 12), .inl (cI, 5, .inl om)), ((g 13), .inl (cI, 5, .inl lk)), ((g 14), .inl (cJ, 6, .inr (.inl pa))), ((g 15), .inl (cJ, 5, .inr (.inl fl)))] := hD
  have lp_372 : ∀ (d : Nat) (wv_11 : Int32) (H : Heap) (locs : List Loc) (ls : Array Slot), ((0 ≤ Int32.toInt wv_11) ∧ (Int32.toInt wv_11 ≤ Int32.toInt (hs 4))) → ((10 - Int32.toInt wv_11).toNat < d) → va_P (dC, dI) vwCl [((g 0), .inr (9, [.int g_th, .ref (g 1), .ref (g 2), .ref (g 3), .ref (g 4), .ref (g 5), .int g_tp, .int g_so, .int g_tk, .int g_pl, .int g_va, .long g_wo, .int g_bd, .int g_bp, .int g_fa, .int g_fp, .ref (g 6), .ref (g 7), .ref (g 8), .ref (g 9), .ref (g 10), .ref (g 11), .int g_lw, .int g_we, .int g_cu, .int g_go, .int g_ba, .ref (g 12), .ref (g 13), .int wv_11, .ref (g 14), .ref (g 15), .long g_bt, .int g_sb, .int g_ab, .int g_al, .ref (g 16), .ref (g 17)])), ((g 7), .inl (cI, 35, .inl hs)), ((g 10), .inl (cI, 450, .inl ac)), ((g 12), .inl (cI, 5, .inl om)), ((g 13), .inl (cI, 5, .inl lk)), ((g 14), .inl (cJ, 6, .inr (.inl pa))), ((g 15), .inl (cJ, 5, .inr (.inl fl)))] H → va_D A [((g 0), .inr (9, [.int g_th, .ref (g 1), .ref (g 2), .ref (g 3), .ref (g 4), .ref (g 5), .int g_tp, .int g_so, .int g_tk, .int g_pl, .int g_va, .long g_wo, .int g_bd, .int g_bp, .int g_fa, .int g_fp, .ref (g 6), .ref (g 7), .ref (g 8), .ref (g 9), .ref (g 10), .ref (g 11), .int g_lw, .int g_we, .int g_cu, .int g_go, .int g_ba, .ref (g 12), .ref (g 13), .int wv_11, .ref (g 14), .ref (g 15), .long g_bt, .int g_sb, .int g_ab, .int g_al, .ref (g 16), .ref (g 17)])), ((g 7), .inl (cI, 35, .inl hs)), ((g 10), .inl (cI, 450, .inl ac)), ((g 12), .inl (cI, 5, .inl om)), ((g 13), .inl (cI, 5, .inl lk)), ((g 14), .inl (cJ, 6, .inr (.inl pa))), ((g 15), .inl (cJ, 5, .inr (.inl fl)))] → va_S A s.heap H locs → lv_has ls 7 [(0, .ref (g 0)), (1, .int p0)] → W p l e (headSpec (wy yX9_laysDay cX9_laysDay 7 none) ({ frames := 3, cells := 0, slots := 0, locals := 120 })).room s m ([.ref (g 0), .int p0] : List Value).toArray below meth c H locs 0 0 (MQ below (va_Qv (fun u => (0 ≤ Int32.toInt u.1) ∧ (Int32.toInt u.1 ≤ Int32.toInt (hs 4)) ∧ (1 ≤ Int64.toInt u.2.1)) (fun (u : (Int32) × (Int64) × (Nat → Int64) × (Nat → Int64)) t => va_P (dC, dI) vwCl [((g 0), .inr (9, [.int g_th, .ref (g 1), .ref (g 2), .ref (g 3), .ref (g 4), .ref (g 5), .int g_tp, .int g_so, .int g_tk, .int g_pl, .int g_va, .long g_wo, .int g_bd, .int g_bp, .int g_fa, .int g_fp, .ref (g 6), .ref (g 7), .ref (g 8), .ref (g 9), .ref (g 10), .ref (g 11), .int g_lw, .int g_we, .int g_cu, .int g_go, .int g_ba, .ref (g 12), .ref (g 13), .int u.1, .ref (g 14), .ref (g 15), .long u.2.1, .int g_sb, .int g_ab, .int g_al, .ref (g 16), .ref (g 17)])), ((g 7), .inl (cI, 35, .inl hs)), ((g 10), .inl (cI, 450, .inl ac)), ((g 12), .inl (cI, 5, .inl om)), ((g 13), .inl (cI, 5, .inl lk)), ((g 14), .inl (cJ, 6, .inr (.inl u.2.2.1))), ((g 15), .inl (cJ, 5, .inr (.inl u.2.2.2)))] t.heap ∧ va_D A [((g 0), .inr (9, [.int g_th, .ref (g 1), .ref (g 2), .ref (g 3), .ref (g 4), .ref (g 5), .int g_tp, .int g_so, .int g_tk, .int g_pl, .int g_va, .long g_wo, .int g_bd, .int g_bp, .int g_fa, .int g_fp, .ref (g 6), .ref (g 7), .ref (g 8), .ref (g 9), .ref (g 10), .ref (g 11), .int g_lw, .int g_we, .int g_cu, .int g_go, .int g_ba, .ref (g 12), .ref (g 13), .int u.1, .ref (g 14), .ref (g 15), .long u.2.1, .int g_sb, .int g_ab, .int g_al, .ref (g 16), .ref (g 17)])), ((g 7), .inl (cI, 35, .inl hs)), ((g 10), .inl (cI, 450, .inl ac)), ((g 12), .inl (cI, 5, .inl om)), ((g 13), .inl (cI, 5, .inl lk)), ((g 14), .inl (cJ, 6, .inr (.inl u.2.2.1))), ((g 15), .inl (cJ, 5, .inr (.inl u.2.2.2)))]) A) ([.ref (g 0), .int p0] : List Value).toArray s 0 0 A) (F0 m 5 ls []) := by
    intro d
    induction d with
    | zero => intro wv_11 H locs ls hI hM; exfalso; exact absurd hM (Nat.not_lt_zero _)
    | succ d ih_373 =>
      intro wv_11 H locs ls hI hM hP hD hS hl
      obtain ⟨hI_374, hI_375⟩ := hI
      refine lv_aload_n hx hb dX9_laysDay_5 rfl (lv_at hl 0 rfl) ?_
      refine va_get (D := (dC, dI)) (ci := 9) (v := .int wv_11) (C := RX9) (T := TX9) (N := 38) hx hb ht iX9 hown hK hP 0 rfl rfl 29 (by decide) (ht _ w_1291) (fun _ h9 => h9) rfl dX9_laysDay_6 ?_
      refine lv_aload_n hx hb dX9_laysDay_9 rfl (lv_at hl 0 rfl) ?_
      have hPc := hP.sub (ws' := [((g 0), .inr (9, [.int g_th, .ref (g 1), .ref (g 2), .ref (g 3), .ref (g 4), .ref (g 5), .int g_tp, .int g_so, .int g_tk, .int g_pl, .int g_va, .long g_wo, .int g_bd, .int g_bp, .int g_fa, .int g_fp, .ref (g 6), .ref (g 7), .ref (g 8), .ref (g 9), .ref (g 10), .ref (g 11), .int g_lw, .int g_we, .int g_cu, .int g_go, .int g_ba, .ref (g 12), .ref (g 13), .int wv_11, .ref (g 14), .ref (g 15), .long g_bt, .int g_sb, .int g_ab, .int g_al, .ref (g 16), .ref (g 17)])), ((g 7), .inl (cI, 35, .inl hs))]) [0, 1] rfl
      refine vp_callSi (W.runV (As := []) (rest := [.int wv_11]) ⟨hx, hb, hml, hown, ht⟩ (s_X9_spans l dC dI cB cI cJ cZ cL g g_th g_tp g_so g_tk g_pl g_va g_wo g_bd g_bp g_fa g_fp g_lw g_we g_cu g_go g_ba wv_11 g_bt g_sb g_ab g_al hs) (cwV 0 ht (gV w_1521 w_1523 w_67 w_114 w_1524) rfl rfl rfl (by decide +kernel) ⟨Nat.le_of_ble_eq_true rfl, Nat.le_of_ble_eq_true rfl⟩) (pVSn hN hK hPc (ci := 9) (q0 := 0) rfl rfl) rfl rfl hl.1 rfl (lv_room (Nat.le_of_ble_eq_true rfl)) dX9_laysDay_10 ⟨Nat.le_of_ble_eq_true rfl, Nat.le_of_ble_eq_true rfl⟩) (fun r_376 hw => ?_)
      clear hPc
      (try dsimp only at hw)
      have hw_377 := hw
      clear hw
      refine lv_icmp_ge (tgt := 41) hx hb dX9_laysDay_13 (by decide) (fun c_378 => ?_) (fun c_378 => ?_)
      · (try simp only [i_lt, i_le, i_eq] at c_378)
        refine lv_lconst (v := 1) hx hb dX9_laysDay_41 (by decide) ?_
        refine lv_lstore_n (lv' := [(2, .long 1), (0, .ref (g 0)), (1, .int p0)]) hx hb dX9_laysDay_42 rfl hl (by decide) rfl (fun ls hl => ?_)
        refine lv_iconst (v := 0) hx hb dX9_laysDay_43 (by decide) ?_
        refine lv_istore (lv' := [(4, .int 0), (2, .long 1), (0, .ref (g 0)), (1, .int p0)]) hx hb dX9_laysDay_44 hl (by decide) rfl (fun ls hl => ?_)
        have lp_494 : ∀ (d : Nat) (v_435 : Int64) (v_436 : Int32) (H : Heap) (locs : List Loc) (ls : Array Slot), ((0 ≤ Int32.toInt v_436) ∧ (Int32.toInt v_436 ≤ Int32.toInt wv_11) ∧ (PV v_436 v_435)) → ((10 - Int32.toInt v_436).toNat < d) → va_P (dC, dI) vwCl [((g 0), .inr (9, [.int g_th, .ref (g 1), .ref (g 2), .ref (g 3), .ref (g 4), .ref (g 5), .int g_tp, .int g_so, .int g_tk, .int g_pl, .int g_va, .long g_wo, .int g_bd, .int g_bp, .int g_fa, .int g_fp, .ref (g 6), .ref (g 7), .ref (g 8), .ref (g 9), .ref (g 10), .ref (g 11), .int g_lw, .int g_we, .int g_cu, .int g_go, .int g_ba, .ref (g 12), .ref (g 13), .int wv_11, .ref (g 14), .ref (g 15), .long g_bt, .int g_sb, .int g_ab, .int g_al, .ref (g 16), .ref (g 17)])), ((g 7), .inl (cI, 35, .inl hs)), ((g 10), .inl (cI, 450, .inl ac)), ((g 12), .inl (cI, 5, .inl om)), ((g 13), .inl (cI, 5, .inl lk)), ((g 14), .inl (cJ, 6, .inr (.inl pa))), ((g 15), .inl (cJ, 5, .inr (.inl fl)))] H → va_D A [((g 0), .inr (9, [.int g_th, .ref (g 1), .ref (g 2), .ref (g 3), .ref (g 4), .ref (g 5), .int g_tp, .int g_so, .int g_tk, .int g_pl, .int g_va, .long g_wo, .int g_bd, .int g_bp, .int g_fa, .int g_fp, .ref (g 6), .ref (g 7), .ref (g 8), .ref (g 9), .ref (g 10), .ref (g 11), .int g_lw, .int g_we, .int g_cu, .int g_go, .int g_ba, .ref (g 12), .ref (g 13), .int wv_11, .ref (g 14), .ref (g 15), .long g_bt, .int g_sb, .int g_ab, .int g_al, .ref (g 16), .ref (g 17)])), ((g 7), .inl (cI, 35, .inl hs)), ((g 10), .inl (cI, 450, .inl ac)), ((g 12), .inl (cI, 5, .inl om)), ((g 13), .inl (cI, 5, .inl lk)), ((g 14), .inl (cJ, 6, .inr (.inl pa))), ((g 15), .inl (cJ, 5, .inr (.inl fl)))] → va_S A s.heap H locs → lv_has ls 7 [(4, .int v_436), (2, .long v_435), (0, .ref (g 0)), (1, .int p0)] → W p l e (headSpec (wy yX9_laysDay cX9_laysDay 7 none) ({ frames := 3, cells := 0, slots := 0, locals := 120 })).room s m ([.ref (g 0), .int p0] : List Value).toArray below meth c H locs 0 0 (MQ below (va_Qv (fun u => (0 ≤ Int32.toInt u.1) ∧ (Int32.toInt u.1 ≤ Int32.toInt (hs 4)) ∧ (1 ≤ Int64.toInt u.2.1)) (fun (u : (Int32) × (Int64) × (Nat → Int64) × (Nat → Int64)) t => va_P (dC, dI) vwCl [((g 0), .inr (9, [.int g_th, .ref (g 1), .ref (g 2), .ref (g 3), .ref (g 4), .ref (g 5), .int g_tp, .int g_so, .int g_tk, .int g_pl, .int g_va, .long g_wo, .int g_bd, .int g_bp, .int g_fa, .int g_fp, .ref (g 6), .ref (g 7), .ref (g 8), .ref (g 9), .ref (g 10), .ref (g 11), .int g_lw, .int g_we, .int g_cu, .int g_go, .int g_ba, .ref (g 12), .ref (g 13), .int u.1, .ref (g 14), .ref (g 15), .long u.2.1, .int g_sb, .int g_ab, .int g_al, .ref (g 16), .ref (g 17)])), ((g 7), .inl (cI, 35, .inl hs)), ((g 10), .inl (cI, 450, .inl ac)), ((g 12), .inl (cI, 5, .inl om)), ((g 13), .inl (cI, 5, .inl lk)), ((g 14), .inl (cJ, 6, .inr (.inl u.2.2.1))), ((g 15), .inl (cJ, 5, .inr (.inl u.2.2.2)))] t.heap ∧ va_D A [((g 0), .inr (9, [.int g_th, .ref (g 1), .ref (g 2), .ref (g 3), .ref (g 4), .ref (g 5), .int g_tp, .int g_so, .int g_tk, .int g_pl, .int g_va, .long g_wo, .int g_bd, .int g_bp, .int g_fa, .int g_fp, .ref (g 6), .ref (g 7), .ref (g 8), .ref (g 9), .ref (g 10), .ref (g 11), .int g_lw, .int g_we, .int g_cu, .int g_go, .int g_ba, .ref (g 12), .ref (g 13), .int u.1, .ref (g 14), .ref (g 15), .long u.2.1, .int g_sb, .int g_ab, .int g_al, .ref (g 16), .ref (g 17)])), ((g 7), .inl (cI, 35, .inl hs)), ((g 10), .inl (cI, 450, .inl ac)), ((g 12), .inl (cI, 5, .inl om)), ((g 13), .inl (cI, 5, .inl lk)), ((g 14), .inl (cJ, 6, .inr (.inl u.2.2.1))), ((g 15), .inl (cJ, 5, .inr (.inl u.2.2.2)))]) A) ([.ref (g 0), .int p0] : List Value).toArray s 0 0 A) (F0 m 46 ls []) := by
          intro d
          induction d with
          | zero => intro v_435 v_436 H locs ls hI hM; exfalso; exact absurd hM (Nat.not_lt_zero _)
          | succ d ih_495 =>
            intro v_435 v_436 H locs ls hI hM hP hD hS hl
            obtain ⟨hI_496, hI_497, hI_498⟩ := hI
            refine lv_iload hx hb dX9_laysDay_46 (lv_at hl 0 rfl) ?_
            refine lv_aload_n hx hb dX9_laysDay_48 rfl (lv_at hl 2 rfl) ?_
            refine va_get (D := (dC, dI)) (ci := 9) (v := .int wv_11) (C := RX9) (T := TX9) (N := 38) hx hb ht iX9 hown hK hP 0 rfl rfl 29 (by decide) (ht _ w_1291) (fun _ h9 => h9) rfl dX9_laysDay_49 ?_
            refine lv_icmp_ge (tgt := 72) hx hb dX9_laysDay_52 (by decide) (fun c_499 => ?_) (fun c_499 => ?_)
            · (try simp only [i_lt, i_le, i_eq] at c_499)
              refine lv_lconst (v := 0) hx hb dX9_laysDay_72 (by decide) ?_
              refine lv_lstore (lv' := [(4, .long 0), (2, .long v_435), (0, .ref (g 0)), (1, .int p0)]) hx hb dX9_laysDay_73 hl (by decide) rfl (fun ls hl => ?_)
              refine lv_aload_n hx hb dX9_laysDay_75 rfl (lv_at hl 2 rfl) ?_
              refine va_get (D := (dC, dI)) (ci := 9) (v := .int wv_11) (C := RX9) (T := TX9) (N := 38) hx hb ht iX9 hown hK hP 0 rfl rfl 29 (by decide) (ht _ w_1291) (fun _ h9 => h9) rfl dX9_laysDay_76 ?_
              refine lv_iconst (v := 1) hx hb dX9_laysDay_79 (by decide) ?_
              refine lv_isub hx hb dX9_laysDay_80 ?_
              refine lv_topi (fun y_500 ey_500 => ?_)
              have ty_500 := isubF ey_500
              simp only [T1] at ty_500
              clear ey_500
              refine lv_istore (lv' := [(6, .int y_500), (4, .long 0), (2, .long v_435), (0, .ref (g 0)), (1, .int p0)]) hx hb dX9_laysDay_81 hl (by decide) rfl (fun ls hl => ?_)
              have lp_532 : ∀ (d : Nat) (v_514 : Int64) (v_515 : Int64) (v_516 : Int32) (wv_517 : Nat → Int64) (wv_518 : Nat → Int64) (H : Heap) (locs : List Loc) (ls : Array Slot), ((-1 ≤ Int32.toInt v_516) ∧ (Int32.toInt v_516 ≤ 4) ∧ (Int32.toInt v_516 < Int32.toInt (hs 4)) ∧ (BV v_516 v_514 v_515)) → ((Int32.toInt v_516 + 1).toNat < d) → va_P (dC, dI) vwCl [((g 0), .inr (9, [.int g_th, .ref (g 1), .ref (g 2), .ref (g 3), .ref (g 4), .ref (g 5), .int g_tp, .int g_so, .int g_tk, .int g_pl, .int g_va, .long g_wo, .int g_bd, .int g_bp, .int g_fa, .int g_fp, .ref (g 6), .ref (g 7), .ref (g 8), .ref (g 9), .ref (g 10), .ref (g 11), .int g_lw, .int g_we, .int g_cu, .int g_go, .int g_ba, .ref (g 12), .ref (g 13), .int wv_11, .ref (g 14), .ref (g 15), .long g_bt, .int g_sb, .int g_ab, .int g_al, .ref (g 16), .ref (g 17)])), ((g 7), .inl (cI, 35, .inl hs)), ((g 10), .inl (cI, 450, .inl ac)), ((g 12), .inl (cI, 5, .inl om)), ((g 13), .inl (cI, 5, .inl lk)), ((g 14), .inl (cJ, 6, .inr (.inl wv_517))), ((g 15), .inl (cJ, 5, .inr (.inl wv_518)))] H → va_D A [((g 0), .inr (9, [.int g_th, .ref (g 1), .ref (g 2), .ref (g 3), .ref (g 4), .ref (g 5), .int g_tp, .int g_so, .int g_tk, .int g_pl, .int g_va, .long g_wo, .int g_bd, .int g_bp, .int g_fa, .int g_fp, .ref (g 6), .ref (g 7), .ref (g 8), .ref (g 9), .ref (g 10), .ref (g 11), .int g_lw, .int g_we, .int g_cu, .int g_go, .int g_ba, .ref (g 12), .ref (g 13), .int wv_11, .ref (g 14), .ref (g 15), .long g_bt, .int g_sb, .int g_ab, .int g_al, .ref (g 16), .ref (g 17)])), ((g 7), .inl (cI, 35, .inl hs)), ((g 10), .inl (cI, 450, .inl ac)), ((g 12), .inl (cI, 5, .inl om)), ((g 13), .inl (cI, 5, .inl lk)), ((g 14), .inl (cJ, 6, .inr (.inl wv_517))), ((g 15), .inl (cJ, 5, .inr (.inl wv_518)))] → va_S A s.heap H locs → lv_has ls 7 [(6, .int v_516), (4, .long v_515), (2, .long v_514), (0, .ref (g 0)), (1, .int p0)] → W p l e (headSpec (wy yX9_laysDay cX9_laysDay 7 none) ({ frames := 3, cells := 0, slots := 0, locals := 120 })).room s m ([.ref (g 0), .int p0] : List Value).toArray below meth c H locs 0 0 (MQ below (va_Qv (fun u => (0 ≤ Int32.toInt u.1) ∧ (Int32.toInt u.1 ≤ Int32.toInt (hs 4)) ∧ (1 ≤ Int64.toInt u.2.1)) (fun (u : (Int32) × (Int64) × (Nat → Int64) × (Nat → Int64)) t => va_P (dC, dI) vwCl [((g 0), .inr (9, [.int g_th, .ref (g 1), .ref (g 2), .ref (g 3), .ref (g 4), .ref (g 5), .int g_tp, .int g_so, .int g_tk, .int g_pl, .int g_va, .long g_wo, .int g_bd, .int g_bp, .int g_fa, .int g_fp, .ref (g 6), .ref (g 7), .ref (g 8), .ref (g 9), .ref (g 10), .ref (g 11), .int g_lw, .int g_we, .int g_cu, .int g_go, .int g_ba, .ref (g 12), .ref (g 13), .int u.1, .ref (g 14), .ref (g 15), .long u.2.1, .int g_sb, .int g_ab, .int g_al, .ref (g 16), .ref (g 17)])), ((g 7), .inl (cI, 35, .inl hs)), ((g 10), .inl (cI, 450, .inl ac)), ((g 12), .inl (cI, 5, .inl om)), ((g 13), .inl (cI, 5, .inl lk)), ((g 14), .inl (cJ, 6, .inr (.inl u.2.2.1))), ((g 15), .inl (cJ, 5, .inr (.inl u.2.2.2)))] t.heap ∧ va_D A [((g 0), .inr (9, [.int g_th, .ref (g 1), .ref (g 2), .ref (g 3), .ref (g 4), .ref (g 5), .int g_tp, .int g_so, .int g_tk, .int g_pl, .int g_va, .long g_wo, .int g_bd, .int g_bp, .int g_fa, .int g_fp, .ref (g 6), .ref (g 7), .ref (g 8), .ref (g 9), .ref (g 10), .ref (g 11), .int g_lw, .int g_we, .int g_cu, .int g_go, .int g_ba, .ref (g 12), .ref (g 13), .int u.1, .ref (g 14), .ref (g 15), .long u.2.1, .int g_sb, .int g_ab, .int g_al, .ref (g 16), .ref (g 17)])), ((g 7), .inl (cI, 35, .inl hs)), ((g 10), .inl (cI, 450, .inl ac)), ((g 12), .inl (cI, 5, .inl om)), ((g 13), .inl (cI, 5, .inl lk)), ((g 14), .inl (cJ, 6, .inr (.inl u.2.2.1))), ((g 15), .inl (cJ, 5, .inr (.inl u.2.2.2)))]) A) ([.ref (g 0), .int p0] : List Value).toArray s 0 0 A) (F0 m 83 ls []) := by
                intro d
                induction d with
                | zero => intro v_514 v_515 v_516 wv_517 wv_518 H locs ls hI hM; exfalso; exact absurd hM (Nat.not_lt_zero _)
                | succ d ih_533 =>
                  intro v_514 v_515 v_516 wv_517 wv_518 H locs ls hI hM hP hD hS hl
                  obtain ⟨hI_534, hI_535, hI_536, hI_537⟩ := hI
                  refine lv_iload hx hb dX9_laysDay_83 (lv_at hl 0 rfl) ?_
                  refine lv_if_lt (tgt := 140) hx hb dX9_laysDay_85 (by decide) (fun c_538 => ?_) (fun c_538 => ?_)
                  · (try simp only [i_lt, i_le, i_eq, T0] at c_538)
                    have hbp := hI_537.1
                    refine lv_aload_n hx hb dX9_laysDay_140 rfl (lv_at hl 3 rfl) ?_
                    refine lv_lload_n hx hb dX9_laysDay_141 rfl (lv_at hl 2 rfl) ?_
                    refine va_put (D := (dC, dI)) (ci := 9) (v := .long v_514) (ty := .long) (C := RX9) (T := TX9) (N := 38) hx hb ht iX9 tyX9 tyX9_ok nmX9 hown hK hP hD hS 0 rfl rfl 32 (by decide) (ht _ w_1294) (fun _ h9 => h9) rfl (by decide +kernel) rfl rfl (Nat.le_of_ble_eq_true rfl) dX9_laysDay_142 (fun H locs hP hD hS => ?_)
                    have hP : va_P (dC, dI) vwCl [((g 0), .inr (9, [.int g_th, .ref (g 1), .ref (g 2), .ref (g 3), .ref (g 4), .ref (g 5), .int g_tp, .int g_so, .int g_tk, .int g_pl, .int g_va, .long g_wo, .int g_bd, .int g_bp, .int g_fa, .int g_fp, .ref (g 6), .ref (g 7), .ref (g 8), .ref (g 9), .ref (g 10), .ref (g 11), .int g_lw, .int g_we, .int g_cu, .int g_go, .int g_ba, .ref (g 12), .ref (g 13), .int wv_11, .ref (g 14), .ref (g 15), .long v_514, .int g_sb, .int g_ab, .int g_al, .ref (g 16), .ref (g 17)])), ((g 7), .inl (cI, 35, .inl hs)), ((g 10), .inl (cI, 450, .inl ac)), ((g 12), .inl (cI, 5, .inl om)), ((g 13), .inl (cI, 5, .inl lk)), ((g 14), .inl (cJ, 6, .inr (.inl wv_517))), ((g 15), .inl (cJ, 5, .inr (.inl wv_518)))] H := hP
                    have hD : va_D A [((g 0), .inr (9, [.int g_th, .ref (g 1), .ref (g 2), .ref (g 3), .ref (g 4), .ref (g 5), .int g_tp, .int g_so, .int g_tk, .int g_pl, .int g_va, .long g_wo, .int g_bd, .int g_bp, .int g_fa, .int g_fp, .ref (g 6), .ref (g 7), .ref (g 8), .ref (g 9), .ref (g 10), .ref (g 11), .int g_lw, .int g_we, .int g_cu, .int g_go, .int g_ba, .ref (g 12), .ref (g 13), .int wv_11, .ref (g 14), .ref (g 15), .long v_514, .int g_sb, .int g_ab, .int g_al, .ref (g 16), .ref (g 17)])), ((g 7), .inl (cI, 35, .inl hs)), ((g 10), .inl (cI, 450, .inl ac)), ((g 12), .inl (cI, 5, .inl om)), ((g 13), .inl (cI, 5, .inl lk)), ((g 14), .inl (cJ, 6, .inr (.inl wv_517))), ((g 15), .inl (cJ, 5, .inr (.inl wv_518)))] := hD
                    have hP9 := hP.sub (ws' := [((g 0), .inr (9, [.int g_th, .ref (g 1), .ref (g 2), .ref (g 3), .ref (g 4), .ref (g 5), .int g_tp, .int g_so, .int g_tk, .int g_pl, .int g_va, .long g_wo, .int g_bd, .int g_bp, .int g_fa, .int g_fp, .ref (g 6), .ref (g 7), .ref (g 8), .ref (g 9), .ref (g 10), .ref (g 11), .int g_lw, .int g_we, .int g_cu, .int g_go, .int g_ba, .ref (g 12), .ref (g 13), .int wv_11, .ref (g 14), .ref (g 15), .long v_514, .int g_sb, .int g_ab, .int g_al, .ref (g 16), .ref (g 17)])), ((g 7), .inl (cI, 35, .inl hs)), ((g 10), .inl (cI, 450, .inl ac)), ((g 12), .inl (cI, 5, .inl om)), ((g 13), .inl (cI, 5, .inl lk)), ((g 14), .inl (cJ, 6, .inr (.inl wv_517))), ((g 15), .inl (cJ, 5, .inr (.inl wv_518)))]) [0, 1, 2, 3, 4, 5, 6] rfl
                    have hD9 := hD.sub (ws' := [((g 0), .inr (9, [.int g_th, .ref (g 1), .ref (g 2), .ref (g 3), .ref (g 4), .ref (g 5), .int g_tp, .int g_so, .int g_tk, .int g_pl, .int g_va, .long g_wo, .int g_bd, .int g_bp, .int g_fa, .int g_fp, .ref (g 6), .ref (g 7), .ref (g 8), .ref (g 9), .ref (g 10), .ref (g 11), .int g_lw, .int g_we, .int g_cu, .int g_go, .int g_ba, .ref (g 12), .ref (g 13), .int wv_11, .ref (g 14), .ref (g 15), .long v_514, .int g_sb, .int g_ab, .int g_al, .ref (g 16), .ref (g 17)])), ((g 7), .inl (cI, 35, .inl hs)), ((g 10), .inl (cI, 450, .inl ac)), ((g 12), .inl (cI, 5, .inl om)), ((g 13), .inl (cI, 5, .inl lk)), ((g 14), .inl (cJ, 6, .inr (.inl wv_517))), ((g 15), .inl (cJ, 5, .inr (.inl wv_518)))]) [0, 1, 2, 3, 4, 5, 6] (by decide) rfl
                    exact W.vret hx hb hr (fun t ht hW => ⟨⟨(wv_11, v_514, wv_517, wv_518), rfl, ⟨(by first | omega | assumption | decide | exact LK_mono (by assumption) (by omega) | exact OM_mono (by assumption) (by omega) | exact CLR_mono (by assumption) (by omega) | (have e0 := T0; have e1 := T1; have e2 := T2; have e3 := T3; have em1 := Tm1; omega) | (dsimp only; done) | (dsimp only; first | omega | assumption | decide | exact LK_mono (by assumption) (by omega) | exact OM_mono (by assumption) (by omega) | exact CLR_mono (by assumption) (by omega) | (have e0 := T0; have e1 := T1; have e2 := T2; have e3 := T3; have em1 := Tm1; omega))), (by first | omega | assumption | decide | exact LK_mono (by assumption) (by omega) | exact OM_mono (by assumption) (by omega) | exact CLR_mono (by assumption) (by omega) | (have e0 := T0; have e1 := T1; have e2 := T2; have e3 := T3; have em1 := Tm1; omega) | (dsimp only; done) | (dsimp only; first | omega | assumption | decide | exact LK_mono (by assumption) (by omega) | exact OM_mono (by assumption) (by omega) | exact CLR_mono (by assumption) (by omega) | (have e0 := T0; have e1 := T1; have e2 := T2; have e3 := T3; have em1 := Tm1; omega))), (by first | omega | assumption | decide | exact LK_mono (by assumption) (by omega) | exact OM_mono (by assumption) (by omega) | exact CLR_mono (by assumption) (by omega) | (have e0 := T0; have e1 := T1; have e2 := T2; have e3 := T3; have em1 := Tm1; omega) | (dsimp only; done) | (dsimp only; first | omega | assumption | decide | exact LK_mono (by assumption) (by omega) | exact OM_mono (by assumption) (by omega) | exact CLR_mono (by assumption) (by omega) | (have e0 := T0; have e1 := T1; have e2 := T2; have e3 := T3; have em1 := Tm1; omega)))⟩, ⟨by rw [ht]; exact hP9, hD9⟩⟩, hS.F ht⟩) hS.2.2 dX9_laysDay_145
                  · (try simp only [i_lt, i_le, i_eq, T0] at c_538)
                    refine lv_aload_n hx hb dX9_laysDay_88 rfl (lv_at hl 3 rfl) ?_
                    refine va_get (D := (dC, dI)) (ci := 9) (v := .ref (g 14)) (C := RX9) (T := TX9) (N := 38) hx hb ht iX9 hown hK hP 0 rfl rfl 30 (by decide) (ht _ w_1292) (fun _ h9 => h9) rfl dX9_laysDay_89 ?_
                    refine lv_iload hx hb dX9_laysDay_92 (lv_at hl 0 rfl) ?_
                    refine lv_lload_n hx hb dX9_laysDay_94 rfl (lv_at hl 2 rfl) ?_
                    refine va_last hx hb hK hP hD hS 5 2 rfl rfl (vp_in_iff.mpr (by omega)) dX9_laysDay_95 (fun H locs hP hD hS => ?_)
                    obtain ⟨f_539, ef_539⟩ : ∃ z : Nat → Int64, z = vp_updL wv_517 (Int32.toNatClampNeg v_516) v_514 := ⟨_, rfl⟩
                    rw [← ef_539] at hP hD
                    clear ef_539
                    have hP : va_P (dC, dI) vwCl [((g 0), .inr (9, [.int g_th, .ref (g 1), .ref (g 2), .ref (g 3), .ref (g 4), .ref (g 5), .int g_tp, .int g_so, .int g_tk, .int g_pl, .int g_va, .long g_wo, .int g_bd, .int g_bp, .int g_fa, .int g_fp, .ref (g 6), .ref (g 7), .ref (g 8), .ref (g 9), .ref (g 10), .ref (g 11), .int g_lw, .int g_we, .int g_cu, .int g_go, .int g_ba, .ref (g 12), .ref (g 13), .int wv_11, .ref (g 14), .ref (g 15), .long g_bt, .int g_sb, .int g_ab, .int g_al, .ref (g 16), .ref (g 17)])), ((g 7), .inl (cI, 35, .inl hs)), ((g 10), .inl (cI, 450, .inl ac)), ((g 12), .inl (cI, 5, .inl om)), ((g 13), .inl (cI, 5, .inl lk)), ((g 14), .inl (cJ, 6, .inr (.inl f_539))), ((g 15), .inl (cJ, 5, .inr (.inl wv_518)))] H := hP
                    have hD : va_D A [((g 0), .inr (9, [.int g_th, .ref (g 1), .ref (g 2), .ref (g 3), .ref (g 4), .ref (g 5), .int g_tp, .int g_so, .int g_tk, .int g_pl, .int g_va, .long g_wo, .int g_bd, .int g_bp, .int g_fa, .int g_fp, .ref (g 6), .ref (g 7), .ref (g 8), .ref (g 9), .ref (g 10), .ref (g 11), .int g_lw, .int g_we, .int g_cu, .int g_go, .int g_ba, .ref (g 12), .ref (g 13), .int wv_11, .ref (g 14), .ref (g 15), .long g_bt, .int g_sb, .int g_ab, .int g_al, .ref (g 16), .ref (g 17)])), ((g 7), .inl (cI, 35, .inl hs)), ((g 10), .inl (cI, 450, .inl ac)), ((g 12), .inl (cI, 5, .inl om)), ((g 13), .inl (cI, 5, .inl lk)), ((g 14), .inl (cJ, 6, .inr (.inl f_539))), ((g 15), .inl (cJ, 5, .inr (.inl wv_518)))] := hD
                    refine lv_lload hx hb dX9_laysDay_96 (lv_at hl 1 rfl) ?_
                    refine lv_lload_n hx hb dX9_laysDay_98 rfl (lv_at hl 2 rfl) ?_
                    refine lv_aload_n hx hb dX9_laysDay_99 rfl (lv_at hl 3 rfl) ?_
                    refine lv_iload hx hb dX9_laysDay_100 (lv_at hl 0 rfl) ?_
                    refine lv_iload_n hx hb dX9_laysDay_102 rfl (lv_at hl 4 rfl) ?_
                    have hPc := hP.sub (ws' := [((g 0), .inr (9, [.int g_th, .ref (g 1), .ref (g 2), .ref (g 3), .ref (g 4), .ref (g 5), .int g_tp, .int g_so, .int g_tk, .int g_pl, .int g_va, .long g_wo, .int g_bd, .int g_bp, .int g_fa, .int g_fp, .ref (g 6), .ref (g 7), .ref (g 8), .ref (g 9), .ref (g 10), .ref (g 11), .int g_lw, .int g_we, .int g_cu, .int g_go, .int g_ba, .ref (g 12), .ref (g 13), .int wv_11, .ref (g 14), .ref (g 15), .long g_bt, .int g_sb, .int g_ab, .int g_al, .ref (g 16), .ref (g 17)])), ((g 7), .inl (cI, 35, .inl hs)), ((g 10), .inl (cI, 450, .inl ac)), ((g 13), .inl (cI, 5, .inl lk))]) [0, 1, 2, 4] rfl
                    refine vp_callSi (W.runV (As := [.int v_516, .int p0]) (rest := [.long v_514, .long v_515]) ⟨hx, hb, hml, hown, ht⟩ (s_X9_leakOf l dC dI cB cI cJ cZ cL g g_th g_tp g_so g_tk g_pl g_va g_wo g_bd g_bp g_fa g_fp g_lw g_we g_cu g_go g_ba wv_11 g_bt g_sb g_ab g_al hs ac lk v_516 p0 (by first | assumption | omega | decide | (simp only [T0, T1, T2, T3, Tm1]; omega)) (by first | assumption | omega | decide | (simp only [T0, T1, T2, T3, Tm1]; omega)) (by first | assumption | omega | decide | (simp only [T0, T1, T2, T3, Tm1]; omega)) (by first | assumption | omega | decide | (simp only [T0, T1, T2, T3, Tm1]; omega)) (by first | assumption | omega | decide | (simp only [T0, T1, T2, T3, Tm1]; omega))) (cwV 2 ht (gV w_1562 w_1564 w_74 w_114 w_1565) rfl rfl rfl (by decide +kernel) ⟨Nat.le_of_ble_eq_true rfl, Nat.le_of_ble_eq_true rfl⟩) (pVSn hN hK hPc (ci := 9) (q0 := 0) rfl rfl) rfl rfl hl.1 rfl (lv_room (Nat.le_of_ble_eq_true rfl)) dX9_laysDay_103 ⟨Nat.le_of_ble_eq_true rfl, Nat.le_of_ble_eq_true rfl⟩) (fun r_540 hw => ?_)
                    clear hPc
                    (try dsimp only at hw)
                    have hw_541 := hw
                    clear hw
                    obtain ⟨hw_541_0, hw_541_1⟩ := hw_541
                    refine lv_i2l hx hb dX9_laysDay_106 rfl ?_
                    refine lv_topl (fun y_542 ey_542 => ?_)
                    have ty_542 := i2lF ey_542
                    clear ey_542
                    refine lv_ldiv hx hb dX9_laysDay_107 (by rw [l_eq]; simp only [L0]; omega) ?_
                    refine lv_topl (fun y_543 ey_543 => ?_)
                    refine lv_ladd hx hb dX9_laysDay_108 ?_
                    refine lv_topl (fun y_544 ey_544 => ?_)
                    have ty_544 := laddF ey_544
                    refine lv_lstore (lv' := [(4, .long y_544), (6, .int v_516), (2, .long v_514), (0, .ref (g 0)), (1, .int p0)]) hx hb dX9_laysDay_109 hl (by decide) rfl (fun ls hl => ?_)
                    refine lv_aload_n hx hb dX9_laysDay_111 rfl (lv_at hl 3 rfl) ?_
                    refine va_get (D := (dC, dI)) (ci := 9) (v := .ref (g 15)) (C := RX9) (T := TX9) (N := 38) hx hb ht iX9 hown hK hP 0 rfl rfl 31 (by decide) (ht _ w_1293) (fun _ h9 => h9) rfl dX9_laysDay_112 ?_
                    refine lv_iload hx hb dX9_laysDay_115 (lv_at hl 1 rfl) ?_
                    refine lv_lload hx hb dX9_laysDay_117 (lv_at hl 0 rfl) ?_
                    refine va_last hx hb hK hP hD hS 6 2 rfl rfl (vp_in_iff.mpr (by omega)) dX9_laysDay_119 (fun H locs hP hD hS => ?_)
                    obtain ⟨f_545, ef_545⟩ : ∃ z : Nat → Int64, z = vp_updL wv_518 (Int32.toNatClampNeg v_516) y_544 := ⟨_, rfl⟩
                    rw [← ef_545] at hP hD
                    clear ef_545
                    have hP : va_P (dC, dI) vwCl [((g 0), .inr (9, [.int g_th, .ref (g 1), .ref (g 2), .ref (g 3), .ref (g 4), .ref (g 5), .int g_tp, .int g_so, .int g_tk, .int g_pl, .int g_va, .long g_wo, .int g_bd, .int g_bp, .int g_fa, .int g_fp, .ref (g 6), .ref (g 7), .ref (g 8), .ref (g 9), .ref (g 10), .ref (g 11), .int g_lw, .int g_we, .int g_cu, .int g_go, .int g_ba, .ref (g 12), .ref (g 13), .int wv_11, .ref (g 14), .ref (g 15), .long g_bt, .int g_sb, .int g_ab, .int g_al, .ref (g 16), .ref (g 17)])), ((g 7), .inl (cI, 35, .inl hs)), ((g 10), .inl (cI, 450, .inl ac)), ((g 12), .inl (cI, 5, .inl om)), ((g 13), .inl (cI, 5, .inl lk)), ((g 14), .inl (cJ, 6, .inr (.inl f_539))), ((g 15), .inl (cJ, 5, .inr (.inl f_545)))] H := hP
                    have hD : va_D A [((g 0), .inr (9, [.int g_th, .ref (g 1), .ref (g 2), .ref (g 3), .ref (g 4), .ref (g 5), .int g_tp, .int g_so, .int g_tk, .int g_pl, .int g_va, .long g_wo, .int g_bd, .int g_bp, .int g_fa, .int g_fp, .ref (g 6), .ref (g 7), .ref (g 8), .ref (g 9), .ref (g 10), .ref (g 11), .int g_lw, .int g_we, .int g_cu, .int g_go, .int g_ba, .ref (g 12), .ref (g 13), .int wv_11, .ref (g 14), .ref (g 15), .long g_bt, .int g_sb, .int g_ab, .int g_al, .ref (g 16), .ref (g 17)])), ((g 7), .inl (cI, 35, .inl hs)), ((g 10), .inl (cI, 450, .inl ac)), ((g 12), .inl (cI, 5, .inl om)), ((g 13), .inl (cI, 5, .inl lk)), ((g 14), .inl (cJ, 6, .inr (.inl f_539))), ((g 15), .inl (cJ, 5, .inr (.inl f_545)))] := hD
                    refine lv_lload_n hx hb dX9_laysDay_120 rfl (lv_at hl 2 rfl) ?_
                    refine lv_aload_n hx hb dX9_laysDay_121 rfl (lv_at hl 3 rfl) ?_
                    refine va_get (D := (dC, dI)) (ci := 9) (v := .ref (g 12)) (C := RX9) (T := TX9) (N := 38) hx hb ht iX9 hown hK hP 0 rfl rfl 27 (by decide) (ht _ w_1289) (fun _ h9 => h9) rfl dX9_laysDay_122 ?_
                    refine lv_iload hx hb dX9_laysDay_125 (lv_at hl 1 rfl) ?_
                    refine va_iald hx hb hK hP 3 1 rfl rfl (vp_in_iff.mpr (by omega)) dX9_laysDay_127 ?_
                    refine lv_topi (fun y_546 ey_546 => ?_)
                    have ry_546 := OM_at hom (x := v_516) (by omega) (by omega)
                    rw [← ey_546] at ry_546
                    refine lv_i2l hx hb dX9_laysDay_128 rfl ?_
                    refine lv_topl (fun y_547 ey_547 => ?_)
                    have ty_547 := i2lF ey_547
                    clear ey_547
                    refine lv_lload hx hb dX9_laysDay_129 (lv_at hl 0 rfl) ?_
                    refine lv_lmul hx hb dX9_laysDay_131 ?_
                    refine lv_topl (fun y_548 ey_548 => ?_)
                    refine lv_ladd hx hb dX9_laysDay_132 ?_
                    refine lv_topl (fun y_549 ey_549 => ?_)
                    have ty_549 := laddF ey_549
                    refine lv_lstore_n (lv' := [(2, .long y_549), (4, .long y_544), (6, .int v_516), (0, .ref (g 0)), (1, .int p0)]) hx hb dX9_laysDay_133 rfl hl (by decide) rfl (fun ls hl => ?_)
                    obtain ⟨y_550, ey_550⟩ : ∃ z : Int32, z = v_516 + (-1) := ⟨_, rfl⟩
                    have ty_550 := iaddF ey_550
                    simp only [Tm1] at ty_550
                    refine lv_iinc (v := y_550) (lv' := [(6, .int y_550), (2, .long y_549), (4, .long y_544), (0, .ref (g 0)), (1, .int p0)]) hx hb dX9_laysDay_134 hl (k := 2) rfl (by rw [ey_550]; rfl) (by decide) rfl (fun ls hl => ?_)
                    clear ey_550
                    have hbv := BV_step hI_537 (by omega) (by omega) (k1 := y_550) (by omega) (y := y_542) (by omega) (o := y_547) (by omega) ey_543 ey_544 ey_548 ey_549
                    refine lv_goto (tgt := 83) hx hb dX9_laysDay_137 (by decide) ?_
                    exact ih_533 y_549 y_544 y_550 f_539 f_545 _ _ _ ⟨(by first | omega | assumption | decide | exact LK_0 | exact OM_0 | exact CE_0 | exact SZI_0 | exact CLR_0 | exact CP_0 | exact PV_0 | exact BV_0 (by assumption) (by omega) (by omega) | exact LK_mono (by assumption) (by omega) | exact OM_mono (by assumption) (by omega) | exact CE_mono (by assumption) (by omega) | exact CLR_mono (by assumption) (by omega) | exact CP_mono (by assumption) (by omega) | (have e0 := T0; have e1 := T1; have e2 := T2; have em1 := Tm1; omega)), (by first | omega | assumption | decide | exact LK_0 | exact OM_0 | exact CE_0 | exact SZI_0 | exact CLR_0 | exact CP_0 | exact PV_0 | exact BV_0 (by assumption) (by omega) (by omega) | exact LK_mono (by assumption) (by omega) | exact OM_mono (by assumption) (by omega) | exact CE_mono (by assumption) (by omega) | exact CLR_mono (by assumption) (by omega) | exact CP_mono (by assumption) (by omega) | (have e0 := T0; have e1 := T1; have e2 := T2; have em1 := Tm1; omega)), (by first | omega | assumption | decide | exact LK_0 | exact OM_0 | exact CE_0 | exact SZI_0 | exact CLR_0 | exact CP_0 | exact PV_0 | exact BV_0 (by assumption) (by omega) (by omega) | exact LK_mono (by assumption) (by omega) | exact OM_mono (by assumption) (by omega) | exact CE_mono (by assumption) (by omega) | exact CLR_mono (by assumption) (by omega) | exact CP_mono (by assumption) (by omega) | (have e0 := T0; have e1 := T1; have e2 := T2; have em1 := Tm1; omega)), (by first | omega | assumption | decide | exact LK_0 | exact OM_0 | exact CE_0 | exact SZI_0 | exact CLR_0 | exact CP_0 | exact PV_0 | exact BV_0 (by assumption) (by omega) (by omega) | exact LK_mono (by assumption) (by omega) | exact OM_mono (by assumption) (by omega) | exact CE_mono (by assumption) (by omega) | exact CLR_mono (by assumption) (by omega) | exact CP_mono (by assumption) (by omega) | (have e0 := T0; have e1 := T1; have e2 := T2; have em1 := Tm1; omega))⟩ (by omega) (hP.sub (ws' := [((g 0), .inr (9, [.int g_th, .ref (g 1), .ref (g 2), .ref (g 3), .ref (g 4), .ref (g 5), .int g_tp, .int g_so, .int g_tk, .int g_pl, .int g_va, .long g_wo, .int g_bd, .int g_bp, .int g_fa, .int g_fp, .ref (g 6), .ref (g 7), .ref (g 8), .ref (g 9), .ref (g 10), .ref (g 11), .int g_lw, .int g_we, .int g_cu, .int g_go, .int g_ba, .ref (g 12), .ref (g 13), .int wv_11, .ref (g 14), .ref (g 15), .long g_bt, .int g_sb, .int g_ab, .int g_al, .ref (g 16), .ref (g 17)])), ((g 7), .inl (cI, 35, .inl hs)), ((g 10), .inl (cI, 450, .inl ac)), ((g 12), .inl (cI, 5, .inl om)), ((g 13), .inl (cI, 5, .inl lk)), ((g 14), .inl (cJ, 6, .inr (.inl f_539))), ((g 15), .inl (cJ, 5, .inr (.inl f_545)))]) [0, 1, 2, 3, 4, 5, 6] rfl) (hD.sub (ws' := [((g 0), .inr (9, [.int g_th, .ref (g 1), .ref (g 2), .ref (g 3), .ref (g 4), .ref (g 5), .int g_tp, .int g_so, .int g_tk, .int g_pl, .int g_va, .long g_wo, .int g_bd, .int g_bp, .int g_fa, .int g_fp, .ref (g 6), .ref (g 7), .ref (g 8), .ref (g 9), .ref (g 10), .ref (g 11), .int g_lw, .int g_we, .int g_cu, .int g_go, .int g_ba, .ref (g 12), .ref (g 13), .int wv_11, .ref (g 14), .ref (g 15), .long g_bt, .int g_sb, .int g_ab, .int g_al, .ref (g 16), .ref (g 17)])), ((g 7), .inl (cI, 35, .inl hs)), ((g 10), .inl (cI, 450, .inl ac)), ((g 12), .inl (cI, 5, .inl om)), ((g 13), .inl (cI, 5, .inl lk)), ((g 14), .inl (cJ, 6, .inr (.inl f_539))), ((g 15), .inl (cJ, 5, .inr (.inl f_545)))]) [0, 1, 2, 3, 4, 5, 6] (by decide) rfl) hS (lv_sub hl [0, 2, 1, 3, 4] rfl)
              exact lp_532 _ v_435 0 y_500 pa fl _ _ _ ⟨(by first | omega | assumption | decide | exact LK_0 | exact OM_0 | exact CE_0 | exact SZI_0 | exact CLR_0 | exact CP_0 | exact PV_0 | exact BV_0 (by assumption) (by omega) (by omega) | exact LK_mono (by assumption) (by omega) | exact OM_mono (by assumption) (by omega) | exact CE_mono (by assumption) (by omega) | exact CLR_mono (by assumption) (by omega) | exact CP_mono (by assumption) (by omega) | (have e0 := T0; have e1 := T1; have e2 := T2; have em1 := Tm1; omega)), (by first | omega | assumption | decide | exact LK_0 | exact OM_0 | exact CE_0 | exact SZI_0 | exact CLR_0 | exact CP_0 | exact PV_0 | exact BV_0 (by assumption) (by omega) (by omega) | exact LK_mono (by assumption) (by omega) | exact OM_mono (by assumption) (by omega) | exact CE_mono (by assumption) (by omega) | exact CLR_mono (by assumption) (by omega) | exact CP_mono (by assumption) (by omega) | (have e0 := T0; have e1 := T1; have e2 := T2; have em1 := Tm1; omega)), (by first | omega | assumption | decide | exact LK_0 | exact OM_0 | exact CE_0 | exact SZI_0 | exact CLR_0 | exact CP_0 | exact PV_0 | exact BV_0 (by assumption) (by omega) (by omega) | exact LK_mono (by assumption) (by omega) | exact OM_mono (by assumption) (by omega) | exact CE_mono (by assumption) (by omega) | exact CLR_mono (by assumption) (by omega) | exact CP_mono (by assumption) (by omega) | (have e0 := T0; have e1 := T1; have e2 := T2; have em1 := Tm1; omega)), (by first | omega | assumption | decide | exact LK_0 | exact OM_0 | exact CE_0 | exact SZI_0 | exact CLR_0 | exact CP_0 | exact PV_0 | exact BV_0 (by assumption) (by omega) (by omega) | exact LK_mono (by assumption) (by omega) | exact OM_mono (by assumption) (by omega) | exact CE_mono (by assumption) (by omega) | exact CLR_mono (by assumption) (by omega) | exact CP_mono (by assumption) (by omega) | (have e0 := T0; have e1 := T1; have e2 := T2; have em1 := Tm1; omega))⟩ (Nat.lt_succ_self _) hP hD hS (lv_sub hl [0, 1, 2, 3, 4] rfl)
            · (try simp only [i_lt, i_le, i_eq] at c_499)
              refine lv_lload_n hx hb dX9_laysDay_55 rfl (lv_at hl 1 rfl) ?_
              refine lv_aload_n hx hb dX9_laysDay_56 rfl (lv_at hl 2 rfl) ?_
              refine lv_iload hx hb dX9_laysDay_57 (lv_at hl 0 rfl) ?_
              refine lv_iload_n hx hb dX9_laysDay_59 rfl (lv_at hl 3 rfl) ?_
              have hPc := hP.sub (ws' := [((g 0), .inr (9, [.int g_th, .ref (g 1), .ref (g 2), .ref (g 3), .ref (g 4), .ref (g 5), .int g_tp, .int g_so, .int g_tk, .int g_pl, .int g_va, .long g_wo, .int g_bd, .int g_bp, .int g_fa, .int g_fp, .ref (g 6), .ref (g 7), .ref (g 8), .ref (g 9), .ref (g 10), .ref (g 11), .int g_lw, .int g_we, .int g_cu, .int g_go, .int g_ba, .ref (g 12), .ref (g 13), .int wv_11, .ref (g 14), .ref (g 15), .long g_bt, .int g_sb, .int g_ab, .int g_al, .ref (g 16), .ref (g 17)])), ((g 7), .inl (cI, 35, .inl hs)), ((g 10), .inl (cI, 450, .inl ac)), ((g 13), .inl (cI, 5, .inl lk))]) [0, 1, 2, 4] rfl
              refine vp_callSi (W.runV (As := [.int v_436, .int p0]) (rest := [.long v_435]) ⟨hx, hb, hml, hown, ht⟩ (s_X9_leakOf l dC dI cB cI cJ cZ cL g g_th g_tp g_so g_tk g_pl g_va g_wo g_bd g_bp g_fa g_fp g_lw g_we g_cu g_go g_ba wv_11 g_bt g_sb g_ab g_al hs ac lk v_436 p0 (by first | assumption | omega | decide | (simp only [T0, T1, T2, T3, Tm1]; omega)) (by first | assumption | omega | decide | (simp only [T0, T1, T2, T3, Tm1]; omega)) (by first | assumption | omega | decide | (simp only [T0, T1, T2, T3, Tm1]; omega)) (by first | assumption | omega | decide | (simp only [T0, T1, T2, T3, Tm1]; omega)) (by first | assumption | omega | decide | (simp only [T0, T1, T2, T3, Tm1]; omega))) (cwV 2 ht (gV w_1562 w_1564 w_74 w_114 w_1565) rfl rfl rfl (by decide +kernel) ⟨Nat.le_of_ble_eq_true rfl, Nat.le_of_ble_eq_true rfl⟩) (pVSn hN hK hPc (ci := 9) (q0 := 0) rfl rfl) rfl rfl hl.1 rfl (lv_room (Nat.le_of_ble_eq_true rfl)) dX9_laysDay_60 ⟨Nat.le_of_ble_eq_true rfl, Nat.le_of_ble_eq_true rfl⟩) (fun r_551 hw => ?_)
              clear hPc
              (try dsimp only at hw)
              have hw_552 := hw
              clear hw
              obtain ⟨hw_552_0, hw_552_1⟩ := hw_552
              refine lv_i2l hx hb dX9_laysDay_63 rfl ?_
              refine lv_topl (fun y_553 ey_553 => ?_)
              have ty_553 := i2lF ey_553
              clear ey_553
              refine lv_lmul hx hb dX9_laysDay_64 ?_
              refine lv_topl (fun y_554 ey_554 => ?_)
              refine lv_lstore_n (lv' := [(2, .long y_554), (4, .int v_436), (0, .ref (g 0)), (1, .int p0)]) hx hb dX9_laysDay_65 rfl hl (by decide) rfl (fun ls hl => ?_)
              obtain ⟨y_555, ey_555⟩ : ∃ z : Int32, z = v_436 + 1 := ⟨_, rfl⟩
              have ty_555 := iaddF ey_555
              simp only [T1] at ty_555
              refine lv_iinc (v := y_555) (lv' := [(4, .int y_555), (2, .long y_554), (0, .ref (g 0)), (1, .int p0)]) hx hb dX9_laysDay_66 hl (k := 1) rfl (by rw [ey_555]; rfl) (by decide) rfl (fun ls hl => ?_)
              clear ey_555
              have hpv := PV_step hI_498 (by omega) (by omega) (k1 := y_555) (by omega) (y := y_553) (by omega) ey_554
              refine lv_goto (tgt := 46) hx hb dX9_laysDay_69 (by decide) ?_
              exact ih_495 y_554 y_555 _ _ _ ⟨(by first | omega | assumption | decide | exact LK_0 | exact OM_0 | exact CE_0 | exact SZI_0 | exact CLR_0 | exact CP_0 | exact PV_0 | exact BV_0 (by assumption) (by omega) (by omega) | exact LK_mono (by assumption) (by omega) | exact OM_mono (by assumption) (by omega) | exact CE_mono (by assumption) (by omega) | exact CLR_mono (by assumption) (by omega) | exact CP_mono (by assumption) (by omega) | (have e0 := T0; have e1 := T1; have e2 := T2; have em1 := Tm1; omega)), (by first | omega | assumption | decide | exact LK_0 | exact OM_0 | exact CE_0 | exact SZI_0 | exact CLR_0 | exact CP_0 | exact PV_0 | exact BV_0 (by assumption) (by omega) (by omega) | exact LK_mono (by assumption) (by omega) | exact OM_mono (by assumption) (by omega) | exact CE_mono (by assumption) (by omega) | exact CLR_mono (by assumption) (by omega) | exact CP_mono (by assumption) (by omega) | (have e0 := T0; have e1 := T1; have e2 := T2; have em1 := Tm1; omega)), (by first | omega | assumption | decide | exact LK_0 | exact OM_0 | exact CE_0 | exact SZI_0 | exact CLR_0 | exact CP_0 | exact PV_0 | exact BV_0 (by assumption) (by omega) (by omega) | exact LK_mono (by assumption) (by omega) | exact OM_mono (by assumption) (by omega) | exact CE_mono (by assumption) (by omega) | exact CLR_mono (by assumption) (by omega) | exact CP_mono (by assumption) (by omega) | (have e0 := T0; have e1 := T1; have e2 := T2; have em1 := Tm1; omega))⟩ (by omega) (hP.sub (ws' := [((g 0), .inr (9, [.int g_th, .ref (g 1), .ref (g 2), .ref (g 3), .ref (g 4), .ref (g 5), .int g_tp, .int g_so, .int g_tk, .int g_pl, .int g_va, .long g_wo, .int g_bd, .int g_bp, .int g_fa, .int g_fp, .ref (g 6), .ref (g 7), .ref (g 8), .ref (g 9), .ref (g 10), .ref (g 11), .int g_lw, .int g_we, .int g_cu, .int g_go, .int g_ba, .ref (g 12), .ref (g 13), .int wv_11, .ref (g 14), .ref (g 15), .long g_bt, .int g_sb, .int g_ab, .int g_al, .ref (g 16), .ref (g 17)])), ((g 7), .inl (cI, 35, .inl hs)), ((g 10), .inl (cI, 450, .inl ac)), ((g 12), .inl (cI, 5, .inl om)), ((g 13), .inl (cI, 5, .inl lk)), ((g 14), .inl (cJ, 6, .inr (.inl pa))), ((g 15), .inl (cJ, 5, .inr (.inl fl)))]) [0, 1, 2, 3, 4, 5, 6] rfl) (hD.sub (ws' := [((g 0), .inr (9, [.int g_th, .ref (g 1), .ref (g 2), .ref (g 3), .ref (g 4), .ref (g 5), .int g_tp, .int g_so, .int g_tk, .int g_pl, .int g_va, .long g_wo, .int g_bd, .int g_bp, .int g_fa, .int g_fp, .ref (g 6), .ref (g 7), .ref (g 8), .ref (g 9), .ref (g 10), .ref (g 11), .int g_lw, .int g_we, .int g_cu, .int g_go, .int g_ba, .ref (g 12), .ref (g 13), .int wv_11, .ref (g 14), .ref (g 15), .long g_bt, .int g_sb, .int g_ab, .int g_al, .ref (g 16), .ref (g 17)])), ((g 7), .inl (cI, 35, .inl hs)), ((g 10), .inl (cI, 450, .inl ac)), ((g 12), .inl (cI, 5, .inl om)), ((g 13), .inl (cI, 5, .inl lk)), ((g 14), .inl (cJ, 6, .inr (.inl pa))), ((g 15), .inl (cJ, 5, .inr (.inl fl)))]) [0, 1, 2, 3, 4, 5, 6] (by decide) rfl) hS (lv_sub hl [0, 1, 2, 3] rfl)
        exact lp_494 _ 1 0 _ _ _ ⟨(by first | omega | assumption | decide | exact LK_0 | exact OM_0 | exact CE_0 | exact SZI_0 | exact CLR_0 | exact CP_0 | exact PV_0 | exact BV_0 (by assumption) (by omega) (by omega) | exact LK_mono (by assumption) (by omega) | exact OM_mono (by assumption) (by omega) | exact CE_mono (by assumption) (by omega) | exact CLR_mono (by assumption) (by omega) | exact CP_mono (by assumption) (by omega) | (have e0 := T0; have e1 := T1; have e2 := T2; have em1 := Tm1; omega)), (by first | omega | assumption | decide | exact LK_0 | exact OM_0 | exact CE_0 | exact SZI_0 | exact CLR_0 | exact CP_0 | exact PV_0 | exact BV_0 (by assumption) (by omega) (by omega) | exact LK_mono (by assumption) (by omega) | exact OM_mono (by assumption) (by omega) | exact CE_mono (by assumption) (by omega) | exact CLR_mono (by assumption) (by omega) | exact CP_mono (by assumption) (by omega) | (have e0 := T0; have e1 := T1; have e2 := T2; have em1 := Tm1; omega)), (by first | omega | assumption | decide | exact LK_0 | exact OM_0 | exact CE_0 | exact SZI_0 | exact CLR_0 | exact CP_0 | exact PV_0 | exact BV_0 (by assumption) (by omega) (by omega) | exact LK_mono (by assumption) (by omega) | exact OM_mono (by assumption) (by omega) | exact CE_mono (by assumption) (by omega) | exact CLR_mono (by assumption) (by omega) | exact CP_mono (by assumption) (by omega) | (have e0 := T0; have e1 := T1; have e2 := T2; have em1 := Tm1; omega))⟩ (Nat.lt_succ_self _) hP hD hS (lv_sub hl [0, 1, 2, 3] rfl)
      · (try simp only [i_lt, i_le, i_eq] at c_378)
        refine lv_aload_n hx hb dX9_laysDay_16 rfl (lv_at hl 0 rfl) ?_
        refine lv_aload_n hx hb dX9_laysDay_17 rfl (lv_at hl 0 rfl) ?_
        refine va_get (D := (dC, dI)) (ci := 9) (v := .int wv_11) (C := RX9) (T := TX9) (N := 38) hx hb ht iX9 hown hK hP 0 rfl rfl 29 (by decide) (ht _ w_1291) (fun _ h9 => h9) rfl dX9_laysDay_18 ?_
        refine lv_iload_n hx hb dX9_laysDay_21 rfl (lv_at hl 1 rfl) ?_
        have hPc := hP.sub (ws' := [((g 0), .inr (9, [.int g_th, .ref (g 1), .ref (g 2), .ref (g 3), .ref (g 4), .ref (g 5), .int g_tp, .int g_so, .int g_tk, .int g_pl, .int g_va, .long g_wo, .int g_bd, .int g_bp, .int g_fa, .int g_fp, .ref (g 6), .ref (g 7), .ref (g 8), .ref (g 9), .ref (g 10), .ref (g 11), .int g_lw, .int g_we, .int g_cu, .int g_go, .int g_ba, .ref (g 12), .ref (g 13), .int wv_11, .ref (g 14), .ref (g 15), .long g_bt, .int g_sb, .int g_ab, .int g_al, .ref (g 16), .ref (g 17)])), ((g 7), .inl (cI, 35, .inl hs)), ((g 10), .inl (cI, 450, .inl ac))]) [0, 1, 2] rfl
        refine vp_callSi (W.runV (As := [.int wv_11, .int p0]) (rest := []) ⟨hx, hb, hml, hown, ht⟩ (s_X9_isBroken l dC dI cB cI cJ cZ cL g g_th g_tp g_so g_tk g_pl g_va g_wo g_bd g_bp g_fa g_fp g_lw g_we g_cu g_go g_ba wv_11 g_bt g_sb g_ab g_al hs ac wv_11 p0 (by first | assumption | omega | decide | (simp only [T0, T1, T2, T3, Tm1]; omega))) (cwV 2 ht (gV w_1584 w_1586 w_77 w_114 w_1587) rfl rfl rfl (by decide +kernel) ⟨Nat.le_of_ble_eq_true rfl, Nat.le_of_ble_eq_true rfl⟩) (pVSn hN hK hPc (ci := 9) (q0 := 0) rfl rfl) rfl rfl hl.1 rfl (lv_room (Nat.le_of_ble_eq_true rfl)) dX9_laysDay_22 ⟨Nat.le_of_ble_eq_true rfl, Nat.le_of_ble_eq_true rfl⟩) (fun r_556 hw => ?_)
        clear hPc
        clear hw
        refine lv_if_ne (tgt := 41) hx hb dX9_laysDay_25 (by decide) (fun c_557 => ?_) (fun c_557 => ?_)
        · (try simp only [i_lt, i_le, i_eq, T0] at c_557)
          refine lv_lconst (v := 1) hx hb dX9_laysDay_41 (by decide) ?_
          refine lv_lstore_n (lv' := [(2, .long 1), (0, .ref (g 0)), (1, .int p0)]) hx hb dX9_laysDay_42 rfl hl (by decide) rfl (fun ls hl => ?_)
          refine lv_iconst (v := 0) hx hb dX9_laysDay_43 (by decide) ?_
          refine lv_istore (lv' := [(4, .int 0), (2, .long 1), (0, .ref (g 0)), (1, .int p0)]) hx hb dX9_laysDay_44 hl (by decide) rfl (fun ls hl => ?_)
          have lp_673 : ∀ (d : Nat) (v_614 : Int64) (v_615 : Int32) (H : Heap) (locs : List Loc) (ls : Array Slot), ((0 ≤ Int32.toInt v_615) ∧ (Int32.toInt v_615 ≤ Int32.toInt wv_11) ∧ (PV v_615 v_614)) → ((10 - Int32.toInt v_615).toNat < d) → va_P (dC, dI) vwCl [((g 0), .inr (9, [.int g_th, .ref (g 1), .ref (g 2), .ref (g 3), .ref (g 4), .ref (g 5), .int g_tp, .int g_so, .int g_tk, .int g_pl, .int g_va, .long g_wo, .int g_bd, .int g_bp, .int g_fa, .int g_fp, .ref (g 6), .ref (g 7), .ref (g 8), .ref (g 9), .ref (g 10), .ref (g 11), .int g_lw, .int g_we, .int g_cu, .int g_go, .int g_ba, .ref (g 12), .ref (g 13), .int wv_11, .ref (g 14), .ref (g 15), .long g_bt, .int g_sb, .int g_ab, .int g_al, .ref (g 16), .ref (g 17)])), ((g 7), .inl (cI, 35, .inl hs)), ((g 10), .inl (cI, 450, .inl ac)), ((g 12), .inl (cI, 5, .inl om)), ((g 13), .inl (cI, 5, .inl lk)), ((g 14), .inl (cJ, 6, .inr (.inl pa))), ((g 15), .inl (cJ, 5, .inr (.inl fl)))] H → va_D A [((g 0), .inr (9, [.int g_th, .ref (g 1), .ref (g 2), .ref (g 3), .ref (g 4), .ref (g 5), .int g_tp, .int g_so, .int g_tk, .int g_pl, .int g_va, .long g_wo, .int g_bd, .int g_bp, .int g_fa, .int g_fp, .ref (g 6), .ref (g 7), .ref (g 8), .ref (g 9), .ref (g 10), .ref (g 11), .int g_lw, .int g_we, .int g_cu, .int g_go, .int g_ba, .ref (g 12), .ref (g 13), .int wv_11, .ref (g 14), .ref (g 15), .long g_bt, .int g_sb, .int g_ab, .int g_al, .ref (g 16), .ref (g 17)])), ((g 7), .inl (cI, 35, .inl hs)), ((g 10), .inl (cI, 450, .inl ac)), ((g 12), .inl (cI, 5, .inl om)), ((g 13), .inl (cI, 5, .inl lk)), ((g 14), .inl (cJ, 6, .inr (.inl pa))), ((g 15), .inl (cJ, 5, .inr (.inl fl)))] → va_S A s.heap H locs → lv_has ls 7 [(4, .int v_615), (2, .long v_614), (0, .ref (g 0)), (1, .int p0)] → W p l e (headSpec (wy yX9_laysDay cX9_laysDay 7 none) ({ frames := 3, cells := 0, slots := 0, locals := 120 })).room s m ([.ref (g 0), .int p0] : List Value).toArray below meth c H locs 0 0 (MQ below (va_Qv (fun u => (0 ≤ Int32.toInt u.1) ∧ (Int32.toInt u.1 ≤ Int32.toInt (hs 4)) ∧ (1 ≤ Int64.toInt u.2.1)) (fun (u : (Int32) × (Int64) × (Nat → Int64) × (Nat → Int64)) t => va_P (dC, dI) vwCl [((g 0), .inr (9, [.int g_th, .ref (g 1), .ref (g 2), .ref (g 3), .ref (g 4), .ref (g 5), .int g_tp, .int g_so, .int g_tk, .int g_pl, .int g_va, .long g_wo, .int g_bd, .int g_bp, .int g_fa, .int g_fp, .ref (g 6), .ref (g 7), .ref (g 8), .ref (g 9), .ref (g 10), .ref (g 11), .int g_lw, .int g_we, .int g_cu, .int g_go, .int g_ba, .ref (g 12), .ref (g 13), .int u.1, .ref (g 14), .ref (g 15), .long u.2.1, .int g_sb, .int g_ab, .int g_al, .ref (g 16), .ref (g 17)])), ((g 7), .inl (cI, 35, .inl hs)), ((g 10), .inl (cI, 450, .inl ac)), ((g 12), .inl (cI, 5, .inl om)), ((g 13), .inl (cI, 5, .inl lk)), ((g 14), .inl (cJ, 6, .inr (.inl u.2.2.1))), ((g 15), .inl (cJ, 5, .inr (.inl u.2.2.2)))] t.heap ∧ va_D A [((g 0), .inr (9, [.int g_th, .ref (g 1), .ref (g 2), .ref (g 3), .ref (g 4), .ref (g 5), .int g_tp, .int g_so, .int g_tk, .int g_pl, .int g_va, .long g_wo, .int g_bd, .int g_bp, .int g_fa, .int g_fp, .ref (g 6), .ref (g 7), .ref (g 8), .ref (g 9), .ref (g 10), .ref (g 11), .int g_lw, .int g_we, .int g_cu, .int g_go, .int g_ba, .ref (g 12), .ref (g 13), .int u.1, .ref (g 14), .ref (g 15), .long u.2.1, .int g_sb, .int g_ab, .int g_al, .ref (g 16), .ref (g 17)])), ((g 7), .inl (cI, 35, .inl hs)), ((g 10), .inl (cI, 450, .inl ac)), ((g 12), .inl (cI, 5, .inl om)), ((g 13), .inl (cI, 5, .inl lk)), ((g 14), .inl (cJ, 6, .inr (.inl u.2.2.1))), ((g 15), .inl (cJ, 5, .inr (.inl u.2.2.2)))]) A) ([.ref (g 0), .int p0] : List Value).toArray s 0 0 A) (F0 m 46 ls []) := by
            intro d
            induction d with
            | zero => intro v_614 v_615 H locs ls hI hM; exfalso; exact absurd hM (Nat.not_lt_zero _)
            | succ d ih_674 =>
              intro v_614 v_615 H locs ls hI hM hP hD hS hl
              obtain ⟨hI_675, hI_676, hI_677⟩ := hI
              refine lv_iload hx hb dX9_laysDay_46 (lv_at hl 0 rfl) ?_
              refine lv_aload_n hx hb dX9_laysDay_48 rfl (lv_at hl 2 rfl) ?_
              refine va_get (D := (dC, dI)) (ci := 9) (v := .int wv_11) (C := RX9) (T := TX9) (N := 38) hx hb ht iX9 hown hK hP 0 rfl rfl 29 (by decide) (ht _ w_1291) (fun _ h9 => h9) rfl dX9_laysDay_49 ?_
              refine lv_icmp_ge (tgt := 72) hx hb dX9_laysDay_52 (by decide) (fun c_678 => ?_) (fun c_678 => ?_)
              · (try simp only [i_lt, i_le, i_eq] at c_678)
                refine lv_lconst (v := 0) hx hb dX9_laysDay_72 (by decide) ?_
                refine lv_lstore (lv' := [(4, .long 0), (2, .long v_614), (0, .ref (g 0)), (1, .int p0)]) hx hb dX9_laysDay_73 hl (by decide) rfl (fun ls hl => ?_)
                refine lv_aload_n hx hb dX9_laysDay_75 rfl (lv_at hl 2 rfl) ?_
                refine va_get (D := (dC, dI)) (ci := 9) (v := .int wv_11) (C := RX9) (T := TX9) (N := 38) hx hb ht iX9 hown hK hP 0 rfl rfl 29 (by decide) (ht _ w_1291) (fun _ h9 => h9) rfl dX9_laysDay_76 ?_
                refine lv_iconst (v := 1) hx hb dX9_laysDay_79 (by decide) ?_
                refine lv_isub hx hb dX9_laysDay_80 ?_
                refine lv_topi (fun y_679 ey_679 => ?_)
                have ty_679 := isubF ey_679
                simp only [T1] at ty_679
                clear ey_679
                refine lv_istore (lv' := [(6, .int y_679), (4, .long 0), (2, .long v_614), (0, .ref (g 0)), (1, .int p0)]) hx hb dX9_laysDay_81 hl (by decide) rfl (fun ls hl => ?_)
                have lp_711 : ∀ (d : Nat) (v_693 : Int64) (v_694 : Int64) (v_695 : Int32) (wv_696 : Nat → Int64) (wv_697 : Nat → Int64) (H : Heap) (locs : List Loc) (ls : Array Slot), ((-1 ≤ Int32.toInt v_695) ∧ (Int32.toInt v_695 ≤ 4) ∧ (Int32.toInt v_695 < Int32.toInt (hs 4)) ∧ (BV v_695 v_693 v_694)) → ((Int32.toInt v_695 + 1).toNat < d) → va_P (dC, dI) vwCl [((g 0), .inr (9, [.int g_th, .ref (g 1), .ref (g 2), .ref (g 3), .ref (g 4), .ref (g 5), .int g_tp, .int g_so, .int g_tk, .int g_pl, .int g_va, .long g_wo, .int g_bd, .int g_bp, .int g_fa, .int g_fp, .ref (g 6), .ref (g 7), .ref (g 8), .ref (g 9), .ref (g 10), .ref (g 11), .int g_lw, .int g_we, .int g_cu, .int g_go, .int g_ba, .ref (g 12), .ref (g 13), .int wv_11, .ref (g 14), .ref (g 15), .long g_bt, .int g_sb, .int g_ab, .int g_al, .ref (g 16), .ref (g 17)])), ((g 7), .inl (cI, 35, .inl hs)), ((g 10), .inl (cI, 450, .inl ac)), ((g 12), .inl (cI, 5, .inl om)), ((g 13), .inl (cI, 5, .inl lk)), ((g 14), .inl (cJ, 6, .inr (.inl wv_696))), ((g 15), .inl (cJ, 5, .inr (.inl wv_697)))] H → va_D A [((g 0), .inr (9, [.int g_th, .ref (g 1), .ref (g 2), .ref (g 3), .ref (g 4), .ref (g 5), .int g_tp, .int g_so, .int g_tk, .int g_pl, .int g_va, .long g_wo, .int g_bd, .int g_bp, .int g_fa, .int g_fp, .ref (g 6), .ref (g 7), .ref (g 8), .ref (g 9), .ref (g 10), .ref (g 11), .int g_lw, .int g_we, .int g_cu, .int g_go, .int g_ba, .ref (g 12), .ref (g 13), .int wv_11, .ref (g 14), .ref (g 15), .long g_bt, .int g_sb, .int g_ab, .int g_al, .ref (g 16), .ref (g 17)])), ((g 7), .inl (cI, 35, .inl hs)), ((g 10), .inl (cI, 450, .inl ac)), ((g 12), .inl (cI, 5, .inl om)), ((g 13), .inl (cI, 5, .inl lk)), ((g 14), .inl (cJ, 6, .inr (.inl wv_696))), ((g 15), .inl (cJ, 5, .inr (.inl wv_697)))] → va_S A s.heap H locs → lv_has ls 7 [(6, .int v_695), (4, .long v_694), (2, .long v_693), (0, .ref (g 0)), (1, .int p0)] → W p l e (headSpec (wy yX9_laysDay cX9_laysDay 7 none) ({ frames := 3, cells := 0, slots := 0, locals := 120 })).room s m ([.ref (g 0), .int p0] : List Value).toArray below meth c H locs 0 0 (MQ below (va_Qv (fun u => (0 ≤ Int32.toInt u.1) ∧ (Int32.toInt u.1 ≤ Int32.toInt (hs 4)) ∧ (1 ≤ Int64.toInt u.2.1)) (fun (u : (Int32) × (Int64) × (Nat → Int64) × (Nat → Int64)) t => va_P (dC, dI) vwCl [((g 0), .inr (9, [.int g_th, .ref (g 1), .ref (g 2), .ref (g 3), .ref (g 4), .ref (g 5), .int g_tp, .int g_so, .int g_tk, .int g_pl, .int g_va, .long g_wo, .int g_bd, .int g_bp, .int g_fa, .int g_fp, .ref (g 6), .ref (g 7), .ref (g 8), .ref (g 9), .ref (g 10), .ref (g 11), .int g_lw, .int g_we, .int g_cu, .int g_go, .int g_ba, .ref (g 12), .ref (g 13), .int u.1, .ref (g 14), .ref (g 15), .long u.2.1, .int g_sb, .int g_ab, .int g_al, .ref (g 16), .ref (g 17)])), ((g 7), .inl (cI, 35, .inl hs)), ((g 10), .inl (cI, 450, .inl ac)), ((g 12), .inl (cI, 5, .inl om)), ((g 13), .inl (cI, 5, .inl lk)), ((g 14), .inl (cJ, 6, .inr (.inl u.2.2.1))), ((g 15), .inl (cJ, 5, .inr (.inl u.2.2.2)))] t.heap ∧ va_D A [((g 0), .inr (9, [.int g_th, .ref (g 1), .ref (g 2), .ref (g 3), .ref (g 4), .ref (g 5), .int g_tp, .int g_so, .int g_tk, .int g_pl, .int g_va, .long g_wo, .int g_bd, .int g_bp, .int g_fa, .int g_fp, .ref (g 6), .ref (g 7), .ref (g 8), .ref (g 9), .ref (g 10), .ref (g 11), .int g_lw, .int g_we, .int g_cu, .int g_go, .int g_ba, .ref (g 12), .ref (g 13), .int u.1, .ref (g 14), .ref (g 15), .long u.2.1, .int g_sb, .int g_ab, .int g_al, .ref (g 16), .ref (g 17)])), ((g 7), .inl (cI, 35, .inl hs)), ((g 10), .inl (cI, 450, .inl ac)), ((g 12), .inl (cI, 5, .inl om)), ((g 13), .inl (cI, 5, .inl lk)), ((g 14), .inl (cJ, 6, .inr (.inl u.2.2.1))), ((g 15), .inl (cJ, 5, .inr (.inl u.2.2.2)))]) A) ([.ref (g 0), .int p0] : List Value).toArray s 0 0 A) (F0 m 83 ls []) := by
                  intro d
                  induction d with
                  | zero => intro v_693 v_694 v_695 wv_696 wv_697 H locs ls hI hM; exfalso; exact absurd hM (Nat.not_lt_zero _)
                  | succ d ih_712 =>
                    intro v_693 v_694 v_695 wv_696 wv_697 H locs ls hI hM hP hD hS hl
                    obtain ⟨hI_713, hI_714, hI_715, hI_716⟩ := hI
                    refine lv_iload hx hb dX9_laysDay_83 (lv_at hl 0 rfl) ?_
                    refine lv_if_lt (tgt := 140) hx hb dX9_laysDay_85 (by decide) (fun c_717 => ?_) (fun c_717 => ?_)
                    · (try simp only [i_lt, i_le, i_eq, T0] at c_717)
                      have hbp := hI_716.1
                      refine lv_aload_n hx hb dX9_laysDay_140 rfl (lv_at hl 3 rfl) ?_
                      refine lv_lload_n hx hb dX9_laysDay_141 rfl (lv_at hl 2 rfl) ?_
                      refine va_put (D := (dC, dI)) (ci := 9) (v := .long v_693) (ty := .long) (C := RX9) (T := TX9) (N := 38) hx hb ht iX9 tyX9 tyX9_ok nmX9 hown hK hP hD hS 0 rfl rfl 32 (by decide) (ht _ w_1294) (fun _ h9 => h9) rfl (by decide +kernel) rfl rfl (Nat.le_of_ble_eq_true rfl) dX9_laysDay_142 (fun H locs hP hD hS => ?_)
                      have hP : va_P (dC, dI) vwCl [((g 0), .inr (9, [.int g_th, .ref (g 1), .ref (g 2), .ref (g 3), .ref (g 4), .ref (g 5), .int g_tp, .int g_so, .int g_tk, .int g_pl, .int g_va, .long g_wo, .int g_bd, .int g_bp, .int g_fa, .int g_fp, .ref (g 6), .ref (g 7), .ref (g 8), .ref (g 9), .ref (g 10), .ref (g 11), .int g_lw, .int g_we, .int g_cu, .int g_go, .int g_ba, .ref (g 12), .ref (g 13), .int wv_11, .ref (g 14), .ref (g 15), .long v_693, .int g_sb, .int g_ab, .int g_al, .ref (g 16), .ref (g 17)])), ((g 7), .inl (cI, 35, .inl hs)), ((g 10), .inl (cI, 450, .inl ac)), ((g 12), .inl (cI, 5, .inl om)), ((g 13), .inl (cI, 5, .inl lk)), ((g 14), .inl (cJ, 6, .inr (.inl wv_696))), ((g 15), .inl (cJ, 5, .inr (.inl wv_697)))] H := hP
                      have hD : va_D A [((g 0), .inr (9, [.int g_th, .ref (g 1), .ref (g 2), .ref (g 3), .ref (g 4), .ref (g 5), .int g_tp, .int g_so, .int g_tk, .int g_pl, .int g_va, .long g_wo, .int g_bd, .int g_bp, .int g_fa, .int g_fp, .ref (g 6), .ref (g 7), .ref (g 8), .ref (g 9), .ref (g 10), .ref (g 11), .int g_lw, .int g_we, .int g_cu, .int g_go, .int g_ba, .ref (g 12), .ref (g 13), .int wv_11, .ref (g 14), .ref (g 15), .long v_693, .int g_sb, .int g_ab, .int g_al, .ref (g 16), .ref (g 17)])), ((g 7), .inl (cI, 35, .inl hs)), ((g 10), .inl (cI, 450, .inl ac)), ((g 12), .inl (cI, 5, .inl om)), ((g 13), .inl (cI, 5, .inl lk)), ((g 14), .inl (cJ, 6, .inr (.inl wv_696))), ((g 15), .inl (cJ, 5, .inr (.inl wv_697)))] := hD
                      have hP9 := hP.sub (ws' := [((g 0), .inr (9, [.int g_th, .ref (g 1), .ref (g 2), .ref (g 3), .ref (g 4), .ref (g 5), .int g_tp, .int g_so, .int g_tk, .int g_pl, .int g_va, .long g_wo, .int g_bd, .int g_bp, .int g_fa, .int g_fp, .ref (g 6), .ref (g 7), .ref (g 8), .ref (g 9), .ref (g 10), .ref (g 11), .int g_lw, .int g_we, .int g_cu, .int g_go, .int g_ba, .ref (g 12), .ref (g 13), .int wv_11, .ref (g 14), .ref (g 15), .long v_693, .int g_sb, .int g_ab, .int g_al, .ref (g 16), .ref (g 17)])), ((g 7), .inl (cI, 35, .inl hs)), ((g 10), .inl (cI, 450, .inl ac)), ((g 12), .inl (cI, 5, .inl om)), ((g 13), .inl (cI, 5, .inl lk)), ((g 14), .inl (cJ, 6, .inr (.inl wv_696))), ((g 15), .inl (cJ, 5, .inr (.inl wv_697)))]) [0, 1, 2, 3, 4, 5, 6] rfl
                      have hD9 := hD.sub (ws' := [((g 0), .inr (9, [.int g_th, .ref (g 1), .ref (g 2), .ref (g 3), .ref (g 4), .ref (g 5), .int g_tp, .int g_so, .int g_tk, .int g_pl, .int g_va, .long g_wo, .int g_bd, .int g_bp, .int g_fa, .int g_fp, .ref (g 6), .ref (g 7), .ref (g 8), .ref (g 9), .ref (g 10), .ref (g 11), .int g_lw, .int g_we, .int g_cu, .int g_go, .int g_ba, .ref (g 12), .ref (g 13), .int wv_11, .ref (g 14), .ref (g 15), .long v_693, .int g_sb, .int g_ab, .int g_al, .ref (g 16), .ref (g 17)])), ((g 7), .inl (cI, 35, .inl hs)), ((g 10), .inl (cI, 450, .inl ac)), ((g 12), .inl (cI, 5, .inl om)), ((g 13), .inl (cI, 5, .inl lk)), ((g 14), .inl (cJ, 6, .inr (.inl wv_696))), ((g 15), .inl (cJ, 5, .inr (.inl wv_697)))]) [0, 1, 2, 3, 4, 5, 6] (by decide) rfl
                      exact W.vret hx hb hr (fun t ht hW => ⟨⟨(wv_11, v_693, wv_696, wv_697), rfl, ⟨(by first | omega | assumption | decide | exact LK_mono (by assumption) (by omega) | exact OM_mono (by assumption) (by omega) | exact CLR_mono (by assumption) (by omega) | (have e0 := T0; have e1 := T1; have e2 := T2; have e3 := T3; have em1 := Tm1; omega) | (dsimp only; done) | (dsimp only; first | omega | assumption | decide | exact LK_mono (by assumption) (by omega) | exact OM_mono (by assumption) (by omega) | exact CLR_mono (by assumption) (by omega) | (have e0 := T0; have e1 := T1; have e2 := T2; have e3 := T3; have em1 := Tm1; omega))), (by first | omega | assumption | decide | exact LK_mono (by assumption) (by omega) | exact OM_mono (by assumption) (by omega) | exact CLR_mono (by assumption) (by omega) | (have e0 := T0; have e1 := T1; have e2 := T2; have e3 := T3; have em1 := Tm1; omega) | (dsimp only; done) | (dsimp only; first | omega | assumption | decide | exact LK_mono (by assumption) (by omega) | exact OM_mono (by assumption) (by omega) | exact CLR_mono (by assumption) (by omega) | (have e0 := T0; have e1 := T1; have e2 := T2; have e3 := T3; have em1 := Tm1; omega))), (by first | omega | assumption | decide | exact LK_mono (by assumption) (by omega) | exact OM_mono (by assumption) (by omega) | exact CLR_mono (by assumption) (by omega) | (have e0 := T0; have e1 := T1; have e2 := T2; have e3 := T3; have em1 := Tm1; omega) | (dsimp only; done) | (dsimp only; first | omega | assumption | decide | exact LK_mono (by assumption) (by omega) | exact OM_mono (by assumption) (by omega) | exact CLR_mono (by assumption) (by omega) | (have e0 := T0; have e1 := T1; have e2 := T2; have e3 := T3; have em1 := Tm1; omega)))⟩, ⟨by rw [ht]; exact hP9, hD9⟩⟩, hS.F ht⟩) hS.2.2 dX9_laysDay_145
                    · (try simp only [i_lt, i_le, i_eq, T0] at c_717)
                      refine lv_aload_n hx hb dX9_laysDay_88 rfl (lv_at hl 3 rfl) ?_
                      refine va_get (D := (dC, dI)) (ci := 9) (v := .ref (g 14)) (C := RX9) (T := TX9) (N := 38) hx hb ht iX9 hown hK hP 0 rfl rfl 30 (by decide) (ht _ w_1292) (fun _ h9 => h9) rfl dX9_laysDay_89 ?_
                      refine lv_iload hx hb dX9_laysDay_92 (lv_at hl 0 rfl) ?_
                      refine lv_lload_n hx hb dX9_laysDay_94 rfl (lv_at hl 2 rfl) ?_
                      refine va_last hx hb hK hP hD hS 5 2 rfl rfl (vp_in_iff.mpr (by omega)) dX9_laysDay_95 (fun H locs hP hD hS => ?_)
                      obtain ⟨f_718, ef_718⟩ : ∃ z : Nat → Int64, z = vp_updL wv_696 (Int32.toNatClampNeg v_695) v_693 := ⟨_, rfl⟩
                      rw [← ef_718] at hP hD
                      clear ef_718
                      have hP : va_P (dC, dI) vwCl [((g 0), .inr (9, [.int g_th, .ref (g 1), .ref (g 2), .ref (g 3), .ref (g 4), .ref (g 5), .int g_tp, .int g_so, .int g_tk, .int g_pl, .int g_va, .long g_wo, .int g_bd, .int g_bp, .int g_fa, .int g_fp, .ref (g 6), .ref (g 7), .ref (g 8), .ref (g 9), .ref (g 10), .ref (g 11), .int g_lw, .int g_we, .int g_cu, .int g_go, .int g_ba, .ref (g 12), .ref (g 13), .int wv_11, .ref (g 14), .ref (g 15), .long g_bt, .int g_sb, .int g_ab, .int g_al, .ref (g 16), .ref (g 17)])), ((g 7), .inl (cI, 35, .inl hs)), ((g 10), .inl (cI, 450, .inl ac)), ((g 12), .inl (cI, 5, .inl om)), ((g 13), .inl (cI, 5, .inl lk)), ((g 14), .inl (cJ, 6, .inr (.inl f_718))), ((g 15), .inl (cJ, 5, .inr (.inl wv_697)))] H := hP
                      have hD : va_D A [((g 0), .inr (9, [.int g_th, .ref (g 1), .ref (g 2), .ref (g 3), .ref (g 4), .ref (g 5), .int g_tp, .int g_so, .int g_tk, .int g_pl, .int g_va, .long g_wo, .int g_bd, .int g_bp, .int g_fa, .int g_fp, .ref (g 6), .ref (g 7), .ref (g 8), .ref (g 9), .ref (g 10), .ref (g 11), .int g_lw, .int g_we, .int g_cu, .int g_go, .int g_ba, .ref (g 12), .ref (g 13), .int wv_11, .ref (g 14), .ref (g 15), .long g_bt, .int g_sb, .int g_ab, .int g_al, .ref (g 16), .ref (g 17)])), ((g 7), .inl (cI, 35, .inl hs)), ((g 10), .inl (cI, 450, .inl ac)), ((g 12), .inl (cI, 5, .inl om)), ((g 13), .inl (cI, 5, .inl lk)), ((g 14), .inl (cJ, 6, .inr (.inl f_718))), ((g 15), .inl (cJ, 5, .inr (.inl wv_697)))] := hD
                      refine lv_lload hx hb dX9_laysDay_96 (lv_at hl 1 rfl) ?_
                      refine lv_lload_n hx hb dX9_laysDay_98 rfl (lv_at hl 2 rfl) ?_
                      refine lv_aload_n hx hb dX9_laysDay_99 rfl (lv_at hl 3 rfl) ?_
                      refine lv_iload hx hb dX9_laysDay_100 (lv_at hl 0 rfl) ?_
                      refine lv_iload_n hx hb dX9_laysDay_102 rfl (lv_at hl 4 rfl) ?_
                      have hPc := hP.sub (ws' := [((g 0), .inr (9, [.int g_th, .ref (g 1), .ref (g 2), .ref (g 3), .ref (g 4), .ref (g 5), .int g_tp, .int g_so, .int g_tk, .int g_pl, .int g_va, .long g_wo, .int g_bd, .int g_bp, .int g_fa, .int g_fp, .ref (g 6), .ref (g 7), .ref (g 8), .ref (g 9), .ref (g 10), .ref (g 11), .int g_lw, .int g_we, .int g_cu, .int g_go, .int g_ba, .ref (g 12), .ref (g 13), .int wv_11, .ref (g 14), .ref (g 15), .long g_bt, .int g_sb, .int g_ab, .int g_al, .ref (g 16), .ref (g 17)])), ((g 7), .inl (cI, 35, .inl hs)), ((g 10), .inl (cI, 450, .inl ac)), ((g 13), .inl (cI, 5, .inl lk))]) [0, 1, 2, 4] rfl
                      refine vp_callSi (W.runV (As := [.int v_695, .int p0]) (rest := [.long v_693, .long v_694]) ⟨hx, hb, hml, hown, ht⟩ (s_X9_leakOf l dC dI cB cI cJ cZ cL g g_th g_tp g_so g_tk g_pl g_va g_wo g_bd g_bp g_fa g_fp g_lw g_we g_cu g_go g_ba wv_11 g_bt g_sb g_ab g_al hs ac lk v_695 p0 (by first | assumption | omega | decide | (simp only [T0, T1, T2, T3, Tm1]; omega)) (by first | assumption | omega | decide | (simp only [T0, T1, T2, T3, Tm1]; omega)) (by first | assumption | omega | decide | (simp only [T0, T1, T2, T3, Tm1]; omega)) (by first | assumption | omega | decide | (simp only [T0, T1, T2, T3, Tm1]; omega)) (by first | assumption | omega | decide | (simp only [T0, T1, T2, T3, Tm1]; omega))) (cwV 2 ht (gV w_1562 w_1564 w_74 w_114 w_1565) rfl rfl rfl (by decide +kernel) ⟨Nat.le_of_ble_eq_true rfl, Nat.le_of_ble_eq_true rfl⟩) (pVSn hN hK hPc (ci := 9) (q0 := 0) rfl rfl) rfl rfl hl.1 rfl (lv_room (Nat.le_of_ble_eq_true rfl)) dX9_laysDay_103 ⟨Nat.le_of_ble_eq_true rfl, Nat.le_of_ble_eq_true rfl⟩) (fun r_719 hw => ?_)
                      clear hPc
                      (try dsimp only at hw)
                      have hw_720 := hw
                      clear hw
                      obtain ⟨hw_720_0, hw_720_1⟩ := hw_720
                      refine lv_i2l hx hb dX9_laysDay_106 rfl ?_
                      refine lv_topl (fun y_721 ey_721 => ?_)
                      have ty_721 := i2lF ey_721
                      clear ey_721
                      refine lv_ldiv hx hb dX9_laysDay_107 (by rw [l_eq]; simp only [L0]; omega) ?_
                      refine lv_topl (fun y_722 ey_722 => ?_)
                      refine lv_ladd hx hb dX9_laysDay_108 ?_
                      refine lv_topl (fun y_723 ey_723 => ?_)
                      have ty_723 := laddF ey_723
                      refine lv_lstore (lv' := [(4, .long y_723), (6, .int v_695), (2, .long v_693), (0, .ref (g 0)), (1, .int p0)]) hx hb dX9_laysDay_109 hl (by decide) rfl (fun ls hl => ?_)
                      refine lv_aload_n hx hb dX9_laysDay_111 rfl (lv_at hl 3 rfl) ?_
                      refine va_get (D := (dC, dI)) (ci := 9) (v := .ref (g 15)) (C := RX9) (T := TX9) (N := 38) hx hb ht iX9 hown hK hP 0 rfl rfl 31 (by decide) (ht _ w_1293) (fun _ h9 => h9) rfl dX9_laysDay_112 ?_
                      refine lv_iload hx hb dX9_laysDay_115 (lv_at hl 1 rfl) ?_
                      refine lv_lload hx hb dX9_laysDay_117 (lv_at hl 0 rfl) ?_
                      refine va_last hx hb hK hP hD hS 6 2 rfl rfl (vp_in_iff.mpr (by omega)) dX9_laysDay_119 (fun H locs hP hD hS => ?_)
                      obtain ⟨f_724, ef_724⟩ : ∃ z : Nat → Int64, z = vp_updL wv_697 (Int32.toNatClampNeg v_695) y_723 := ⟨_, rfl⟩
                      rw [← ef_724] at hP hD
                      clear ef_724
                      have hP : va_P (dC, dI) vwCl [((g 0), .inr (9, [.int g_th, .ref (g 1), .ref (g 2), .ref (g 3), .ref (g 4), .ref (g 5), .int g_tp, .int g_so, .int g_tk, .int g_pl, .int g_va, .long g_wo, .int g_bd, .int g_bp, .int g_fa, .int g_fp, .ref (g 6), .ref (g 7), .ref (g 8), .ref (g 9), .ref (g 10), .ref (g 11), .int g_lw, .int g_we, .int g_cu, .int g_go, .int g_ba, .ref (g 12), .ref (g 13), .int wv_11, .ref (g 14), .ref (g 15), .long g_bt, .int g_sb, .int g_ab, .int g_al, .ref (g 16), .ref (g 17)])), ((g 7), .inl (cI, 35, .inl hs)), ((g 10), .inl (cI, 450, .inl ac)), ((g 12), .inl (cI, 5, .inl om)), ((g 13), .inl (cI, 5, .inl lk)), ((g 14), .inl (cJ, 6, .inr (.inl f_718))), ((g 15), .inl (cJ, 5, .inr (.inl f_724)))] H := hP
                      have hD : va_D A [((g 0), .inr (9, [.int g_th, .ref (g 1), .ref (g 2), .ref (g 3), .ref (g 4), .ref (g 5), .int g_tp, .int g_so, .int g_tk, .int g_pl, .int g_va, .long g_wo, .int g_bd, .int g_bp, .int g_fa, .int g_fp, .ref (g 6), .ref (g 7), .ref (g 8), .ref (g 9), .ref (g 10), .ref (g 11), .int g_lw, .int g_we, .int g_cu, .int g_go, .int g_ba, .ref (g 12), .ref (g 13), .int wv_11, .ref (g 14), .ref (g 15), .long g_bt, .int g_sb, .int g_ab, .int g_al, .ref (g 16), .ref (g 17)])), ((g 7), .inl (cI, 35, .inl hs)), ((g 10), .inl (cI, 450, .inl ac)), ((g 12), .inl (cI, 5, .inl om)), ((g 13), .inl (cI, 5, .inl lk)), ((g 14), .inl (cJ, 6, .inr (.inl f_718))), ((g 15), .inl (cJ, 5, .inr (.inl f_724)))] := hD
                      refine lv_lload_n hx hb dX9_laysDay_120 rfl (lv_at hl 2 rfl) ?_
                      refine lv_aload_n hx hb dX9_laysDay_121 rfl (lv_at hl 3 rfl) ?_
                      refine va_get (D := (dC, dI)) (ci := 9) (v := .ref (g 12)) (C := RX9) (T := TX9) (N := 38) hx hb ht iX9 hown hK hP 0 rfl rfl 27 (by decide) (ht _ w_1289) (fun _ h9 => h9) rfl dX9_laysDay_122 ?_
                      refine lv_iload hx hb dX9_laysDay_125 (lv_at hl 1 rfl) ?_
                      refine va_iald hx hb hK hP 3 1 rfl rfl (vp_in_iff.mpr (by omega)) dX9_laysDay_127 ?_
                      refine lv_topi (fun y_725 ey_725 => ?_)
                      have ry_725 := OM_at hom (x := v_695) (by omega) (by omega)
                      rw [← ey_725] at ry_725
                      refine lv_i2l hx hb dX9_laysDay_128 rfl ?_
                      refine lv_topl (fun y_726 ey_726 => ?_)
                      have ty_726 := i2lF ey_726
                      clear ey_726
                      refine lv_lload hx hb dX9_laysDay_129 (lv_at hl 0 rfl) ?_
                      refine lv_lmul hx hb dX9_laysDay_131 ?_
                      refine lv_topl (fun y_727 ey_727 => ?_)
                      refine lv_ladd hx hb dX9_laysDay_132 ?_
                      refine lv_topl (fun y_728 ey_728 => ?_)
                      have ty_728 := laddF ey_728
                      refine lv_lstore_n (lv' := [(2, .long y_728), (4, .long y_723), (6, .int v_695), (0, .ref (g 0)), (1, .int p0)]) hx hb dX9_laysDay_133 rfl hl (by decide) rfl (fun ls hl => ?_)
                      obtain ⟨y_729, ey_729⟩ : ∃ z : Int32, z = v_695 + (-1) := ⟨_, rfl⟩
                      have ty_729 := iaddF ey_729
                      simp only [Tm1] at ty_729
                      refine lv_iinc (v := y_729) (lv' := [(6, .int y_729), (2, .long y_728), (4, .long y_723), (0, .ref (g 0)), (1, .int p0)]) hx hb dX9_laysDay_134 hl (k := 2) rfl (by rw [ey_729]; rfl) (by decide) rfl (fun ls hl => ?_)
                      clear ey_729
                      have hbv := BV_step hI_716 (by omega) (by omega) (k1 := y_729) (by omega) (y := y_721) (by omega) (o := y_726) (by omega) ey_722 ey_723 ey_727 ey_728
                      refine lv_goto (tgt := 83) hx hb dX9_laysDay_137 (by decide) ?_
                      exact ih_712 y_728 y_723 y_729 f_718 f_724 _ _ _ ⟨(by first | omega | assumption | decide | exact LK_0 | exact OM_0 | exact CE_0 | exact SZI_0 | exact CLR_0 | exact CP_0 | exact PV_0 | exact BV_0 (by assumption) (by omega) (by omega) | exact LK_mono (by assumption) (by omega) | exact OM_mono (by assumption) (by omega) | exact CE_mono (by assumption) (by omega) | exact CLR_mono (by assumption) (by omega) | exact CP_mono (by assumption) (by omega) | (have e0 := T0; have e1 := T1; have e2 := T2; have em1 := Tm1; omega)), (by first | omega | assumption | decide | exact LK_0 | exact OM_0 | exact CE_0 | exact SZI_0 | exact CLR_0 | exact CP_0 | exact PV_0 | exact BV_0 (by assumption) (by omega) (by omega) | exact LK_mono (by assumption) (by omega) | exact OM_mono (by assumption) (by omega) | exact CE_mono (by assumption) (by omega) | exact CLR_mono (by assumption) (by omega) | exact CP_mono (by assumption) (by omega) | (have e0 := T0; have e1 := T1; have e2 := T2; have em1 := Tm1; omega)), (by first | omega | assumption | decide | exact LK_0 | exact OM_0 | exact CE_0 | exact SZI_0 | exact CLR_0 | exact CP_0 | exact PV_0 | exact BV_0 (by assumption) (by omega) (by omega) | exact LK_mono (by assumption) (by omega) | exact OM_mono (by assumption) (by omega) | exact CE_mono (by assumption) (by omega) | exact CLR_mono (by assumption) (by omega) | exact CP_mono (by assumption) (by omega) | (have e0 := T0; have e1 := T1; have e2 := T2; have em1 := Tm1; omega)), (by first | omega | assumption | decide | exact LK_0 | exact OM_0 | exact CE_0 | exact SZI_0 | exact CLR_0 | exact CP_0 | exact PV_0 | exact BV_0 (by assumption) (by omega) (by omega) | exact LK_mono (by assumption) (by omega) | exact OM_mono (by assumption) (by omega) | exact CE_mono (by assumption) (by omega) | exact CLR_mono (by assumption) (by omega) | exact CP_mono (by assumption) (by omega) | (have e0 := T0; have e1 := T1; have e2 := T2; have em1 := Tm1; omega))⟩ (by omega) (hP.sub (ws' := [((g 0), .inr (9, [.int g_th, .ref (g 1), .ref (g 2), .ref (g 3), .ref (g 4), .ref (g 5), .int g_tp, .int g_so, .int g_tk, .int g_pl, .int g_va, .long g_wo, .int g_bd, .int g_bp, .int g_fa, .int g_fp, .ref (g 6), .ref (g 7), .ref (g 8), .ref (g 9), .ref (g 10), .ref (g 11), .int g_lw, .int g_we, .int g_cu, .int g_go, .int g_ba, .ref (g 12), .ref (g 13), .int wv_11, .ref (g 14), .ref (g 15), .long g_bt, .int g_sb, .int g_ab, .int g_al, .ref (g 16), .ref (g 17)])), ((g 7), .inl (cI, 35, .inl hs)), ((g 10), .inl (cI, 450, .inl ac)), ((g 12), .inl (cI, 5, .inl om)), ((g 13), .inl (cI, 5, .inl lk)), ((g 14), .inl (cJ, 6, .inr (.inl f_718))), ((g 15), .inl (cJ, 5, .inr (.inl f_724)))]) [0, 1, 2, 3, 4, 5, 6] rfl) (hD.sub (ws' := [((g 0), .inr (9, [.int g_th, .ref (g 1), .ref (g 2), .ref (g 3), .ref (g 4), .ref (g 5), .int g_tp, .int g_so, .int g_tk, .int g_pl, .int g_va, .long g_wo, .int g_bd, .int g_bp, .int g_fa, .int g_fp, .ref (g 6), .ref (g 7), .ref (g 8), .ref (g 9), .ref (g 10), .ref (g 11), .int g_lw, .int g_we, .int g_cu, .int g_go, .int g_ba, .ref (g 12), .ref (g 13), .int wv_11, .ref (g 14), .ref (g 15), .long g_bt, .int g_sb, .int g_ab, .int g_al, .ref (g 16), .ref (g 17)])), ((g 7), .inl (cI, 35, .inl hs)), ((g 10), .inl (cI, 450, .inl ac)), ((g 12), .inl (cI, 5, .inl om)), ((g 13), .inl (cI, 5, .inl lk)), ((g 14), .inl (cJ, 6, .inr (.inl f_718))), ((g 15), .inl (cJ, 5, .inr (.inl f_724)))]) [0, 1, 2, 3, 4, 5, 6] (by decide) rfl) hS (lv_sub hl [0, 2, 1, 3, 4] rfl)
                exact lp_711 _ v_614 0 y_679 pa fl _ _ _ ⟨(by first | omega | assumption | decide | exact LK_0 | exact OM_0 | exact CE_0 | exact SZI_0 | exact CLR_0 | exact CP_0 | exact PV_0 | exact BV_0 (by assumption) (by omega) (by omega) | exact LK_mono (by assumption) (by omega) | exact OM_mono (by assumption) (by omega) | exact CE_mono (by assumption) (by omega) | exact CLR_mono (by assumption) (by omega) | exact CP_mono (by assumption) (by omega) | (have e0 := T0; have e1 := T1; have e2 := T2; have em1 := Tm1; omega)), (by first | omega | assumption | decide | exact LK_0 | exact OM_0 | exact CE_0 | exact SZI_0 | exact CLR_0 | exact CP_0 | exact PV_0 | exact BV_0 (by assumption) (by omega) (by omega) | exact LK_mono (by assumption) (by omega) | exact OM_mono (by assumption) (by omega) | exact CE_mono (by assumption) (by omega) | exact CLR_mono (by assumption) (by omega) | exact CP_mono (by assumption) (by omega) | (have e0 := T0; have e1 := T1; have e2 := T2; have em1 := Tm1; omega)), (by first | omega | assumption | decide | exact LK_0 | exact OM_0 | exact CE_0 | exact SZI_0 | exact CLR_0 | exact CP_0 | exact PV_0 | exact BV_0 (by assumption) (by omega) (by omega) | exact LK_mono (by assumption) (by omega) | exact OM_mono (by assumption) (by omega) | exact CE_mono (by assumption) (by omega) | exact CLR_mono (by assumption) (by omega) | exact CP_mono (by assumption) (by omega) | (have e0 := T0; have e1 := T1; have e2 := T2; have em1 := Tm1; omega)), (by first | omega | assumption | decide | exact LK_0 | exact OM_0 | exact CE_0 | exact SZI_0 | exact CLR_0 | exact CP_0 | exact PV_0 | exact BV_0 (by assumption) (by omega) (by omega) | exact LK_mono (by assumption) (by omega) | exact OM_mono (by assumption) (by omega) | exact CE_mono (by assumption) (by omega) | exact CLR_mono (by assumption) (by omega) | exact CP_mono (by assumption) (by omega) | (have e0 := T0; have e1 := T1; have e2 := T2; have em1 := Tm1; omega))⟩ (Nat.lt_succ_self _) hP hD hS (lv_sub hl [0, 1, 2, 3, 4] rfl)
              · (try simp only [i_lt, i_le, i_eq] at c_678)
                refine lv_lload_n hx hb dX9_laysDay_55 rfl (lv_at hl 1 rfl) ?_
                refine lv_aload_n hx hb dX9_laysDay_56 rfl (lv_at hl 2 rfl) ?_
                refine lv_iload hx hb dX9_laysDay_57 (lv_at hl 0 rfl) ?_
                refine lv_iload_n hx hb dX9_laysDay_59 rfl (lv_at hl 3 rfl) ?_
                have hPc := hP.sub (ws' := [((g 0), .inr (9, [.int g_th, .ref (g 1), .ref (g 2), .ref (g 3), .ref (g 4), .ref (g 5), .int g_tp, .int g_so, .int g_tk, .int g_pl, .int g_va, .long g_wo, .int g_bd, .int g_bp, .int g_fa, .int g_fp, .ref (g 6), .ref (g 7), .ref (g 8), .ref (g 9), .ref (g 10), .ref (g 11), .int g_lw, .int g_we, .int g_cu, .int g_go, .int g_ba, .ref (g 12), .ref (g 13), .int wv_11, .ref (g 14), .ref (g 15), .long g_bt, .int g_sb, .int g_ab, .int g_al, .ref (g 16), .ref (g 17)])), ((g 7), .inl (cI, 35, .inl hs)), ((g 10), .inl (cI, 450, .inl ac)), ((g 13), .inl (cI, 5, .inl lk))]) [0, 1, 2, 4] rfl
                refine vp_callSi (W.runV (As := [.int v_615, .int p0]) (rest := [.long v_614]) ⟨hx, hb, hml, hown, ht⟩ (s_X9_leakOf l dC dI cB cI cJ cZ cL g g_th g_tp g_so g_tk g_pl g_va g_wo g_bd g_bp g_fa g_fp g_lw g_we g_cu g_go g_ba wv_11 g_bt g_sb g_ab g_al hs ac lk v_615 p0 (by first | assumption | omega | decide | (simp only [T0, T1, T2, T3, Tm1]; omega)) (by first | assumption | omega | decide | (simp only [T0, T1, T2, T3, Tm1]; omega)) (by first | assumption | omega | decide | (simp only [T0, T1, T2, T3, Tm1]; omega)) (by first | assumption | omega | decide | (simp only [T0, T1, T2, T3, Tm1]; omega)) (by first | assumption | omega | decide | (simp only [T0, T1, T2, T3, Tm1]; omega))) (cwV 2 ht (gV w_1562 w_1564 w_74 w_114 w_1565) rfl rfl rfl (by decide +kernel) ⟨Nat.le_of_ble_eq_true rfl, Nat.le_of_ble_eq_true rfl⟩) (pVSn hN hK hPc (ci := 9) (q0 := 0) rfl rfl) rfl rfl hl.1 rfl (lv_room (Nat.le_of_ble_eq_true rfl)) dX9_laysDay_60 ⟨Nat.le_of_ble_eq_true rfl, Nat.le_of_ble_eq_true rfl⟩) (fun r_730 hw => ?_)
                clear hPc
                (try dsimp only at hw)
                have hw_731 := hw
                clear hw
                obtain ⟨hw_731_0, hw_731_1⟩ := hw_731
                refine lv_i2l hx hb dX9_laysDay_63 rfl ?_
                refine lv_topl (fun y_732 ey_732 => ?_)
                have ty_732 := i2lF ey_732
                clear ey_732
                refine lv_lmul hx hb dX9_laysDay_64 ?_
                refine lv_topl (fun y_733 ey_733 => ?_)
                refine lv_lstore_n (lv' := [(2, .long y_733), (4, .int v_615), (0, .ref (g 0)), (1, .int p0)]) hx hb dX9_laysDay_65 rfl hl (by decide) rfl (fun ls hl => ?_)
                obtain ⟨y_734, ey_734⟩ : ∃ z : Int32, z = v_615 + 1 := ⟨_, rfl⟩
                have ty_734 := iaddF ey_734
                simp only [T1] at ty_734
                refine lv_iinc (v := y_734) (lv' := [(4, .int y_734), (2, .long y_733), (0, .ref (g 0)), (1, .int p0)]) hx hb dX9_laysDay_66 hl (k := 1) rfl (by rw [ey_734]; rfl) (by decide) rfl (fun ls hl => ?_)
                clear ey_734
                have hpv := PV_step hI_677 (by omega) (by omega) (k1 := y_734) (by omega) (y := y_732) (by omega) ey_733
                refine lv_goto (tgt := 46) hx hb dX9_laysDay_69 (by decide) ?_
                exact ih_674 y_733 y_734 _ _ _ ⟨(by first | omega | assumption | decide | exact LK_0 | exact OM_0 | exact CE_0 | exact SZI_0 | exact CLR_0 | exact CP_0 | exact PV_0 | exact BV_0 (by assumption) (by omega) (by omega) | exact LK_mono (by assumption) (by omega) | exact OM_mono (by assumption) (by omega) | exact CE_mono (by assumption) (by omega) | exact CLR_mono (by assumption) (by omega) | exact CP_mono (by assumption) (by omega) | (have e0 := T0; have e1 := T1; have e2 := T2; have em1 := Tm1; omega)), (by first | omega | assumption | decide | exact LK_0 | exact OM_0 | exact CE_0 | exact SZI_0 | exact CLR_0 | exact CP_0 | exact PV_0 | exact BV_0 (by assumption) (by omega) (by omega) | exact LK_mono (by assumption) (by omega) | exact OM_mono (by assumption) (by omega) | exact CE_mono (by assumption) (by omega) | exact CLR_mono (by assumption) (by omega) | exact CP_mono (by assumption) (by omega) | (have e0 := T0; have e1 := T1; have e2 := T2; have em1 := Tm1; omega)), (by first | omega | assumption | decide | exact LK_0 | exact OM_0 | exact CE_0 | exact SZI_0 | exact CLR_0 | exact CP_0 | exact PV_0 | exact BV_0 (by assumption) (by omega) (by omega) | exact LK_mono (by assumption) (by omega) | exact OM_mono (by assumption) (by omega) | exact CE_mono (by assumption) (by omega) | exact CLR_mono (by assumption) (by omega) | exact CP_mono (by assumption) (by omega) | (have e0 := T0; have e1 := T1; have e2 := T2; have em1 := Tm1; omega))⟩ (by omega) (hP.sub (ws' := [((g 0), .inr (9, [.int g_th, .ref (g 1), .ref (g 2), .ref (g 3), .ref (g 4), .ref (g 5), .int g_tp, .int g_so, .int g_tk, .int g_pl, .int g_va, .long g_wo, .int g_bd, .int g_bp, .int g_fa, .int g_fp, .ref (g 6), .ref (g 7), .ref (g 8), .ref (g 9), .ref (g 10), .ref (g 11), .int g_lw, .int g_we, .int g_cu, .int g_go, .int g_ba, .ref (g 12), .ref (g 13), .int wv_11, .ref (g 14), .ref (g 15), .long g_bt, .int g_sb, .int g_ab, .int g_al, .ref (g 16), .ref (g 17)])), ((g 7), .inl (cI, 35, .inl hs)), ((g 10), .inl (cI, 450, .inl ac)), ((g 12), .inl (cI, 5, .inl om)), ((g 13), .inl (cI, 5, .inl lk)), ((g 14), .inl (cJ, 6, .inr (.inl pa))), ((g 15), .inl (cJ, 5, .inr (.inl fl)))]) [0, 1, 2, 3, 4, 5, 6] rfl) (hD.sub (ws' := [((g 0), .inr (9, [.int g_th, .ref (g 1), .ref (g 2), .ref (g 3), .ref (g 4), .ref (g 5), .int g_tp, .int g_so, .int g_tk, .int g_pl, .int g_va, .long g_wo, .int g_bd, .int g_bp, .int g_fa, .int g_fp, .ref (g 6), .ref (g 7), .ref (g 8), .ref (g 9), .ref (g 10), .ref (g 11), .int g_lw, .int g_we, .int g_cu, .int g_go, .int g_ba, .ref (g 12), .ref (g 13), .int wv_11, .ref (g 14), .ref (g 15), .long g_bt, .int g_sb, .int g_ab, .int g_al, .ref (g 16), .ref (g 17)])), ((g 7), .inl (cI, 35, .inl hs)), ((g 10), .inl (cI, 450, .inl ac)), ((g 12), .inl (cI, 5, .inl om)), ((g 13), .inl (cI, 5, .inl lk)), ((g 14), .inl (cJ, 6, .inr (.inl pa))), ((g 15), .inl (cJ, 5, .inr (.inl fl)))]) [0, 1, 2, 3, 4, 5, 6] (by decide) rfl) hS (lv_sub hl [0, 1, 2, 3] rfl)
          exact lp_673 _ 1 0 _ _ _ ⟨(by first | omega | assumption | decide | exact LK_0 | exact OM_0 | exact CE_0 | exact SZI_0 | exact CLR_0 | exact CP_0 | exact PV_0 | exact BV_0 (by assumption) (by omega) (by omega) | exact LK_mono (by assumption) (by omega) | exact OM_mono (by assumption) (by omega) | exact CE_mono (by assumption) (by omega) | exact CLR_mono (by assumption) (by omega) | exact CP_mono (by assumption) (by omega) | (have e0 := T0; have e1 := T1; have e2 := T2; have em1 := Tm1; omega)), (by first | omega | assumption | decide | exact LK_0 | exact OM_0 | exact CE_0 | exact SZI_0 | exact CLR_0 | exact CP_0 | exact PV_0 | exact BV_0 (by assumption) (by omega) (by omega) | exact LK_mono (by assumption) (by omega) | exact OM_mono (by assumption) (by omega) | exact CE_mono (by assumption) (by omega) | exact CLR_mono (by assumption) (by omega) | exact CP_mono (by assumption) (by omega) | (have e0 := T0; have e1 := T1; have e2 := T2; have em1 := Tm1; omega)), (by first | omega | assumption | decide | exact LK_0 | exact OM_0 | exact CE_0 | exact SZI_0 | exact CLR_0 | exact CP_0 | exact PV_0 | exact BV_0 (by assumption) (by omega) (by omega) | exact LK_mono (by assumption) (by omega) | exact OM_mono (by assumption) (by omega) | exact CE_mono (by assumption) (by omega) | exact CLR_mono (by assumption) (by omega) | exact CP_mono (by assumption) (by omega) | (have e0 := T0; have e1 := T1; have e2 := T2; have em1 := Tm1; omega))⟩ (Nat.lt_succ_self _) hP hD hS (lv_sub hl [0, 1, 2, 3] rfl)
        · (try simp only [i_lt, i_le, i_eq, T0] at c_557)
          refine lv_aload_n hx hb dX9_laysDay_28 rfl (lv_at hl 0 rfl) ?_
          refine lv_dup hx hb dX9_laysDay_29 rfl ?_
          refine va_get (D := (dC, dI)) (ci := 9) (v := .int wv_11) (C := RX9) (T := TX9) (N := 38) hx hb ht iX9 hown hK hP 0 rfl rfl 29 (by decide) (ht _ w_1291) (fun _ h9 => h9) rfl dX9_laysDay_30 ?_
          refine lv_iconst (v := 1) hx hb dX9_laysDay_33 (by decide) ?_
          refine lv_iadd hx hb dX9_laysDay_34 ?_
          refine lv_topi (fun y_735 ey_735 => ?_)
          have ty_735 := iaddF ey_735
          simp only [T1] at ty_735
          clear ey_735
          refine va_put (D := (dC, dI)) (ci := 9) (v := .int y_735) (ty := .int) (C := RX9) (T := TX9) (N := 38) hx hb ht iX9 tyX9 tyX9_ok nmX9 hown hK hP hD hS 0 rfl rfl 29 (by decide) (ht _ w_1291) (fun _ h9 => h9) rfl (by decide +kernel) rfl rfl (Nat.le_of_ble_eq_true rfl) dX9_laysDay_35 (fun H locs hP hD hS => ?_)
          have hP : va_P (dC, dI) vwCl [((g 0), .inr (9, [.int g_th, .ref (g 1), .ref (g 2), .ref (g 3), .ref (g 4), .ref (g 5), .int g_tp, .int g_so, .int g_tk, .int g_pl, .int g_va, .long g_wo, .int g_bd, .int g_bp, .int g_fa, .int g_fp, .ref (g 6), .ref (g 7), .ref (g 8), .ref (g 9), .ref (g 10), .ref (g 11), .int g_lw, .int g_we, .int g_cu, .int g_go, .int g_ba, .ref (g 12), .ref (g 13), .int y_735, .ref (g 14), .ref (g 15), .long g_bt, .int g_sb, .int g_ab, .int g_al, .ref (g 16), .ref (g 17)])), ((g 7), .inl (cI, 35, .inl hs)), ((g 10), .inl (cI, 450, .inl ac)), ((g 12), .inl (cI, 5, .inl om)), ((g 13), .inl (cI, 5, .inl lk)), ((g 14), .inl (cJ, 6, .inr (.inl pa))), ((g 15), .inl (cJ, 5, .inr (.inl fl)))] H := hP
          have hD : va_D A [((g 0), .inr (9, [.int g_th, .ref (g 1), .ref (g 2), .ref (g 3), .ref (g 4), .ref (g 5), .int g_tp, .int g_so, .int g_tk, .int g_pl, .int g_va, .long g_wo, .int g_bd, .int g_bp, .int g_fa, .int g_fp, .ref (g 6), .ref (g 7), .ref (g 8), .ref (g 9), .ref (g 10), .ref (g 11), .int g_lw, .int g_we, .int g_cu, .int g_go, .int g_ba, .ref (g 12), .ref (g 13), .int y_735, .ref (g 14), .ref (g 15), .long g_bt, .int g_sb, .int g_ab, .int g_al, .ref (g 16), .ref (g 17)])), ((g 7), .inl (cI, 35, .inl hs)), ((g 10), .inl (cI, 450, .inl ac)), ((g 12), .inl (cI, 5, .inl om)), ((g 13), .inl (cI, 5, .inl lk)), ((g 14), .inl (cJ, 6, .inr (.inl pa))), ((g 15), .inl (cJ, 5, .inr (.inl fl)))] := hD
          refine lv_goto (tgt := 5) hx hb dX9_laysDay_38 (by decide) ?_
          exact ih_373 y_735 _ _ _ ⟨(by first | omega | assumption | decide | exact LK_0 | exact OM_0 | exact CE_0 | exact SZI_0 | exact CLR_0 | exact CP_0 | exact PV_0 | exact BV_0 (by assumption) (by omega) (by omega) | exact LK_mono (by assumption) (by omega) | exact OM_mono (by assumption) (by omega) | exact CE_mono (by assumption) (by omega) | exact CLR_mono (by assumption) (by omega) | exact CP_mono (by assumption) (by omega) | (have e0 := T0; have e1 := T1; have e2 := T2; have em1 := Tm1; omega)), (by first | omega | assumption | decide | exact LK_0 | exact OM_0 | exact CE_0 | exact SZI_0 | exact CLR_0 | exact CP_0 | exact PV_0 | exact BV_0 (by assumption) (by omega) (by omega) | exact LK_mono (by assumption) (by omega) | exact OM_mono (by assumption) (by omega) | exact CE_mono (by assumption) (by omega) | exact CLR_mono (by assumption) (by omega) | exact CP_mono (by assumption) (by omega) | (have e0 := T0; have e1 := T1; have e2 := T2; have em1 := Tm1; omega))⟩ (by omega) (hP.sub (ws' := [((g 0), .inr (9, [.int g_th, .ref (g 1), .ref (g 2), .ref (g 3), .ref (g 4), .ref (g 5), .int g_tp, .int g_so, .int g_tk, .int g_pl, .int g_va, .long g_wo, .int g_bd, .int g_bp, .int g_fa, .int g_fp, .ref (g 6), .ref (g 7), .ref (g 8), .ref (g 9), .ref (g 10), .ref (g 11), .int g_lw, .int g_we, .int g_cu, .int g_go, .int g_ba, .ref (g 12), .ref (g 13), .int y_735, .ref (g 14), .ref (g 15), .long g_bt, .int g_sb, .int g_ab, .int g_al, .ref (g 16), .ref (g 17)])), ((g 7), .inl (cI, 35, .inl hs)), ((g 10), .inl (cI, 450, .inl ac)), ((g 12), .inl (cI, 5, .inl om)), ((g 13), .inl (cI, 5, .inl lk)), ((g 14), .inl (cJ, 6, .inr (.inl pa))), ((g 15), .inl (cJ, 5, .inr (.inl fl)))]) [0, 1, 2, 3, 4, 5, 6] rfl) (hD.sub (ws' := [((g 0), .inr (9, [.int g_th, .ref (g 1), .ref (g 2), .ref (g 3), .ref (g 4), .ref (g 5), .int g_tp, .int g_so, .int g_tk, .int g_pl, .int g_va, .long g_wo, .int g_bd, .int g_bp, .int g_fa, .int g_fp, .ref (g 6), .ref (g 7), .ref (g 8), .ref (g 9), .ref (g 10), .ref (g 11), .int g_lw, .int g_we, .int g_cu, .int g_go, .int g_ba, .ref (g 12), .ref (g 13), .int y_735, .ref (g 14), .ref (g 15), .long g_bt, .int g_sb, .int g_ab, .int g_al, .ref (g 16), .ref (g 17)])), ((g 7), .inl (cI, 35, .inl hs)), ((g 10), .inl (cI, 450, .inl ac)), ((g 12), .inl (cI, 5, .inl om)), ((g 13), .inl (cI, 5, .inl lk)), ((g 14), .inl (cJ, 6, .inr (.inl pa))), ((g 15), .inl (cJ, 5, .inr (.inl fl)))]) [0, 1, 2, 3, 4, 5, 6] (by decide) rfl) hS (lv_sub hl [0, 1] rfl)
  exact lp_372 _ 0 _ _ _ ⟨(by first | omega | assumption | decide | exact LK_0 | exact OM_0 | exact CE_0 | exact SZI_0 | exact CLR_0 | exact CP_0 | exact PV_0 | exact BV_0 (by assumption) (by omega) (by omega) | exact LK_mono (by assumption) (by omega) | exact OM_mono (by assumption) (by omega) | exact CE_mono (by assumption) (by omega) | exact CLR_mono (by assumption) (by omega) | exact CP_mono (by assumption) (by omega) | (have e0 := T0; have e1 := T1; have e2 := T2; have em1 := Tm1; omega)), (by first | omega | assumption | decide | exact LK_0 | exact OM_0 | exact CE_0 | exact SZI_0 | exact CLR_0 | exact CP_0 | exact PV_0 | exact BV_0 (by assumption) (by omega) (by omega) | exact LK_mono (by assumption) (by omega) | exact OM_mono (by assumption) (by omega) | exact CE_mono (by assumption) (by omega) | exact CLR_mono (by assumption) (by omega) | exact CP_mono (by assumption) (by omega) | (have e0 := T0; have e1 := T1; have e2 := T2; have em1 := Tm1; omega))⟩ (Nat.lt_succ_self _) hP hD hS (lv_sub hl [0, 1] rfl)
