set_option maxHeartbeats 8000000 in
set_option maxRecDepth 100000 in
theorem lm_bright {p : Program} {l : Launch} {e : Env} {s : State} {m : MethodId} {below : List Frame} {meth : Method} {c : Code} {b L : Nat} {xs : Nat → Int32} {dC : Nat → ClassId} {dI : Nat → Nat → Nat} {cB cI cJ cZ cL : ClassId} (C0 : lw_At p s m meth c b L xs) (hN : NW s) (hK : va_K (dC, dI) vwCl (tyL cB cI cJ cZ cL) s) {g : Nat → Nat} {pX T : va_W} {u : MT} (hI : MI u)  {pc : Nat} {ls : Array Slot} {rest : List Value} {H : Heap} {locs : List Loc} {cells slots : Nat} (hls : ls.size = 4) (hrest : (rest.map fun v => v.category).sum ≤ 8) (hc : cells + 0 ≤ room_1.cells ∧ slots + 0 ≤ room_1.slots) (hdg : decode code pc = .ok (.invokevirtual 146, 3)) (hP : va_P (dC, dI) vwCl (pX ++ (WM g cB cI cJ cZ cL u ++ T)) H) (hD : va_D (fun q : Nat => s.heap.size ≤ q) (pX ++ (WM g cB cI cJ cZ cL u ++ T))) (hS : va_S (fun q : Nat => s.heap.size ≤ q) s.heap H locs) (k : ∀ (r : Int32) (u' : MT) (H : Heap) (locs : List Loc), MI u' → (MSf u' = MSf u) → va_P (dC, dI) vwCl (pX ++ (WM g cB cI cJ cZ cL u' ++ T)) H → va_D (fun q : Nat => s.heap.size ≤ q) (pX ++ (WM g cB cI cJ cZ cL u' ++ T)) → va_S (fun q : Nat => s.heap.size ≤ q) s.heap H locs → W p l e room_1 s m #[Value.ref b] below meth c H locs cells slots (lw_Z below #[Value.ref b] s) (F0 m (pc + 3) ls (.int r :: rest))) : W p l e room_1 s m #[Value.ref b] below meth c H locs cells slots (lw_Z below #[Value.ref b] s) (F0 m pc ls (.ref (g 0) :: rest)) := by
  obtain ⟨hx, hb, hr, hml, hown, hts, hX, hbl, hlocks, hgv⟩ := id C0
  have ht : ∀ w ∈ lw_ok, w.before #[Value.ref b] s = true := fun w h => hts w (List.mem_filter.mp h).1
  have hM : ∀ u : MT, MI u → GM2 l dC dI cB cI cJ cZ cL g u yX9_bright (wy yX9_bright cX9_bright 1 (some FieldType.int)) ({ frames := 6, cells := 0, slots := 0, locals := 240 }) [] H.size := by
    clear hP hD hS k hI
    intro u hI
    obtain ⟨mg_th, mg_tp, mg_so, mg_tk, mg_pl, mg_va, mg_wo, mg_bd, mg_bp, mg_fa, mg_fp, mg_lw, mg_we, mg_cu, mg_go, mg_ba, mg_jo, mg_bt, mg_sb, mg_ab, mg_al, mwd, mmn, mce, mmv, mtb, mli, mhs, msp, mwt, mac, mik, mom, mlk, mpa, mfl, mav, mbv⟩ := u
    obtain ⟨i_wi, i_tp, i_mn⟩ := hI
    have h0 := i_wi.h0
    have h4 := i_wi.h4
    have h5 := i_wi.h5
    have h6 := i_wi.h6
    have hsp := i_wi.sp0
    exact (s_X9_bright l dC dI cB cI cJ cZ cL H.size g mg_th mg_tp mg_so mg_tk mg_pl mg_va mg_wo mg_bd mg_bp mg_fa mg_fp mg_lw mg_we mg_cu mg_go mg_ba mg_jo mg_bt mg_sb mg_ab mg_al mli mhs msp mwt mac mom mlk mpa mfl (by first | assumption | omega) (by first | assumption | omega) (by first | assumption | omega) (by first | assumption | omega) (by first | assumption | omega))
  exact lg_GM2 C0 hN hK hI (As := []) hls hrest hc hdg (hM u hI) (cwV 0 ht (gV w_1693 w_1694 w_1695 w_114 w_1696) rfl rfl rfl (by decide +kernel) ⟨Nat.le_of_ble_eq_true rfl, Nat.le_of_ble_eq_true rfl⟩) rfl hP hD hS k
set_option maxHeartbeats 8000000 in
set_option maxRecDepth 100000 in
theorem lm_ends {p : Program} {l : Launch} {e : Env} {s : State} {m : MethodId} {below : List Frame} {meth : Method} {c : Code} {b L : Nat} {xs : Nat → Int32} {dC : Nat → ClassId} {dI : Nat → Nat → Nat} {cB cI cJ cZ cL : ClassId} (C0 : lw_At p s m meth c b L xs) (hN : NW s) (hK : va_K (dC, dI) vwCl (tyL cB cI cJ cZ cL) s) {g : Nat → Nat} {pX T : va_W} {u : MT} (hI : MI u) {p0 : Int32} {pc : Nat} {ls : Array Slot} {rest : List Value} {H : Heap} {locs : List Loc} {cells slots : Nat} (hls : ls.size = 4) (hrest : (rest.map fun v => v.category).sum ≤ 8) (hc : cells + 0 ≤ room_1.cells ∧ slots + 0 ≤ room_1.slots) (hdg : decode code pc = .ok (.invokevirtual 158, 3)) (hP : va_P (dC, dI) vwCl (pX ++ (WM g cB cI cJ cZ cL u ++ T)) H) (hD : va_D (fun q : Nat => s.heap.size ≤ q) (pX ++ (WM g cB cI cJ cZ cL u ++ T))) (hS : va_S (fun q : Nat => s.heap.size ≤ q) s.heap H locs) (k : ∀ (r : Int32) (u' : MT) (H : Heap) (locs : List Loc), MI u' → (MSf u' = MSf u) → va_P (dC, dI) vwCl (pX ++ (WM g cB cI cJ cZ cL u' ++ T)) H → va_D (fun q : Nat => s.heap.size ≤ q) (pX ++ (WM g cB cI cJ cZ cL u' ++ T)) → va_S (fun q : Nat => s.heap.size ≤ q) s.heap H locs → W p l e room_1 s m #[Value.ref b] below meth c H locs cells slots (lw_Z below #[Value.ref b] s) (F0 m (pc + 3) ls (.int r :: rest))) : W p l e room_1 s m #[Value.ref b] below meth c H locs cells slots (lw_Z below #[Value.ref b] s) (F0 m pc ls (.int p0 :: .ref (g 0) :: rest)) := by
  obtain ⟨hx, hb, hr, hml, hown, hts, hX, hbl, hlocks, hgv⟩ := id C0
  have ht : ∀ w ∈ lw_ok, w.before #[Value.ref b] s = true := fun w h => hts w (List.mem_filter.mp h).1
  have hM : ∀ u : MT, MI u → GM2 l dC dI cB cI cJ cZ cL g u yX9_ends (wy yX9_ends cX9_ends 2 (some FieldType.int)) ({ frames := 4, cells := 0, slots := 0, locals := 160 }) [.int p0] H.size := by
    clear hP hD hS k hI
    intro u hI
    obtain ⟨mg_th, mg_tp, mg_so, mg_tk, mg_pl, mg_va, mg_wo, mg_bd, mg_bp, mg_fa, mg_fp, mg_lw, mg_we, mg_cu, mg_go, mg_ba, mg_jo, mg_bt, mg_sb, mg_ab, mg_al, mwd, mmn, mce, mmv, mtb, mli, mhs, msp, mwt, mac, mik, mom, mlk, mpa, mfl, mav, mbv⟩ := u
    obtain ⟨i_wi, i_tp, i_mn⟩ := hI
    have h0 := i_wi.h0
    have h4 := i_wi.h4
    have h5 := i_wi.h5
    have h6 := i_wi.h6
    have hsp := i_wi.sp0
    exact (s_X9_ends l dC dI cB cI cJ cZ cL H.size g mg_th mg_tp mg_so mg_tk mg_pl mg_va mg_wo mg_bd mg_bp mg_fa mg_fp mg_lw mg_we mg_cu mg_go mg_ba mg_jo mg_bt mg_sb mg_ab mg_al mli mhs msp mwt mac mom mlk mpa mfl p0 (by first | assumption | omega) (by first | assumption | omega) (by first | assumption | omega) (by first | assumption | omega) (by first | assumption | omega))
  exact lg_GM2 C0 hN hK hI (As := [.int p0]) hls hrest hc hdg (hM u hI) (cwV 1 ht (gV w_1733 w_1734 w_1735 w_114 w_1736) rfl rfl rfl (by decide +kernel) ⟨Nat.le_of_ble_eq_true rfl, Nat.le_of_ble_eq_true rfl⟩) rfl hP hD hS k
set_option maxHeartbeats 8000000 in
set_option maxRecDepth 100000 in
theorem lm_reach {p : Program} {l : Launch} {e : Env} {s : State} {m : MethodId} {below : List Frame} {meth : Method} {c : Code} {b L : Nat} {xs : Nat → Int32} {dC : Nat → ClassId} {dI : Nat → Nat → Nat} {cB cI cJ cZ cL : ClassId} (C0 : lw_At p s m meth c b L xs) (hN : NW s) (hK : va_K (dC, dI) vwCl (tyL cB cI cJ cZ cL) s) {g : Nat → Nat} {pX T : va_W} {u : MT} (hI : MI u) {p0 : Int32} {pc : Nat} {ls : Array Slot} {rest : List Value} {H : Heap} {locs : List Loc} {cells slots : Nat} (hls : ls.size = 4) (hrest : (rest.map fun v => v.category).sum ≤ 8) (hc : cells + 0 ≤ room_1.cells ∧ slots + 0 ≤ room_1.slots) (hdg : decode code pc = .ok (.invokevirtual 162, 3)) (hP : va_P (dC, dI) vwCl (pX ++ (WM g cB cI cJ cZ cL u ++ T)) H) (hD : va_D (fun q : Nat => s.heap.size ≤ q) (pX ++ (WM g cB cI cJ cZ cL u ++ T))) (hS : va_S (fun q : Nat => s.heap.size ≤ q) s.heap H locs) (k : ∀ (r : Int32) (u' : MT) (H : Heap) (locs : List Loc), MI u' → (MSf u' = MSf u) → va_P (dC, dI) vwCl (pX ++ (WM g cB cI cJ cZ cL u' ++ T)) H → va_D (fun q : Nat => s.heap.size ≤ q) (pX ++ (WM g cB cI cJ cZ cL u' ++ T)) → va_S (fun q : Nat => s.heap.size ≤ q) s.heap H locs → W p l e room_1 s m #[Value.ref b] below meth c H locs cells slots (lw_Z below #[Value.ref b] s) (F0 m (pc + 3) ls (.int r :: rest))) : W p l e room_1 s m #[Value.ref b] below meth c H locs cells slots (lw_Z below #[Value.ref b] s) (F0 m pc ls (.int p0 :: .ref (g 0) :: rest)) := by
  obtain ⟨hx, hb, hr, hml, hown, hts, hX, hbl, hlocks, hgv⟩ := id C0
  have ht : ∀ w ∈ lw_ok, w.before #[Value.ref b] s = true := fun w h => hts w (List.mem_filter.mp h).1
  have hM : ∀ u : MT, MI u → GM2 l dC dI cB cI cJ cZ cL g u yX9_reach (wy yX9_reach cX9_reach 4 (some FieldType.int)) ({ frames := 5, cells := 0, slots := 0, locals := 200 }) [.int p0] H.size := by
    clear hP hD hS k hI
    intro u hI
    obtain ⟨mg_th, mg_tp, mg_so, mg_tk, mg_pl, mg_va, mg_wo, mg_bd, mg_bp, mg_fa, mg_fp, mg_lw, mg_we, mg_cu, mg_go, mg_ba, mg_jo, mg_bt, mg_sb, mg_ab, mg_al, mwd, mmn, mce, mmv, mtb, mli, mhs, msp, mwt, mac, mik, mom, mlk, mpa, mfl, mav, mbv⟩ := u
    obtain ⟨i_wi, i_tp, i_mn⟩ := hI
    have h0 := i_wi.h0
    have h4 := i_wi.h4
    have h5 := i_wi.h5
    have h6 := i_wi.h6
    have hsp := i_wi.sp0
    exact (s_X9_reach l dC dI cB cI cJ cZ cL H.size g mg_th mg_tp mg_so mg_tk mg_pl mg_va mg_wo mg_bd mg_bp mg_fa mg_fp mg_lw mg_we mg_cu mg_go mg_ba mg_jo mg_bt mg_sb mg_ab mg_al mli mhs msp mwt mac mom mlk mpa mfl p0 (by first | assumption | omega) (by first | assumption | omega) (by first | assumption | omega) (by first | assumption | omega) (by first | assumption | omega))
  exact lg_GM2 C0 hN hK hI (As := [.int p0]) hls hrest hc hdg (hM u hI) (cwV 1 ht (gV w_1737 w_1738 w_1739 w_114 w_1740) rfl rfl rfl (by decide +kernel) ⟨Nat.le_of_ble_eq_true rfl, Nat.le_of_ble_eq_true rfl⟩) rfl hP hD hS k
set_option maxHeartbeats 8000000 in
set_option maxRecDepth 100000 in
theorem lm_half {p : Program} {l : Launch} {e : Env} {s : State} {m : MethodId} {below : List Frame} {meth : Method} {c : Code} {b L : Nat} {xs : Nat → Int32} {dC : Nat → ClassId} {dI : Nat → Nat → Nat} {cB cI cJ cZ cL : ClassId} (C0 : lw_At p s m meth c b L xs) (hN : NW s) (hK : va_K (dC, dI) vwCl (tyL cB cI cJ cZ cL) s) {g : Nat → Nat} {pX T : va_W} {u : MT} (hI : MI u) {p0 : Int32} {pc : Nat} {ls : Array Slot} {rest : List Value} {H : Heap} {locs : List Loc} {cells slots : Nat} (hls : ls.size = 4) (hrest : (rest.map fun v => v.category).sum ≤ 8) (hc : cells + 0 ≤ room_1.cells ∧ slots + 0 ≤ room_1.slots) (hdg : decode code pc = .ok (.invokevirtual 174, 3)) (hP : va_P (dC, dI) vwCl (pX ++ (WM g cB cI cJ cZ cL u ++ T)) H) (hD : va_D (fun q : Nat => s.heap.size ≤ q) (pX ++ (WM g cB cI cJ cZ cL u ++ T))) (hS : va_S (fun q : Nat => s.heap.size ≤ q) s.heap H locs) (k : ∀ (r : Int32) (u' : MT) (H : Heap) (locs : List Loc), MI u' → (MSf u' = MSf u) → va_P (dC, dI) vwCl (pX ++ (WM g cB cI cJ cZ cL u' ++ T)) H → va_D (fun q : Nat => s.heap.size ≤ q) (pX ++ (WM g cB cI cJ cZ cL u' ++ T)) → va_S (fun q : Nat => s.heap.size ≤ q) s.heap H locs → W p l e room_1 s m #[Value.ref b] below meth c H locs cells slots (lw_Z below #[Value.ref b] s) (F0 m (pc + 3) ls (.int r :: rest))) : W p l e room_1 s m #[Value.ref b] below meth c H locs cells slots (lw_Z below #[Value.ref b] s) (F0 m pc ls (.int p0 :: .ref (g 0) :: rest)) := by
  obtain ⟨hx, hb, hr, hml, hown, hts, hX, hbl, hlocks, hgv⟩ := id C0
  have ht : ∀ w ∈ lw_ok, w.before #[Value.ref b] s = true := fun w h => hts w (List.mem_filter.mp h).1
  have hM : ∀ u : MT, MI u → GM2 l dC dI cB cI cJ cZ cL g u yX9_half (wy yX9_half cX9_half 3 (some FieldType.int)) ({ frames := 4, cells := 0, slots := 0, locals := 160 }) [.int p0] H.size := by
    clear hP hD hS k hI
    intro u hI
    obtain ⟨mg_th, mg_tp, mg_so, mg_tk, mg_pl, mg_va, mg_wo, mg_bd, mg_bp, mg_fa, mg_fp, mg_lw, mg_we, mg_cu, mg_go, mg_ba, mg_jo, mg_bt, mg_sb, mg_ab, mg_al, mwd, mmn, mce, mmv, mtb, mli, mhs, msp, mwt, mac, mik, mom, mlk, mpa, mfl, mav, mbv⟩ := u
    obtain ⟨i_wi, i_tp, i_mn⟩ := hI
    have h0 := i_wi.h0
    have h4 := i_wi.h4
    have h5 := i_wi.h5
    have h6 := i_wi.h6
    have hsp := i_wi.sp0
    exact (s_X9_half l dC dI cB cI cJ cZ cL H.size g mg_th mg_tp mg_so mg_tk mg_pl mg_va mg_wo mg_bd mg_bp mg_fa mg_fp mg_lw mg_we mg_cu mg_go mg_ba mg_jo mg_bt mg_sb mg_ab mg_al mli mhs msp mwt mac mom mlk mpa mfl p0 (by first | assumption | omega) (by first | assumption | omega) (by first | assumption | omega) (by first | assumption | omega) (by first | assumption | omega))
  exact lg_GM2 C0 hN hK hI (As := [.int p0]) hls hrest hc hdg (hM u hI) (cwV 1 ht (gV w_1753 w_1754 w_1755 w_114 w_1756) rfl rfl rfl (by decide +kernel) ⟨Nat.le_of_ble_eq_true rfl, Nat.le_of_ble_eq_true rfl⟩) rfl hP hD hS k
set_option maxHeartbeats 8000000 in
set_option maxRecDepth 100000 in
theorem lm_steep {p : Program} {l : Launch} {e : Env} {s : State} {m : MethodId} {below : List Frame} {meth : Method} {c : Code} {b L : Nat} {xs : Nat → Int32} {dC : Nat → ClassId} {dI : Nat → Nat → Nat} {cB cI cJ cZ cL : ClassId} (C0 : lw_At p s m meth c b L xs) (hN : NW s) (hK : va_K (dC, dI) vwCl (tyL cB cI cJ cZ cL) s) {g : Nat → Nat} {pX T : va_W} {u : MT} (hI : MI u) {p0 : Int32} {pc : Nat} {ls : Array Slot} {rest : List Value} {H : Heap} {locs : List Loc} {cells slots : Nat} (hls : ls.size = 4) (hrest : (rest.map fun v => v.category).sum ≤ 8) (hc : cells + 0 ≤ room_1.cells ∧ slots + 0 ≤ room_1.slots) (hdg : decode code pc = .ok (.invokevirtual 182, 3)) (hP : va_P (dC, dI) vwCl (pX ++ (WM g cB cI cJ cZ cL u ++ T)) H) (hD : va_D (fun q : Nat => s.heap.size ≤ q) (pX ++ (WM g cB cI cJ cZ cL u ++ T))) (hS : va_S (fun q : Nat => s.heap.size ≤ q) s.heap H locs) (k : ∀ (r : Int32) (u' : MT) (H : Heap) (locs : List Loc), MI u' → (MSf u' = MSf u) → va_P (dC, dI) vwCl (pX ++ (WM g cB cI cJ cZ cL u' ++ T)) H → va_D (fun q : Nat => s.heap.size ≤ q) (pX ++ (WM g cB cI cJ cZ cL u' ++ T)) → va_S (fun q : Nat => s.heap.size ≤ q) s.heap H locs → W p l e room_1 s m #[Value.ref b] below meth c H locs cells slots (lw_Z below #[Value.ref b] s) (F0 m (pc + 3) ls (.int r :: rest))) : W p l e room_1 s m #[Value.ref b] below meth c H locs cells slots (lw_Z below #[Value.ref b] s) (F0 m pc ls (.int p0 :: .ref (g 0) :: rest)) := by
  obtain ⟨hx, hb, hr, hml, hown, hts, hX, hbl, hlocks, hgv⟩ := id C0
  have ht : ∀ w ∈ lw_ok, w.before #[Value.ref b] s = true := fun w h => hts w (List.mem_filter.mp h).1
  have hM : ∀ u : MT, MI u → GM2 l dC dI cB cI cJ cZ cL g u yX9_steep (wy yX9_steep cX9_steep 4 (some FieldType.int)) ({ frames := 4, cells := 0, slots := 0, locals := 160 }) [.int p0] H.size := by
    clear hP hD hS k hI
    intro u hI
    obtain ⟨mg_th, mg_tp, mg_so, mg_tk, mg_pl, mg_va, mg_wo, mg_bd, mg_bp, mg_fa, mg_fp, mg_lw, mg_we, mg_cu, mg_go, mg_ba, mg_jo, mg_bt, mg_sb, mg_ab, mg_al, mwd, mmn, mce, mmv, mtb, mli, mhs, msp, mwt, mac, mik, mom, mlk, mpa, mfl, mav, mbv⟩ := u
    obtain ⟨i_wi, i_tp, i_mn⟩ := hI
    have h0 := i_wi.h0
    have h4 := i_wi.h4
    have h5 := i_wi.h5
    have h6 := i_wi.h6
    have hsp := i_wi.sp0
    exact (s_X9_steep l dC dI cB cI cJ cZ cL H.size g mg_th mg_tp mg_so mg_tk mg_pl mg_va mg_wo mg_bd mg_bp mg_fa mg_fp mg_lw mg_we mg_cu mg_go mg_ba mg_jo mg_bt mg_sb mg_ab mg_al mli mhs msp mwt mac mom mlk mpa mfl p0 (by first | assumption | omega) (by first | assumption | omega) (by first | assumption | omega) (by first | assumption | omega) (by first | assumption | omega))
  exact lg_GM2 C0 hN hK hI (As := [.int p0]) hls hrest hc hdg (hM u hI) (cwV 1 ht (gV w_1761 w_1762 w_1763 w_114 w_1764) rfl rfl rfl (by decide +kernel) ⟨Nat.le_of_ble_eq_true rfl, Nat.le_of_ble_eq_true rfl⟩) rfl hP hD hS k
set_option maxHeartbeats 8000000 in
set_option maxRecDepth 100000 in
theorem lm_mute {p : Program} {l : Launch} {e : Env} {s : State} {m : MethodId} {below : List Frame} {meth : Method} {c : Code} {b L : Nat} {xs : Nat → Int32} {dC : Nat → ClassId} {dI : Nat → Nat → Nat} {cB cI cJ cZ cL : ClassId} (C0 : lw_At p s m meth c b L xs) (hN : NW s) (hK : va_K (dC, dI) vwCl (tyL cB cI cJ cZ cL) s) {g : Nat → Nat} {pX T : va_W} {u : MT} (hI : MI u)  {pc : Nat} {ls : Array Slot} {rest : List Value} {H : Heap} {locs : List Loc} {cells slots : Nat} (hls : ls.size = 4) (hrest : (rest.map fun v => v.category).sum ≤ 8) (hc : cells + 0 ≤ room_1.cells ∧ slots + 0 ≤ room_1.slots) (hdg : decode code pc = .ok (.invokevirtual 186, 3)) (hP : va_P (dC, dI) vwCl (pX ++ (WM g cB cI cJ cZ cL u ++ T)) H) (hD : va_D (fun q : Nat => s.heap.size ≤ q) (pX ++ (WM g cB cI cJ cZ cL u ++ T))) (hS : va_S (fun q : Nat => s.heap.size ≤ q) s.heap H locs) (k : ∀ (r : Int32) (u' : MT) (H : Heap) (locs : List Loc), MI u' → (MSf u' = MSf u) → va_P (dC, dI) vwCl (pX ++ (WM g cB cI cJ cZ cL u' ++ T)) H → va_D (fun q : Nat => s.heap.size ≤ q) (pX ++ (WM g cB cI cJ cZ cL u' ++ T)) → va_S (fun q : Nat => s.heap.size ≤ q) s.heap H locs → W p l e room_1 s m #[Value.ref b] below meth c H locs cells slots (lw_Z below #[Value.ref b] s) (F0 m (pc + 3) ls (.int r :: rest))) : W p l e room_1 s m #[Value.ref b] below meth c H locs cells slots (lw_Z below #[Value.ref b] s) (F0 m pc ls (.ref (g 0) :: rest)) := by
  obtain ⟨hx, hb, hr, hml, hown, hts, hX, hbl, hlocks, hgv⟩ := id C0
  have ht : ∀ w ∈ lw_ok, w.before #[Value.ref b] s = true := fun w h => hts w (List.mem_filter.mp h).1
  have hM : ∀ u : MT, MI u → GM2 l dC dI cB cI cJ cZ cL g u yX9_mute (wy yX9_mute cX9_mute 3 (some FieldType.int)) ({ frames := 5, cells := 0, slots := 0, locals := 200 }) [] H.size := by
    clear hP hD hS k hI
    intro u hI
    obtain ⟨mg_th, mg_tp, mg_so, mg_tk, mg_pl, mg_va, mg_wo, mg_bd, mg_bp, mg_fa, mg_fp, mg_lw, mg_we, mg_cu, mg_go, mg_ba, mg_jo, mg_bt, mg_sb, mg_ab, mg_al, mwd, mmn, mce, mmv, mtb, mli, mhs, msp, mwt, mac, mik, mom, mlk, mpa, mfl, mav, mbv⟩ := u
    obtain ⟨i_wi, i_tp, i_mn⟩ := hI
    have h0 := i_wi.h0
    have h4 := i_wi.h4
    have h5 := i_wi.h5
    have h6 := i_wi.h6
    have hsp := i_wi.sp0
    exact (s_X9_mute l dC dI cB cI cJ cZ cL H.size g mg_th mg_tp mg_so mg_tk mg_pl mg_va mg_wo mg_bd mg_bp mg_fa mg_fp mg_lw mg_we mg_cu mg_go mg_ba mg_jo mg_bt mg_sb mg_ab mg_al mli mhs msp mwt mac mom mlk mpa mfl (by first | assumption | omega) (by first | assumption | omega) (by first | assumption | omega) (by first | assumption | omega) (by first | assumption | omega))
  exact lg_GM2 C0 hN hK hI (As := []) hls hrest hc hdg (hM u hI) (cwV 0 ht (gV w_1765 w_1766 w_1767 w_114 w_1768) rfl rfl rfl (by decide +kernel) ⟨Nat.le_of_ble_eq_true rfl, Nat.le_of_ble_eq_true rfl⟩) rfl hP hD hS k
set_option maxHeartbeats 8000000 in
set_option maxRecDepth 100000 in
theorem lm_changes {p : Program} {l : Launch} {e : Env} {s : State} {m : MethodId} {below : List Frame} {meth : Method} {c : Code} {b L : Nat} {xs : Nat → Int32} {dC : Nat → ClassId} {dI : Nat → Nat → Nat} {cB cI cJ cZ cL : ClassId} (C0 : lw_At p s m meth c b L xs) (hN : NW s) (hK : va_K (dC, dI) vwCl (tyL cB cI cJ cZ cL) s) {g : Nat → Nat} {pX T : va_W} {u : MT} (hI : MI u)  {pc : Nat} {ls : Array Slot} {rest : List Value} {H : Heap} {locs : List Loc} {cells slots : Nat} (hls : ls.size = 4) (hrest : (rest.map fun v => v.category).sum ≤ 8) (hc : cells + 0 ≤ room_1.cells ∧ slots + 0 ≤ room_1.slots) (hdg : decode code pc = .ok (.invokevirtual 190, 3)) (hP : va_P (dC, dI) vwCl (pX ++ (WM g cB cI cJ cZ cL u ++ T)) H) (hD : va_D (fun q : Nat => s.heap.size ≤ q) (pX ++ (WM g cB cI cJ cZ cL u ++ T))) (hS : va_S (fun q : Nat => s.heap.size ≤ q) s.heap H locs) (k : ∀ (r : Int32) (u' : MT) (H : Heap) (locs : List Loc), MI u' → (MSf u' = MSf u) → va_P (dC, dI) vwCl (pX ++ (WM g cB cI cJ cZ cL u' ++ T)) H → va_D (fun q : Nat => s.heap.size ≤ q) (pX ++ (WM g cB cI cJ cZ cL u' ++ T)) → va_S (fun q : Nat => s.heap.size ≤ q) s.heap H locs → W p l e room_1 s m #[Value.ref b] below meth c H locs cells slots (lw_Z below #[Value.ref b] s) (F0 m (pc + 3) ls (.int r :: rest))) : W p l e room_1 s m #[Value.ref b] below meth c H locs cells slots (lw_Z below #[Value.ref b] s) (F0 m pc ls (.ref (g 0) :: rest)) := by
  obtain ⟨hx, hb, hr, hml, hown, hts, hX, hbl, hlocks, hgv⟩ := id C0
  have ht : ∀ w ∈ lw_ok, w.before #[Value.ref b] s = true := fun w h => hts w (List.mem_filter.mp h).1
  have hM : ∀ u : MT, MI u → GM2 l dC dI cB cI cJ cZ cL g u yX9_changes (wy yX9_changes cX9_changes 3 (some FieldType.int)) ({ frames := 5, cells := 0, slots := 0, locals := 200 }) [] H.size := by
    clear hP hD hS k hI
    intro u hI
    obtain ⟨mg_th, mg_tp, mg_so, mg_tk, mg_pl, mg_va, mg_wo, mg_bd, mg_bp, mg_fa, mg_fp, mg_lw, mg_we, mg_cu, mg_go, mg_ba, mg_jo, mg_bt, mg_sb, mg_ab, mg_al, mwd, mmn, mce, mmv, mtb, mli, mhs, msp, mwt, mac, mik, mom, mlk, mpa, mfl, mav, mbv⟩ := u
    obtain ⟨i_wi, i_tp, i_mn⟩ := hI
    have h0 := i_wi.h0
    have h4 := i_wi.h4
    have h5 := i_wi.h5
    have h6 := i_wi.h6
    have hsp := i_wi.sp0
    exact (s_X9_changes l dC dI cB cI cJ cZ cL H.size g mg_th mg_tp mg_so mg_tk mg_pl mg_va mg_wo mg_bd mg_bp mg_fa mg_fp mg_lw mg_we mg_cu mg_go mg_ba mg_jo mg_bt mg_sb mg_ab mg_al mli mhs msp mwt mac mom mlk mpa mfl (by first | assumption | omega) (by first | assumption | omega) (by first | assumption | omega) (by first | assumption | omega) (by first | assumption | omega))
  exact lg_GM2 C0 hN hK hI (As := []) hls hrest hc hdg (hM u hI) (cwV 0 ht (gV w_1769 w_1770 w_1771 w_114 w_1772) rfl rfl rfl (by decide +kernel) ⟨Nat.le_of_ble_eq_true rfl, Nat.le_of_ble_eq_true rfl⟩) rfl hP hD hS k
set_option maxHeartbeats 8000000 in
set_option maxRecDepth 100000 in
theorem lm_all {p : Program} {l : Launch} {e : Env} {s : State} {m : MethodId} {below : List Frame} {meth : Method} {c : Code} {b L : Nat} {xs : Nat → Int32} {dC : Nat → ClassId} {dI : Nat → Nat → Nat} {cB cI cJ cZ cL : ClassId} (C0 : lw_At p s m meth c b L xs) (hN : NW s) (hK : va_K (dC, dI) vwCl (tyL cB cI cJ cZ cL) s) {g : Nat → Nat} {pX T : va_W} {u : MT} (hI : MI u)  {pc : Nat} {ls : Array Slot} {rest : List Value} {H : Heap} {locs : List Loc} {cells slots : Nat} (hls : ls.size = 4) (hrest : (rest.map fun v => v.category).sum ≤ 8) (hc : cells + 0 ≤ room_1.cells ∧ slots + 0 ≤ room_1.slots) (hdg : decode code pc = .ok (.invokevirtual 194, 3)) (hP : va_P (dC, dI) vwCl (pX ++ (WM g cB cI cJ cZ cL u ++ T)) H) (hD : va_D (fun q : Nat => s.heap.size ≤ q) (pX ++ (WM g cB cI cJ cZ cL u ++ T))) (hS : va_S (fun q : Nat => s.heap.size ≤ q) s.heap H locs) (k : ∀ (r : Int32) (u' : MT) (H : Heap) (locs : List Loc), MI u' → (MSf u' = MSf u) → va_P (dC, dI) vwCl (pX ++ (WM g cB cI cJ cZ cL u' ++ T)) H → va_D (fun q : Nat => s.heap.size ≤ q) (pX ++ (WM g cB cI cJ cZ cL u' ++ T)) → va_S (fun q : Nat => s.heap.size ≤ q) s.heap H locs → W p l e room_1 s m #[Value.ref b] below meth c H locs cells slots (lw_Z below #[Value.ref b] s) (F0 m (pc + 3) ls (.int r :: rest))) : W p l e room_1 s m #[Value.ref b] below meth c H locs cells slots (lw_Z below #[Value.ref b] s) (F0 m pc ls (.ref (g 0) :: rest)) := by
  obtain ⟨hx, hb, hr, hml, hown, hts, hX, hbl, hlocks, hgv⟩ := id C0
  have ht : ∀ w ∈ lw_ok, w.before #[Value.ref b] s = true := fun w h => hts w (List.mem_filter.mp h).1
  have hM : ∀ u : MT, MI u → GM2 l dC dI cB cI cJ cZ cL g u yX9_all (wy yX9_all cX9_all 1 (some FieldType.int)) ({ frames := 7, cells := 0, slots := 0, locals := 280 }) [] H.size := by
    clear hP hD hS k hI
    intro u hI
    obtain ⟨mg_th, mg_tp, mg_so, mg_tk, mg_pl, mg_va, mg_wo, mg_bd, mg_bp, mg_fa, mg_fp, mg_lw, mg_we, mg_cu, mg_go, mg_ba, mg_jo, mg_bt, mg_sb, mg_ab, mg_al, mwd, mmn, mce, mmv, mtb, mli, mhs, msp, mwt, mac, mik, mom, mlk, mpa, mfl, mav, mbv⟩ := u
    obtain ⟨i_wi, i_tp, i_mn⟩ := hI
    have h0 := i_wi.h0
    have h4 := i_wi.h4
    have h5 := i_wi.h5
    have h6 := i_wi.h6
    have hsp := i_wi.sp0
    exact (s_X9_all l dC dI cB cI cJ cZ cL H.size g mg_th mg_tp mg_so mg_tk mg_pl mg_va mg_wo mg_bd mg_bp mg_fa mg_fp mg_lw mg_we mg_cu mg_go mg_ba mg_jo mg_bt mg_sb mg_ab mg_al mli mhs msp mwt mac mom mlk mpa mfl (by first | assumption | omega) (by first | assumption | omega) (by first | assumption | omega) (by first | assumption | omega) (by first | assumption | omega))
  exact lg_GM2 C0 hN hK hI (As := []) hls hrest hc hdg (hM u hI) (cwV 0 ht (gV w_1773 w_1774 w_1775 w_114 w_1776) rfl rfl rfl (by decide +kernel) ⟨Nat.le_of_ble_eq_true rfl, Nat.le_of_ble_eq_true rfl⟩) rfl hP hD hS k
set_option maxHeartbeats 8000000 in
set_option maxRecDepth 100000 in
theorem lm_lack {p : Program} {l : Launch} {e : Env} {s : State} {m : MethodId} {below : List Frame} {meth : Method} {c : Code} {b L : Nat} {xs : Nat → Int32} {dC : Nat → ClassId} {dI : Nat → Nat → Nat} {cB cI cJ cZ cL : ClassId} (C0 : lw_At p s m meth c b L xs) (hN : NW s) (hK : va_K (dC, dI) vwCl (tyL cB cI cJ cZ cL) s) {g : Nat → Nat} {pX T : va_W} {u : MT} (hI : MI u) {p0 : Int32} {pc : Nat} {ls : Array Slot} {rest : List Value} {H : Heap} {locs : List Loc} {cells slots : Nat} (hls : ls.size = 4) (hrest : (rest.map fun v => v.category).sum ≤ 8) (hc : cells + 0 ≤ room_1.cells ∧ slots + 0 ≤ room_1.slots) (hdg : decode code pc = .ok (.invokevirtual 210, 3)) (hP : va_P (dC, dI) vwCl (pX ++ (WM g cB cI cJ cZ cL u ++ T)) H) (hD : va_D (fun q : Nat => s.heap.size ≤ q) (pX ++ (WM g cB cI cJ cZ cL u ++ T))) (hS : va_S (fun q : Nat => s.heap.size ≤ q) s.heap H locs) (k : ∀ (r : Int32) (u' : MT) (H : Heap) (locs : List Loc), MI u' → (MSf u' = MSf u) → va_P (dC, dI) vwCl (pX ++ (WM g cB cI cJ cZ cL u' ++ T)) H → va_D (fun q : Nat => s.heap.size ≤ q) (pX ++ (WM g cB cI cJ cZ cL u' ++ T)) → va_S (fun q : Nat => s.heap.size ≤ q) s.heap H locs → W p l e room_1 s m #[Value.ref b] below meth c H locs cells slots (lw_Z below #[Value.ref b] s) (F0 m (pc + 3) ls (.int r :: rest))) : W p l e room_1 s m #[Value.ref b] below meth c H locs cells slots (lw_Z below #[Value.ref b] s) (F0 m pc ls (.int p0 :: .ref (g 0) :: rest)) := by
  obtain ⟨hx, hb, hr, hml, hown, hts, hX, hbl, hlocks, hgv⟩ := id C0
  have ht : ∀ w ∈ lw_ok, w.before #[Value.ref b] s = true := fun w h => hts w (List.mem_filter.mp h).1
  have hM : ∀ u : MT, MI u → GM2 l dC dI cB cI cJ cZ cL g u yX9_lack (wy yX9_lack cX9_lack 5 (some FieldType.int)) ({ frames := 5, cells := 0, slots := 0, locals := 200 }) [.int p0] H.size := by
    clear hP hD hS k hI
    intro u hI
    obtain ⟨mg_th, mg_tp, mg_so, mg_tk, mg_pl, mg_va, mg_wo, mg_bd, mg_bp, mg_fa, mg_fp, mg_lw, mg_we, mg_cu, mg_go, mg_ba, mg_jo, mg_bt, mg_sb, mg_ab, mg_al, mwd, mmn, mce, mmv, mtb, mli, mhs, msp, mwt, mac, mik, mom, mlk, mpa, mfl, mav, mbv⟩ := u
    obtain ⟨i_wi, i_tp, i_mn⟩ := hI
    have h0 := i_wi.h0
    have h4 := i_wi.h4
    have h5 := i_wi.h5
    have h6 := i_wi.h6
    have hsp := i_wi.sp0
    exact (s_X9_lack l dC dI cB cI cJ cZ cL H.size g mg_th mg_tp mg_so mg_tk mg_pl mg_va mg_wo mg_bd mg_bp mg_fa mg_fp mg_lw mg_we mg_cu mg_go mg_ba mg_jo mg_bt mg_sb mg_ab mg_al mli mhs msp mwt mac mom mlk mpa mfl p0 (by first | assumption | omega) (by first | assumption | omega) (by first | assumption | omega) (by first | assumption | omega) (by first | assumption | omega))
  exact lg_GM2 C0 hN hK hI (As := [.int p0]) hls hrest hc hdg (hM u hI) (cwV 1 ht (gV w_1793 w_1794 w_1795 w_114 w_1796) rfl rfl rfl (by decide +kernel) ⟨Nat.le_of_ble_eq_true rfl, Nat.le_of_ble_eq_true rfl⟩) rfl hP hD hS k
set_option maxHeartbeats 8000000 in
set_option maxRecDepth 100000 in
theorem lm_loud {p : Program} {l : Launch} {e : Env} {s : State} {m : MethodId} {below : List Frame} {meth : Method} {c : Code} {b L : Nat} {xs : Nat → Int32} {dC : Nat → ClassId} {dI : Nat → Nat → Nat} {cB cI cJ cZ cL : ClassId} (C0 : lw_At p s m meth c b L xs) (hN : NW s) (hK : va_K (dC, dI) vwCl (tyL cB cI cJ cZ cL) s) {g : Nat → Nat} {pX T : va_W} {u : MT} (hI : MI u) {p0 : Int32} {pc : Nat} {ls : Array Slot} {rest : List Value} {H : Heap} {locs : List Loc} {cells slots : Nat} (hls : ls.size = 4) (hrest : (rest.map fun v => v.category).sum ≤ 8) (hc : cells + 0 ≤ room_1.cells ∧ slots + 0 ≤ room_1.slots) (hdg : decode code pc = .ok (.invokevirtual 214, 3)) (hP : va_P (dC, dI) vwCl (pX ++ (WM g cB cI cJ cZ cL u ++ T)) H) (hD : va_D (fun q : Nat => s.heap.size ≤ q) (pX ++ (WM g cB cI cJ cZ cL u ++ T))) (hS : va_S (fun q : Nat => s.heap.size ≤ q) s.heap H locs) (k : ∀ (r : Int32) (u' : MT) (H : Heap) (locs : List Loc), MI u' → (MSf u' = MSf u) → va_P (dC, dI) vwCl (pX ++ (WM g cB cI cJ cZ cL u' ++ T)) H → va_D (fun q : Nat => s.heap.size ≤ q) (pX ++ (WM g cB cI cJ cZ cL u' ++ T)) → va_S (fun q : Nat => s.heap.size ≤ q) s.heap H locs → W p l e room_1 s m #[Value.ref b] below meth c H locs cells slots (lw_Z below #[Value.ref b] s) (F0 m (pc + 3) ls (.int r :: rest))) : W p l e room_1 s m #[Value.ref b] below meth c H locs cells slots (lw_Z below #[Value.ref b] s) (F0 m pc ls (.int p0 :: .ref (g 0) :: rest)) := by
  obtain ⟨hx, hb, hr, hml, hown, hts, hX, hbl, hlocks, hgv⟩ := id C0
  have ht : ∀ w ∈ lw_ok, w.before #[Value.ref b] s = true := fun w h => hts w (List.mem_filter.mp h).1
  have hM : ∀ u : MT, MI u → GM2 l dC dI cB cI cJ cZ cL g u yX9_loud (wy yX9_loud cX9_loud 4 (some FieldType.int)) ({ frames := 4, cells := 0, slots := 0, locals := 160 }) [.int p0] H.size := by
    clear hP hD hS k hI
    intro u hI
    obtain ⟨mg_th, mg_tp, mg_so, mg_tk, mg_pl, mg_va, mg_wo, mg_bd, mg_bp, mg_fa, mg_fp, mg_lw, mg_we, mg_cu, mg_go, mg_ba, mg_jo, mg_bt, mg_sb, mg_ab, mg_al, mwd, mmn, mce, mmv, mtb, mli, mhs, msp, mwt, mac, mik, mom, mlk, mpa, mfl, mav, mbv⟩ := u
    obtain ⟨i_wi, i_tp, i_mn⟩ := hI
    have h0 := i_wi.h0
    have h4 := i_wi.h4
    have h5 := i_wi.h5
    have h6 := i_wi.h6
    have hsp := i_wi.sp0
    exact (s_X9_loud l dC dI cB cI cJ cZ cL H.size g mg_th mg_tp mg_so mg_tk mg_pl mg_va mg_wo mg_bd mg_bp mg_fa mg_fp mg_lw mg_we mg_cu mg_go mg_ba mg_jo mg_bt mg_sb mg_ab mg_al mli mhs msp mwt mac mom mlk mpa mfl p0 (by first | assumption | omega) (by first | assumption | omega) (by first | assumption | omega) (by first | assumption | omega) (by first | assumption | omega))
  exact lg_GM2 C0 hN hK hI (As := [.int p0]) hls hrest hc hdg (hM u hI) (cwV 1 ht (gV w_1797 w_1798 w_1799 w_114 w_1800) rfl rfl rfl (by decide +kernel) ⟨Nat.le_of_ble_eq_true rfl, Nat.le_of_ble_eq_true rfl⟩) rfl hP hD hS k
set_option maxHeartbeats 8000000 in
set_option maxRecDepth 100000 in
theorem lm_weakest {p : Program} {l : Launch} {e : Env} {s : State} {m : MethodId} {below : List Frame} {meth : Method} {c : Code} {b L : Nat} {xs : Nat → Int32} {dC : Nat → ClassId} {dI : Nat → Nat → Nat} {cB cI cJ cZ cL : ClassId} (C0 : lw_At p s m meth c b L xs) (hN : NW s) (hK : va_K (dC, dI) vwCl (tyL cB cI cJ cZ cL) s) {g : Nat → Nat} {pX T : va_W} {u : MT} (hI : MI u)  {pc : Nat} {ls : Array Slot} {rest : List Value} {H : Heap} {locs : List Loc} {cells slots : Nat} (hls : ls.size = 4) (hrest : (rest.map fun v => v.category).sum ≤ 8) (hc : cells + 0 ≤ room_1.cells ∧ slots + 0 ≤ room_1.slots) (hdg : decode code pc = .ok (.invokevirtual 218, 3)) (hP : va_P (dC, dI) vwCl (pX ++ (WM g cB cI cJ cZ cL u ++ T)) H) (hD : va_D (fun q : Nat => s.heap.size ≤ q) (pX ++ (WM g cB cI cJ cZ cL u ++ T))) (hS : va_S (fun q : Nat => s.heap.size ≤ q) s.heap H locs) (k : ∀ (r : Int32) (u' : MT) (H : Heap) (locs : List Loc), MI u' → (MSf u' = MSf u) → va_P (dC, dI) vwCl (pX ++ (WM g cB cI cJ cZ cL u' ++ T)) H → va_D (fun q : Nat => s.heap.size ≤ q) (pX ++ (WM g cB cI cJ cZ cL u' ++ T)) → va_S (fun q : Nat => s.heap.size ≤ q) s.heap H locs → W p l e room_1 s m #[Value.ref b] below meth c H locs cells slots (lw_Z below #[Value.ref b] s) (F0 m (pc + 3) ls (.int r :: rest))) : W p l e room_1 s m #[Value.ref b] below meth c H locs cells slots (lw_Z below #[Value.ref b] s) (F0 m pc ls (.ref (g 0) :: rest)) := by
  obtain ⟨hx, hb, hr, hml, hown, hts, hX, hbl, hlocks, hgv⟩ := id C0
  have ht : ∀ w ∈ lw_ok, w.before #[Value.ref b] s = true := fun w h => hts w (List.mem_filter.mp h).1
  have hM : ∀ u : MT, MI u → GM2 l dC dI cB cI cJ cZ cL g u yX9_weakest (wy yX9_weakest cX9_weakest 1 (some FieldType.int)) ({ frames := 7, cells := 0, slots := 0, locals := 280 }) [] H.size := by
    clear hP hD hS k hI
    intro u hI
    obtain ⟨mg_th, mg_tp, mg_so, mg_tk, mg_pl, mg_va, mg_wo, mg_bd, mg_bp, mg_fa, mg_fp, mg_lw, mg_we, mg_cu, mg_go, mg_ba, mg_jo, mg_bt, mg_sb, mg_ab, mg_al, mwd, mmn, mce, mmv, mtb, mli, mhs, msp, mwt, mac, mik, mom, mlk, mpa, mfl, mav, mbv⟩ := u
    obtain ⟨i_wi, i_tp, i_mn⟩ := hI
    have h0 := i_wi.h0
    have h4 := i_wi.h4
    have h5 := i_wi.h5
    have h6 := i_wi.h6
    have hsp := i_wi.sp0
    exact (s_X9_weakest l dC dI cB cI cJ cZ cL H.size g mg_th mg_tp mg_so mg_tk mg_pl mg_va mg_wo mg_bd mg_bp mg_fa mg_fp mg_lw mg_we mg_cu mg_go mg_ba mg_jo mg_bt mg_sb mg_ab mg_al mli mhs msp mwt mac mom mlk mpa mfl (by first | assumption | omega) (by first | assumption | omega) (by first | assumption | omega) (by first | assumption | omega) (by first | assumption | omega))
  exact lg_GM2 C0 hN hK hI (As := []) hls hrest hc hdg (hM u hI) (cwV 0 ht (gV w_1801 w_1802 w_1803 w_114 w_1804) rfl rfl rfl (by decide +kernel) ⟨Nat.le_of_ble_eq_true rfl, Nat.le_of_ble_eq_true rfl⟩) rfl hP hD hS k
set_option maxHeartbeats 8000000 in
set_option maxRecDepth 100000 in
theorem lm_strong {p : Program} {l : Launch} {e : Env} {s : State} {m : MethodId} {below : List Frame} {meth : Method} {c : Code} {b L : Nat} {xs : Nat → Int32} {dC : Nat → ClassId} {dI : Nat → Nat → Nat} {cB cI cJ cZ cL : ClassId} (C0 : lw_At p s m meth c b L xs) (hN : NW s) (hK : va_K (dC, dI) vwCl (tyL cB cI cJ cZ cL) s) {g : Nat → Nat} {pX T : va_W} {u : MT} (hI : MI u)  {pc : Nat} {ls : Array Slot} {rest : List Value} {H : Heap} {locs : List Loc} {cells slots : Nat} (hls : ls.size = 4) (hrest : (rest.map fun v => v.category).sum ≤ 8) (hc : cells + 0 ≤ room_1.cells ∧ slots + 0 ≤ room_1.slots) (hdg : decode code pc = .ok (.invokevirtual 222, 3)) (hP : va_P (dC, dI) vwCl (pX ++ (WM g cB cI cJ cZ cL u ++ T)) H) (hD : va_D (fun q : Nat => s.heap.size ≤ q) (pX ++ (WM g cB cI cJ cZ cL u ++ T))) (hS : va_S (fun q : Nat => s.heap.size ≤ q) s.heap H locs) (k : ∀ (r : Int32) (u' : MT) (H : Heap) (locs : List Loc), MI u' → (MSf u' = MSf u) → va_P (dC, dI) vwCl (pX ++ (WM g cB cI cJ cZ cL u' ++ T)) H → va_D (fun q : Nat => s.heap.size ≤ q) (pX ++ (WM g cB cI cJ cZ cL u' ++ T)) → va_S (fun q : Nat => s.heap.size ≤ q) s.heap H locs → W p l e room_1 s m #[Value.ref b] below meth c H locs cells slots (lw_Z below #[Value.ref b] s) (F0 m (pc + 3) ls (.int r :: rest))) : W p l e room_1 s m #[Value.ref b] below meth c H locs cells slots (lw_Z below #[Value.ref b] s) (F0 m pc ls (.ref (g 0) :: rest)) := by
  obtain ⟨hx, hb, hr, hml, hown, hts, hX, hbl, hlocks, hgv⟩ := id C0
  have ht : ∀ w ∈ lw_ok, w.before #[Value.ref b] s = true := fun w h => hts w (List.mem_filter.mp h).1
  have hM : ∀ u : MT, MI u → GM2 l dC dI cB cI cJ cZ cL g u yX9_strong (wy yX9_strong cX9_strong 1 (some FieldType.int)) ({ frames := 7, cells := 0, slots := 0, locals := 280 }) [] H.size := by
    clear hP hD hS k hI
    intro u hI
    obtain ⟨mg_th, mg_tp, mg_so, mg_tk, mg_pl, mg_va, mg_wo, mg_bd, mg_bp, mg_fa, mg_fp, mg_lw, mg_we, mg_cu, mg_go, mg_ba, mg_jo, mg_bt, mg_sb, mg_ab, mg_al, mwd, mmn, mce, mmv, mtb, mli, mhs, msp, mwt, mac, mik, mom, mlk, mpa, mfl, mav, mbv⟩ := u
    obtain ⟨i_wi, i_tp, i_mn⟩ := hI
    have h0 := i_wi.h0
    have h4 := i_wi.h4
    have h5 := i_wi.h5
    have h6 := i_wi.h6
    have hsp := i_wi.sp0
    exact (s_X9_strong l dC dI cB cI cJ cZ cL H.size g mg_th mg_tp mg_so mg_tk mg_pl mg_va mg_wo mg_bd mg_bp mg_fa mg_fp mg_lw mg_we mg_cu mg_go mg_ba mg_jo mg_bt mg_sb mg_ab mg_al mli mhs msp mwt mac mom mlk mpa mfl (by first | assumption | omega) (by first | assumption | omega) (by first | assumption | omega) (by first | assumption | omega) (by first | assumption | omega))
  exact lg_GM2 C0 hN hK hI (As := []) hls hrest hc hdg (hM u hI) (cwV 0 ht (gV w_1809 w_1810 w_1811 w_114 w_1812) rfl rfl rfl (by decide +kernel) ⟨Nat.le_of_ble_eq_true rfl, Nat.le_of_ble_eq_true rfl⟩) rfl hP hD hS k
set_option maxHeartbeats 8000000 in
set_option maxRecDepth 100000 in
theorem lm_battery {p : Program} {l : Launch} {e : Env} {s : State} {m : MethodId} {below : List Frame} {meth : Method} {c : Code} {b L : Nat} {xs : Nat → Int32} {dC : Nat → ClassId} {dI : Nat → Nat → Nat} {cB cI cJ cZ cL : ClassId} (C0 : lw_At p s m meth c b L xs) (hN : NW s) (hK : va_K (dC, dI) vwCl (tyL cB cI cJ cZ cL) s) {g : Nat → Nat} {pX T : va_W} {u : MT} (hI : MI u) {p0 : Int32} {pc : Nat} {ls : Array Slot} {rest : List Value} {H : Heap} {locs : List Loc} {cells slots : Nat} (hls : ls.size = 4) (hrest : (rest.map fun v => v.category).sum ≤ 8) (hc : cells + 0 ≤ room_1.cells ∧ slots + 0 ≤ room_1.slots) (hdg : decode code pc = .ok (.invokevirtual 226, 3)) (hP : va_P (dC, dI) vwCl (pX ++ (WM g cB cI cJ cZ cL u ++ T)) H) (hD : va_D (fun q : Nat => s.heap.size ≤ q) (pX ++ (WM g cB cI cJ cZ cL u ++ T))) (hS : va_S (fun q : Nat => s.heap.size ≤ q) s.heap H locs) (k : ∀ (r : Int32) (u' : MT) (H : Heap) (locs : List Loc), MI u' → (MSf u' = MSf u) → va_P (dC, dI) vwCl (pX ++ (WM g cB cI cJ cZ cL u' ++ T)) H → va_D (fun q : Nat => s.heap.size ≤ q) (pX ++ (WM g cB cI cJ cZ cL u' ++ T)) → va_S (fun q : Nat => s.heap.size ≤ q) s.heap H locs → W p l e room_1 s m #[Value.ref b] below meth c H locs cells slots (lw_Z below #[Value.ref b] s) (F0 m (pc + 3) ls (.int r :: rest))) : W p l e room_1 s m #[Value.ref b] below meth c H locs cells slots (lw_Z below #[Value.ref b] s) (F0 m pc ls (.int p0 :: .ref (g 0) :: rest)) := by
  obtain ⟨hx, hb, hr, hml, hown, hts, hX, hbl, hlocks, hgv⟩ := id C0
  have ht : ∀ w ∈ lw_ok, w.before #[Value.ref b] s = true := fun w h => hts w (List.mem_filter.mp h).1
  have hM : ∀ u : MT, MI u → GM2 l dC dI cB cI cJ cZ cL g u yX9_battery (wy yX9_battery cX9_battery 2 (some FieldType.int)) ({ frames := 7, cells := 0, slots := 0, locals := 280 }) [.int p0] H.size := by
    clear hP hD hS k hI
    intro u hI
    obtain ⟨mg_th, mg_tp, mg_so, mg_tk, mg_pl, mg_va, mg_wo, mg_bd, mg_bp, mg_fa, mg_fp, mg_lw, mg_we, mg_cu, mg_go, mg_ba, mg_jo, mg_bt, mg_sb, mg_ab, mg_al, mwd, mmn, mce, mmv, mtb, mli, mhs, msp, mwt, mac, mik, mom, mlk, mpa, mfl, mav, mbv⟩ := u
    obtain ⟨i_wi, i_tp, i_mn⟩ := hI
    have h0 := i_wi.h0
    have h4 := i_wi.h4
    have h5 := i_wi.h5
    have h6 := i_wi.h6
    have hsp := i_wi.sp0
    exact (s_X9_battery l dC dI cB cI cJ cZ cL H.size g mg_th mg_tp mg_so mg_tk mg_pl mg_va mg_wo mg_bd mg_bp mg_fa mg_fp mg_lw mg_we mg_cu mg_go mg_ba mg_jo mg_bt mg_sb mg_ab mg_al mli mhs msp mwt mac mom mlk mpa mfl p0 (by first | assumption | omega) (by first | assumption | omega) (by first | assumption | omega) (by first | assumption | omega) (by first | assumption | omega))
  exact lg_GM2 C0 hN hK hI (As := [.int p0]) hls hrest hc hdg (hM u hI) (cwV 1 ht (gV w_1813 w_1814 w_1815 w_114 w_1816) rfl rfl rfl (by decide +kernel) ⟨Nat.le_of_ble_eq_true rfl, Nat.le_of_ble_eq_true rfl⟩) rfl hP hD hS k
set_option maxHeartbeats 8000000 in
set_option maxRecDepth 100000 in
theorem lm_batteries {p : Program} {l : Launch} {e : Env} {s : State} {m : MethodId} {below : List Frame} {meth : Method} {c : Code} {b L : Nat} {xs : Nat → Int32} {dC : Nat → ClassId} {dI : Nat → Nat → Nat} {cB cI cJ cZ cL : ClassId} (C0 : lw_At p s m meth c b L xs) (hN : NW s) (hK : va_K (dC, dI) vwCl (tyL cB cI cJ cZ cL) s) {g : Nat → Nat} {pX T : va_W} {u : MT} (hI : MI u)  {pc : Nat} {ls : Array Slot} {rest : List Value} {H : Heap} {locs : List Loc} {cells slots : Nat} (hls : ls.size = 4) (hrest : (rest.map fun v => v.category).sum ≤ 8) (hc : cells + 0 ≤ room_1.cells ∧ slots + 0 ≤ room_1.slots) (hdg : decode code pc = .ok (.invokevirtual 230, 3)) (hP : va_P (dC, dI) vwCl (pX ++ (WM g cB cI cJ cZ cL u ++ T)) H) (hD : va_D (fun q : Nat => s.heap.size ≤ q) (pX ++ (WM g cB cI cJ cZ cL u ++ T))) (hS : va_S (fun q : Nat => s.heap.size ≤ q) s.heap H locs) (k : ∀ (r : Int32) (u' : MT) (H : Heap) (locs : List Loc), MI u' → (MSf u' = MSf u) → va_P (dC, dI) vwCl (pX ++ (WM g cB cI cJ cZ cL u' ++ T)) H → va_D (fun q : Nat => s.heap.size ≤ q) (pX ++ (WM g cB cI cJ cZ cL u' ++ T)) → va_S (fun q : Nat => s.heap.size ≤ q) s.heap H locs → W p l e room_1 s m #[Value.ref b] below meth c H locs cells slots (lw_Z below #[Value.ref b] s) (F0 m (pc + 3) ls (.int r :: rest))) : W p l e room_1 s m #[Value.ref b] below meth c H locs cells slots (lw_Z below #[Value.ref b] s) (F0 m pc ls (.ref (g 0) :: rest)) := by
  obtain ⟨hx, hb, hr, hml, hown, hts, hX, hbl, hlocks, hgv⟩ := id C0
  have ht : ∀ w ∈ lw_ok, w.before #[Value.ref b] s = true := fun w h => hts w (List.mem_filter.mp h).1
  have hM : ∀ u : MT, MI u → GM2 l dC dI cB cI cJ cZ cL g u yX9_batteries (wy yX9_batteries cX9_batteries 1 (some FieldType.int)) ({ frames := 7, cells := 0, slots := 0, locals := 280 }) [] H.size := by
    clear hP hD hS k hI
    intro u hI
    obtain ⟨mg_th, mg_tp, mg_so, mg_tk, mg_pl, mg_va, mg_wo, mg_bd, mg_bp, mg_fa, mg_fp, mg_lw, mg_we, mg_cu, mg_go, mg_ba, mg_jo, mg_bt, mg_sb, mg_ab, mg_al, mwd, mmn, mce, mmv, mtb, mli, mhs, msp, mwt, mac, mik, mom, mlk, mpa, mfl, mav, mbv⟩ := u
    obtain ⟨i_wi, i_tp, i_mn⟩ := hI
    have h0 := i_wi.h0
    have h4 := i_wi.h4
    have h5 := i_wi.h5
    have h6 := i_wi.h6
    have hsp := i_wi.sp0
    exact (s_X9_batteries l dC dI cB cI cJ cZ cL H.size g mg_th mg_tp mg_so mg_tk mg_pl mg_va mg_wo mg_bd mg_bp mg_fa mg_fp mg_lw mg_we mg_cu mg_go mg_ba mg_jo mg_bt mg_sb mg_ab mg_al mli mhs msp mwt mac mom mlk mpa mfl (by first | assumption | omega) (by first | assumption | omega) (by first | assumption | omega) (by first | assumption | omega) (by first | assumption | omega))
  exact lg_GM2 C0 hN hK hI (As := []) hls hrest hc hdg (hM u hI) (cwV 0 ht (gV w_1825 w_1826 w_1827 w_114 w_1828) rfl rfl rfl (by decide +kernel) ⟨Nat.le_of_ble_eq_true rfl, Nat.le_of_ble_eq_true rfl⟩) rfl hP hD hS k
set_option maxHeartbeats 8000000 in
set_option maxRecDepth 100000 in
theorem lm_cure {p : Program} {l : Launch} {e : Env} {s : State} {m : MethodId} {below : List Frame} {meth : Method} {c : Code} {b L : Nat} {xs : Nat → Int32} {dC : Nat → ClassId} {dI : Nat → Nat → Nat} {cB cI cJ cZ cL : ClassId} (C0 : lw_At p s m meth c b L xs) (hN : NW s) (hK : va_K (dC, dI) vwCl (tyL cB cI cJ cZ cL) s) {g : Nat → Nat} {pX T : va_W} {u : MT} (hI : MI u) {p0 : Int32} {pc : Nat} {ls : Array Slot} {rest : List Value} {H : Heap} {locs : List Loc} {cells slots : Nat} (hls : ls.size = 4) (hrest : (rest.map fun v => v.category).sum ≤ 8) (hc : cells + 0 ≤ room_1.cells ∧ slots + 0 ≤ room_1.slots) (hdg : decode code pc = .ok (.invokevirtual 234, 3)) (hP : va_P (dC, dI) vwCl (pX ++ (WM g cB cI cJ cZ cL u ++ T)) H) (hD : va_D (fun q : Nat => s.heap.size ≤ q) (pX ++ (WM g cB cI cJ cZ cL u ++ T))) (hS : va_S (fun q : Nat => s.heap.size ≤ q) s.heap H locs) (k : ∀ (r : Int32) (u' : MT) (H : Heap) (locs : List Loc), MI u' → (MSf u' = MSf u) → va_P (dC, dI) vwCl (pX ++ (WM g cB cI cJ cZ cL u' ++ T)) H → va_D (fun q : Nat => s.heap.size ≤ q) (pX ++ (WM g cB cI cJ cZ cL u' ++ T)) → va_S (fun q : Nat => s.heap.size ≤ q) s.heap H locs → W p l e room_1 s m #[Value.ref b] below meth c H locs cells slots (lw_Z below #[Value.ref b] s) (F0 m (pc + 3) ls (.int r :: rest))) : W p l e room_1 s m #[Value.ref b] below meth c H locs cells slots (lw_Z below #[Value.ref b] s) (F0 m pc ls (.int p0 :: .ref (g 0) :: rest)) := by
  obtain ⟨hx, hb, hr, hml, hown, hts, hX, hbl, hlocks, hgv⟩ := id C0
  have ht : ∀ w ∈ lw_ok, w.before #[Value.ref b] s = true := fun w h => hts w (List.mem_filter.mp h).1
  have hM : ∀ u : MT, MI u → GM2 l dC dI cB cI cJ cZ cL g u yX9_cure (wy yX9_cure cX9_cure 3 (some FieldType.int)) ({ frames := 7, cells := 0, slots := 0, locals := 280 }) [.int p0] H.size := by
    clear hP hD hS k hI
    intro u hI
    obtain ⟨mg_th, mg_tp, mg_so, mg_tk, mg_pl, mg_va, mg_wo, mg_bd, mg_bp, mg_fa, mg_fp, mg_lw, mg_we, mg_cu, mg_go, mg_ba, mg_jo, mg_bt, mg_sb, mg_ab, mg_al, mwd, mmn, mce, mmv, mtb, mli, mhs, msp, mwt, mac, mik, mom, mlk, mpa, mfl, mav, mbv⟩ := u
    obtain ⟨i_wi, i_tp, i_mn⟩ := hI
    have h0 := i_wi.h0
    have h4 := i_wi.h4
    have h5 := i_wi.h5
    have h6 := i_wi.h6
    have hsp := i_wi.sp0
    exact (s_X9_cure l dC dI cB cI cJ cZ cL H.size g mg_th mg_tp mg_so mg_tk mg_pl mg_va mg_wo mg_bd mg_bp mg_fa mg_fp mg_lw mg_we mg_cu mg_go mg_ba mg_jo mg_bt mg_sb mg_ab mg_al mli mhs msp mwt mac mom mlk mpa mfl p0 (by first | assumption | omega) (by first | assumption | omega) (by first | assumption | omega) (by first | assumption | omega) (by first | assumption | omega))
  exact lg_GM2 C0 hN hK hI (As := [.int p0]) hls hrest hc hdg (hM u hI) (cwV 1 ht (gV w_1829 w_1830 w_1831 w_114 w_1832) rfl rfl rfl (by decide +kernel) ⟨Nat.le_of_ble_eq_true rfl, Nat.le_of_ble_eq_true rfl⟩) rfl hP hD hS k
set_option maxHeartbeats 8000000 in
set_option maxRecDepth 100000 in
theorem lm_cures {p : Program} {l : Launch} {e : Env} {s : State} {m : MethodId} {below : List Frame} {meth : Method} {c : Code} {b L : Nat} {xs : Nat → Int32} {dC : Nat → ClassId} {dI : Nat → Nat → Nat} {cB cI cJ cZ cL : ClassId} (C0 : lw_At p s m meth c b L xs) (hN : NW s) (hK : va_K (dC, dI) vwCl (tyL cB cI cJ cZ cL) s) {g : Nat → Nat} {pX T : va_W} {u : MT} (hI : MI u) {p0 : Int32} {pc : Nat} {ls : Array Slot} {rest : List Value} {H : Heap} {locs : List Loc} {cells slots : Nat} (hls : ls.size = 4) (hrest : (rest.map fun v => v.category).sum ≤ 8) (hc : cells + 0 ≤ room_1.cells ∧ slots + 0 ≤ room_1.slots) (hdg : decode code pc = .ok (.invokevirtual 238, 3)) (hP : va_P (dC, dI) vwCl (pX ++ (WM g cB cI cJ cZ cL u ++ T)) H) (hD : va_D (fun q : Nat => s.heap.size ≤ q) (pX ++ (WM g cB cI cJ cZ cL u ++ T))) (hS : va_S (fun q : Nat => s.heap.size ≤ q) s.heap H locs) (k : ∀ (r : Int32) (u' : MT) (H : Heap) (locs : List Loc), MI u' → (MSf u' = MSf u) → va_P (dC, dI) vwCl (pX ++ (WM g cB cI cJ cZ cL u' ++ T)) H → va_D (fun q : Nat => s.heap.size ≤ q) (pX ++ (WM g cB cI cJ cZ cL u' ++ T)) → va_S (fun q : Nat => s.heap.size ≤ q) s.heap H locs → W p l e room_1 s m #[Value.ref b] below meth c H locs cells slots (lw_Z below #[Value.ref b] s) (F0 m (pc + 3) ls (.int r :: rest))) : W p l e room_1 s m #[Value.ref b] below meth c H locs cells slots (lw_Z below #[Value.ref b] s) (F0 m pc ls (.int p0 :: .ref (g 0) :: rest)) := by
  obtain ⟨hx, hb, hr, hml, hown, hts, hX, hbl, hlocks, hgv⟩ := id C0
  have ht : ∀ w ∈ lw_ok, w.before #[Value.ref b] s = true := fun w h => hts w (List.mem_filter.mp h).1
  have hM : ∀ u : MT, MI u → GM2 l dC dI cB cI cJ cZ cL g u yX9_cures (wy yX9_cures cX9_cures 2 (some FieldType.int)) ({ frames := 7, cells := 0, slots := 0, locals := 280 }) [.int p0] H.size := by
    clear hP hD hS k hI
    intro u hI
    obtain ⟨mg_th, mg_tp, mg_so, mg_tk, mg_pl, mg_va, mg_wo, mg_bd, mg_bp, mg_fa, mg_fp, mg_lw, mg_we, mg_cu, mg_go, mg_ba, mg_jo, mg_bt, mg_sb, mg_ab, mg_al, mwd, mmn, mce, mmv, mtb, mli, mhs, msp, mwt, mac, mik, mom, mlk, mpa, mfl, mav, mbv⟩ := u
    obtain ⟨i_wi, i_tp, i_mn⟩ := hI
    have h0 := i_wi.h0
    have h4 := i_wi.h4
    have h5 := i_wi.h5
    have h6 := i_wi.h6
    have hsp := i_wi.sp0
    exact (s_X9_cures l dC dI cB cI cJ cZ cL H.size g mg_th mg_tp mg_so mg_tk mg_pl mg_va mg_wo mg_bd mg_bp mg_fa mg_fp mg_lw mg_we mg_cu mg_go mg_ba mg_jo mg_bt mg_sb mg_ab mg_al mli mhs msp mwt mac mom mlk mpa mfl p0 (by first | assumption | omega) (by first | assumption | omega) (by first | assumption | omega) (by first | assumption | omega) (by first | assumption | omega))
  exact lg_GM2 C0 hN hK hI (As := [.int p0]) hls hrest hc hdg (hM u hI) (cwV 1 ht (gV w_1837 w_1838 w_1839 w_114 w_1840) rfl rfl rfl (by decide +kernel) ⟨Nat.le_of_ble_eq_true rfl, Nat.le_of_ble_eq_true rfl⟩) rfl hP hD hS k
set_option maxHeartbeats 8000000 in
set_option maxRecDepth 100000 in
theorem lm_best {p : Program} {l : Launch} {e : Env} {s : State} {m : MethodId} {below : List Frame} {meth : Method} {c : Code} {b L : Nat} {xs : Nat → Int32} {dC : Nat → ClassId} {dI : Nat → Nat → Nat} {cB cI cJ cZ cL : ClassId} (C0 : lw_At p s m meth c b L xs) (hN : NW s) (hK : va_K (dC, dI) vwCl (tyL cB cI cJ cZ cL) s) {g : Nat → Nat} {pX T : va_W} {u : MT} (hI : MI u)  {pc : Nat} {ls : Array Slot} {rest : List Value} {H : Heap} {locs : List Loc} {cells slots : Nat} (hls : ls.size = 4) (hrest : (rest.map fun v => v.category).sum ≤ 8) (hc : cells + 0 ≤ room_1.cells ∧ slots + 0 ≤ room_1.slots) (hdg : decode code pc = .ok (.invokevirtual 242, 3)) (hP : va_P (dC, dI) vwCl (pX ++ (WM g cB cI cJ cZ cL u ++ T)) H) (hD : va_D (fun q : Nat => s.heap.size ≤ q) (pX ++ (WM g cB cI cJ cZ cL u ++ T))) (hS : va_S (fun q : Nat => s.heap.size ≤ q) s.heap H locs) (k : ∀ (r : Int32) (u' : MT) (H : Heap) (locs : List Loc), MI u' → (MSf u' = MSf u) → va_P (dC, dI) vwCl (pX ++ (WM g cB cI cJ cZ cL u' ++ T)) H → va_D (fun q : Nat => s.heap.size ≤ q) (pX ++ (WM g cB cI cJ cZ cL u' ++ T)) → va_S (fun q : Nat => s.heap.size ≤ q) s.heap H locs → W p l e room_1 s m #[Value.ref b] below meth c H locs cells slots (lw_Z below #[Value.ref b] s) (F0 m (pc + 3) ls (.int r :: rest))) : W p l e room_1 s m #[Value.ref b] below meth c H locs cells slots (lw_Z below #[Value.ref b] s) (F0 m pc ls (.ref (g 0) :: rest)) := by
  obtain ⟨hx, hb, hr, hml, hown, hts, hX, hbl, hlocks, hgv⟩ := id C0
  have ht : ∀ w ∈ lw_ok, w.before #[Value.ref b] s = true := fun w h => hts w (List.mem_filter.mp h).1
  have hM : ∀ u : MT, MI u → GM2 l dC dI cB cI cJ cZ cL g u yX9_best (wy yX9_best cX9_best 5 (some FieldType.int)) ({ frames := 7, cells := 0, slots := 0, locals := 280 }) [] H.size := by
    clear hP hD hS k hI
    intro u hI
    obtain ⟨mg_th, mg_tp, mg_so, mg_tk, mg_pl, mg_va, mg_wo, mg_bd, mg_bp, mg_fa, mg_fp, mg_lw, mg_we, mg_cu, mg_go, mg_ba, mg_jo, mg_bt, mg_sb, mg_ab, mg_al, mwd, mmn, mce, mmv, mtb, mli, mhs, msp, mwt, mac, mik, mom, mlk, mpa, mfl, mav, mbv⟩ := u
    obtain ⟨i_wi, i_tp, i_mn⟩ := hI
    have h0 := i_wi.h0
    have h4 := i_wi.h4
    have h5 := i_wi.h5
    have h6 := i_wi.h6
    have hsp := i_wi.sp0
    exact (s_X9_best l dC dI cB cI cJ cZ cL H.size g mg_th mg_tp mg_so mg_tk mg_pl mg_va mg_wo mg_bd mg_bp mg_fa mg_fp mg_lw mg_we mg_cu mg_go mg_ba mg_jo mg_bt mg_sb mg_ab mg_al mli mhs msp mwt mac mom mlk mpa mfl (by first | assumption | omega) (by first | assumption | omega) (by first | assumption | omega) (by first | assumption | omega) (by first | assumption | omega))
  exact lg_GM2 C0 hN hK hI (As := []) hls hrest hc hdg (hM u hI) (cwV 0 ht (gV w_1841 w_1842 w_1843 w_114 w_1844) rfl rfl rfl (by decide +kernel) ⟨Nat.le_of_ble_eq_true rfl, Nat.le_of_ble_eq_true rfl⟩) rfl hP hD hS k
set_option maxHeartbeats 8000000 in
set_option maxRecDepth 100000 in
theorem lm_thick {p : Program} {l : Launch} {e : Env} {s : State} {m : MethodId} {below : List Frame} {meth : Method} {c : Code} {b L : Nat} {xs : Nat → Int32} {dC : Nat → ClassId} {dI : Nat → Nat → Nat} {cB cI cJ cZ cL : ClassId} (C0 : lw_At p s m meth c b L xs) (hN : NW s) (hK : va_K (dC, dI) vwCl (tyL cB cI cJ cZ cL) s) {g : Nat → Nat} {pX T : va_W} {u : MT} (hI : MI u)  {pc : Nat} {ls : Array Slot} {rest : List Value} {H : Heap} {locs : List Loc} {cells slots : Nat} (hls : ls.size = 4) (hrest : (rest.map fun v => v.category).sum ≤ 8) (hc : cells + 0 ≤ room_1.cells ∧ slots + 0 ≤ room_1.slots) (hdg : decode code pc = .ok (.invokevirtual 246, 3)) (hP : va_P (dC, dI) vwCl (pX ++ (WM g cB cI cJ cZ cL u ++ T)) H) (hD : va_D (fun q : Nat => s.heap.size ≤ q) (pX ++ (WM g cB cI cJ cZ cL u ++ T))) (hS : va_S (fun q : Nat => s.heap.size ≤ q) s.heap H locs) (k : ∀ (r : Int32) (u' : MT) (H : Heap) (locs : List Loc), MI u' → (MSf u' = MSf u) → va_P (dC, dI) vwCl (pX ++ (WM g cB cI cJ cZ cL u' ++ T)) H → va_D (fun q : Nat => s.heap.size ≤ q) (pX ++ (WM g cB cI cJ cZ cL u' ++ T)) → va_S (fun q : Nat => s.heap.size ≤ q) s.heap H locs → W p l e room_1 s m #[Value.ref b] below meth c H locs cells slots (lw_Z below #[Value.ref b] s) (F0 m (pc + 3) ls (.int r :: rest))) : W p l e room_1 s m #[Value.ref b] below meth c H locs cells slots (lw_Z below #[Value.ref b] s) (F0 m pc ls (.ref (g 0) :: rest)) := by
  obtain ⟨hx, hb, hr, hml, hown, hts, hX, hbl, hlocks, hgv⟩ := id C0
  have ht : ∀ w ∈ lw_ok, w.before #[Value.ref b] s = true := fun w h => hts w (List.mem_filter.mp h).1
  have hM : ∀ u : MT, MI u → GM2 l dC dI cB cI cJ cZ cL g u yX9_thick (wy yX9_thick cX9_thick 5 (some FieldType.int)) ({ frames := 7, cells := 0, slots := 0, locals := 280 }) [] H.size := by
    clear hP hD hS k hI
    intro u hI
    obtain ⟨mg_th, mg_tp, mg_so, mg_tk, mg_pl, mg_va, mg_wo, mg_bd, mg_bp, mg_fa, mg_fp, mg_lw, mg_we, mg_cu, mg_go, mg_ba, mg_jo, mg_bt, mg_sb, mg_ab, mg_al, mwd, mmn, mce, mmv, mtb, mli, mhs, msp, mwt, mac, mik, mom, mlk, mpa, mfl, mav, mbv⟩ := u
    obtain ⟨i_wi, i_tp, i_mn⟩ := hI
    have h0 := i_wi.h0
    have h4 := i_wi.h4
    have h5 := i_wi.h5
    have h6 := i_wi.h6
    have hsp := i_wi.sp0
    exact (s_X9_thick l dC dI cB cI cJ cZ cL H.size g mg_th mg_tp mg_so mg_tk mg_pl mg_va mg_wo mg_bd mg_bp mg_fa mg_fp mg_lw mg_we mg_cu mg_go mg_ba mg_jo mg_bt mg_sb mg_ab mg_al mli mhs msp mwt mac mom mlk mpa mfl (by first | assumption | omega) (by first | assumption | omega) (by first | assumption | omega) (by first | assumption | omega) (by first | assumption | omega))
  exact lg_GM2 C0 hN hK hI (As := []) hls hrest hc hdg (hM u hI) (cwV 0 ht (gV w_1845 w_1846 w_1847 w_114 w_1848) rfl rfl rfl (by decide +kernel) ⟨Nat.le_of_ble_eq_true rfl, Nat.le_of_ble_eq_true rfl⟩) rfl hP hD hS k
set_option maxHeartbeats 8000000 in
set_option maxRecDepth 100000 in
theorem lm_by {p : Program} {l : Launch} {e : Env} {s : State} {m : MethodId} {below : List Frame} {meth : Method} {c : Code} {b L : Nat} {xs : Nat → Int32} {dC : Nat → ClassId} {dI : Nat → Nat → Nat} {cB cI cJ cZ cL : ClassId} (C0 : lw_At p s m meth c b L xs) (hN : NW s) (hK : va_K (dC, dI) vwCl (tyL cB cI cJ cZ cL) s) {g : Nat → Nat} {pX T : va_W} {u : MT} (hI : MI u) {p0 : Int32} {pc : Nat} {ls : Array Slot} {rest : List Value} {H : Heap} {locs : List Loc} {cells slots : Nat} (hls : ls.size = 4) (hrest : (rest.map fun v => v.category).sum ≤ 8) (hc : cells + 0 ≤ room_1.cells ∧ slots + 0 ≤ room_1.slots) (hdg : decode code pc = .ok (.invokevirtual 282, 3)) (hP : va_P (dC, dI) vwCl (pX ++ (WM g cB cI cJ cZ cL u ++ T)) H) (hD : va_D (fun q : Nat => s.heap.size ≤ q) (pX ++ (WM g cB cI cJ cZ cL u ++ T))) (hS : va_S (fun q : Nat => s.heap.size ≤ q) s.heap H locs) (k : ∀ (r : Int32) (u' : MT) (H : Heap) (locs : List Loc), MI u' → (MSf u' = MSf u) → va_P (dC, dI) vwCl (pX ++ (WM g cB cI cJ cZ cL u' ++ T)) H → va_D (fun q : Nat => s.heap.size ≤ q) (pX ++ (WM g cB cI cJ cZ cL u' ++ T)) → va_S (fun q : Nat => s.heap.size ≤ q) s.heap H locs → W p l e room_1 s m #[Value.ref b] below meth c H locs cells slots (lw_Z below #[Value.ref b] s) (F0 m (pc + 3) ls (.int r :: rest))) : W p l e room_1 s m #[Value.ref b] below meth c H locs cells slots (lw_Z below #[Value.ref b] s) (F0 m pc ls (.int p0 :: .ref (g 0) :: rest)) := by
  obtain ⟨hx, hb, hr, hml, hown, hts, hX, hbl, hlocks, hgv⟩ := id C0
  have ht : ∀ w ∈ lw_ok, w.before #[Value.ref b] s = true := fun w h => hts w (List.mem_filter.mp h).1
  have hM : ∀ u : MT, MI u → GM2 l dC dI cB cI cJ cZ cL g u yX9_by (wy yX9_by cX9_by 2 (some FieldType.int)) ({ frames := 7, cells := 0, slots := 0, locals := 280 }) [.int p0] H.size := by
    clear hP hD hS k hI
    intro u hI
    obtain ⟨mg_th, mg_tp, mg_so, mg_tk, mg_pl, mg_va, mg_wo, mg_bd, mg_bp, mg_fa, mg_fp, mg_lw, mg_we, mg_cu, mg_go, mg_ba, mg_jo, mg_bt, mg_sb, mg_ab, mg_al, mwd, mmn, mce, mmv, mtb, mli, mhs, msp, mwt, mac, mik, mom, mlk, mpa, mfl, mav, mbv⟩ := u
    obtain ⟨i_wi, i_tp, i_mn⟩ := hI
    have h0 := i_wi.h0
    have h4 := i_wi.h4
    have h5 := i_wi.h5
    have h6 := i_wi.h6
    have hsp := i_wi.sp0
    exact (s_X9_by l dC dI cB cI cJ cZ cL H.size g mg_th mg_tp mg_so mg_tk mg_pl mg_va mg_wo mg_bd mg_bp mg_fa mg_fp mg_lw mg_we mg_cu mg_go mg_ba mg_jo mg_bt mg_sb mg_ab mg_al mli mhs msp mwt mac mom mlk mpa mfl p0 (by first | assumption | omega) (by first | assumption | omega) (by first | assumption | omega) (by first | assumption | omega) (by first | assumption | omega))
  exact lg_GM2 C0 hN hK hI (As := [.int p0]) hls hrest hc hdg (hM u hI) (cwV 1 ht (gV w_1901 w_1902 w_1903 w_114 w_1904) rfl rfl rfl (by decide +kernel) ⟨Nat.le_of_ble_eq_true rfl, Nat.le_of_ble_eq_true rfl⟩) rfl hP hD hS k
set_option maxHeartbeats 8000000 in
set_option maxRecDepth 100000 in
theorem lm_law {p : Program} {l : Launch} {e : Env} {s : State} {m : MethodId} {below : List Frame} {meth : Method} {c : Code} {b L : Nat} {xs : Nat → Int32} {dC : Nat → ClassId} {dI : Nat → Nat → Nat} {cB cI cJ cZ cL : ClassId} (C0 : lw_At p s m meth c b L xs) (hN : NW s) (hK : va_K (dC, dI) vwCl (tyL cB cI cJ cZ cL) s) {g : Nat → Nat} {pX T : va_W} {u : MT} (hI : MI u)  {pc : Nat} {ls : Array Slot} {rest : List Value} {H : Heap} {locs : List Loc} {cells slots : Nat} (hls : ls.size = 4) (hrest : (rest.map fun v => v.category).sum ≤ 8) (hc : cells + 0 ≤ room_1.cells ∧ slots + 0 ≤ room_1.slots) (hdg : decode code pc = .ok (.invokevirtual 286, 3)) (hP : va_P (dC, dI) vwCl (pX ++ (WM g cB cI cJ cZ cL u ++ T)) H) (hD : va_D (fun q : Nat => s.heap.size ≤ q) (pX ++ (WM g cB cI cJ cZ cL u ++ T))) (hS : va_S (fun q : Nat => s.heap.size ≤ q) s.heap H locs) (k : ∀ (r : Int32) (u' : MT) (H : Heap) (locs : List Loc), MI u' → (MSf u' = MSf u) → va_P (dC, dI) vwCl (pX ++ (WM g cB cI cJ cZ cL u' ++ T)) H → va_D (fun q : Nat => s.heap.size ≤ q) (pX ++ (WM g cB cI cJ cZ cL u' ++ T)) → va_S (fun q : Nat => s.heap.size ≤ q) s.heap H locs → W p l e room_1 s m #[Value.ref b] below meth c H locs cells slots (lw_Z below #[Value.ref b] s) (F0 m (pc + 3) ls (.int r :: rest))) : W p l e room_1 s m #[Value.ref b] below meth c H locs cells slots (lw_Z below #[Value.ref b] s) (F0 m pc ls (.ref (g 0) :: rest)) := by
  obtain ⟨hx, hb, hr, hml, hown, hts, hX, hbl, hlocks, hgv⟩ := id C0
  have ht : ∀ w ∈ lw_ok, w.before #[Value.ref b] s = true := fun w h => hts w (List.mem_filter.mp h).1
  have hM : ∀ u : MT, MI u → GM2 l dC dI cB cI cJ cZ cL g u yX9_law (wy yX9_law cX9_law 3 (some FieldType.int)) ({ frames := 7, cells := 0, slots := 0, locals := 280 }) [] H.size := by
    clear hP hD hS k hI
    intro u hI
    obtain ⟨mg_th, mg_tp, mg_so, mg_tk, mg_pl, mg_va, mg_wo, mg_bd, mg_bp, mg_fa, mg_fp, mg_lw, mg_we, mg_cu, mg_go, mg_ba, mg_jo, mg_bt, mg_sb, mg_ab, mg_al, mwd, mmn, mce, mmv, mtb, mli, mhs, msp, mwt, mac, mik, mom, mlk, mpa, mfl, mav, mbv⟩ := u
    obtain ⟨i_wi, i_tp, i_mn⟩ := hI
    have h0 := i_wi.h0
    have h4 := i_wi.h4
    have h5 := i_wi.h5
    have h6 := i_wi.h6
    have hsp := i_wi.sp0
    exact (s_X9_law l dC dI cB cI cJ cZ cL H.size g mg_th mg_tp mg_so mg_tk mg_pl mg_va mg_wo mg_bd mg_bp mg_fa mg_fp mg_lw mg_we mg_cu mg_go mg_ba mg_jo mg_bt mg_sb mg_ab mg_al mli mhs msp mwt mac mom mlk mpa mfl (by first | assumption | omega) (by first | assumption | omega) (by first | assumption | omega) (by first | assumption | omega) (by first | assumption | omega))
  exact lg_GM2 C0 hN hK hI (As := []) hls hrest hc hdg (hM u hI) (cwV 0 ht (gV w_1909 w_1910 w_1911 w_114 w_1912) rfl rfl rfl (by decide +kernel) ⟨Nat.le_of_ble_eq_true rfl, Nat.le_of_ble_eq_true rfl⟩) rfl hP hD hS k
set_option maxHeartbeats 8000000 in
set_option maxRecDepth 100000 in
theorem lm_worth {p : Program} {l : Launch} {e : Env} {s : State} {m : MethodId} {below : List Frame} {meth : Method} {c : Code} {b L : Nat} {xs : Nat → Int32} {dC : Nat → ClassId} {dI : Nat → Nat → Nat} {cB cI cJ cZ cL : ClassId} (C0 : lw_At p s m meth c b L xs) (hN : NW s) (hK : va_K (dC, dI) vwCl (tyL cB cI cJ cZ cL) s) {g : Nat → Nat} {pX T : va_W} {u : MT} (hI : MI u) {p0 : Int32} {pc : Nat} {ls : Array Slot} {rest : List Value} {H : Heap} {locs : List Loc} {cells slots : Nat} (hls : ls.size = 4) (hrest : (rest.map fun v => v.category).sum ≤ 8) (hc : cells + 0 ≤ room_1.cells ∧ slots + 0 ≤ room_1.slots) (hdg : decode code pc = .ok (.invokevirtual 290, 3)) (hP : va_P (dC, dI) vwCl (pX ++ (WM g cB cI cJ cZ cL u ++ T)) H) (hD : va_D (fun q : Nat => s.heap.size ≤ q) (pX ++ (WM g cB cI cJ cZ cL u ++ T))) (hS : va_S (fun q : Nat => s.heap.size ≤ q) s.heap H locs) (k : ∀ (r : Int32) (u' : MT) (H : Heap) (locs : List Loc), MI u' → (MSf u' = MSf u) → va_P (dC, dI) vwCl (pX ++ (WM g cB cI cJ cZ cL u' ++ T)) H → va_D (fun q : Nat => s.heap.size ≤ q) (pX ++ (WM g cB cI cJ cZ cL u' ++ T)) → va_S (fun q : Nat => s.heap.size ≤ q) s.heap H locs → W p l e room_1 s m #[Value.ref b] below meth c H locs cells slots (lw_Z below #[Value.ref b] s) (F0 m (pc + 3) ls (.int r :: rest))) : W p l e room_1 s m #[Value.ref b] below meth c H locs cells slots (lw_Z below #[Value.ref b] s) (F0 m pc ls (.int p0 :: .ref (g 0) :: rest)) := by
  obtain ⟨hx, hb, hr, hml, hown, hts, hX, hbl, hlocks, hgv⟩ := id C0
  have ht : ∀ w ∈ lw_ok, w.before #[Value.ref b] s = true := fun w h => hts w (List.mem_filter.mp h).1
  have hM : ∀ u : MT, MI u → GM2 l dC dI cB cI cJ cZ cL g u yX9_worth (wy yX9_worth cX9_worth 2 (some FieldType.int)) ({ frames := 7, cells := 0, slots := 0, locals := 280 }) [.int p0] H.size := by
    clear hP hD hS k hI
    intro u hI
    obtain ⟨mg_th, mg_tp, mg_so, mg_tk, mg_pl, mg_va, mg_wo, mg_bd, mg_bp, mg_fa, mg_fp, mg_lw, mg_we, mg_cu, mg_go, mg_ba, mg_jo, mg_bt, mg_sb, mg_ab, mg_al, mwd, mmn, mce, mmv, mtb, mli, mhs, msp, mwt, mac, mik, mom, mlk, mpa, mfl, mav, mbv⟩ := u
    obtain ⟨i_wi, i_tp, i_mn⟩ := hI
    have h0 := i_wi.h0
    have h4 := i_wi.h4
    have h5 := i_wi.h5
    have h6 := i_wi.h6
    have hsp := i_wi.sp0
    exact (s_X9_worth l dC dI cB cI cJ cZ cL H.size g mg_th mg_tp mg_so mg_tk mg_pl mg_va mg_wo mg_bd mg_bp mg_fa mg_fp mg_lw mg_we mg_cu mg_go mg_ba mg_jo mg_bt mg_sb mg_ab mg_al mli mhs msp mwt mac mom mlk mpa mfl p0 (by first | assumption | omega) (by first | assumption | omega) (by first | assumption | omega) (by first | assumption | omega) (by first | assumption | omega))
  exact lg_GM2 C0 hN hK hI (As := [.int p0]) hls hrest hc hdg (hM u hI) (cwV 1 ht (gV w_1913 w_1914 w_1915 w_114 w_1916) rfl rfl rfl (by decide +kernel) ⟨Nat.le_of_ble_eq_true rfl, Nat.le_of_ble_eq_true rfl⟩) rfl hP hD hS k
set_option maxHeartbeats 8000000 in
set_option maxRecDepth 100000 in
theorem lm_chance {p : Program} {l : Launch} {e : Env} {s : State} {m : MethodId} {below : List Frame} {meth : Method} {c : Code} {b L : Nat} {xs : Nat → Int32} {dC : Nat → ClassId} {dI : Nat → Nat → Nat} {cB cI cJ cZ cL : ClassId} (C0 : lw_At p s m meth c b L xs) (hN : NW s) (hK : va_K (dC, dI) vwCl (tyL cB cI cJ cZ cL) s) {g : Nat → Nat} {pX T : va_W} {u : MT} (hI : MI u) {p0 : Int32} {p1 : Int32} {p2 : Int32} {pc : Nat} {ls : Array Slot} {rest : List Value} {H : Heap} {locs : List Loc} {cells slots : Nat} (hls : ls.size = 4) (hrest : (rest.map fun v => v.category).sum ≤ 8) (hc : cells + 0 ≤ room_1.cells ∧ slots + 0 ≤ room_1.slots) (hdg : decode code pc = .ok (.invokevirtual 308, 3)) (hP : va_P (dC, dI) vwCl (pX ++ (WM g cB cI cJ cZ cL u ++ T)) H) (hD : va_D (fun q : Nat => s.heap.size ≤ q) (pX ++ (WM g cB cI cJ cZ cL u ++ T))) (hS : va_S (fun q : Nat => s.heap.size ≤ q) s.heap H locs) (k : ∀ (r : Int32) (u' : MT) (H : Heap) (locs : List Loc), MI u' → (MSf u' = MSf u) → va_P (dC, dI) vwCl (pX ++ (WM g cB cI cJ cZ cL u' ++ T)) H → va_D (fun q : Nat => s.heap.size ≤ q) (pX ++ (WM g cB cI cJ cZ cL u' ++ T)) → va_S (fun q : Nat => s.heap.size ≤ q) s.heap H locs → W p l e room_1 s m #[Value.ref b] below meth c H locs cells slots (lw_Z below #[Value.ref b] s) (F0 m (pc + 3) ls (.int r :: rest))) : W p l e room_1 s m #[Value.ref b] below meth c H locs cells slots (lw_Z below #[Value.ref b] s) (F0 m pc ls (.int p2 :: .int p1 :: .int p0 :: .ref (g 0) :: rest)) := by
  obtain ⟨hx, hb, hr, hml, hown, hts, hX, hbl, hlocks, hgv⟩ := id C0
  have ht : ∀ w ∈ lw_ok, w.before #[Value.ref b] s = true := fun w h => hts w (List.mem_filter.mp h).1
  have hM : ∀ u : MT, MI u → GM2 l dC dI cB cI cJ cZ cL g u yX9_chance (wy yX9_chance cX9_chance 4 (some FieldType.int)) ({ frames := 131, cells := 0, slots := 0, locals := 5240 }) [.int p0, .int p1, .int p2] H.size := by
    clear hP hD hS k hI
    intro u hI
    obtain ⟨mg_th, mg_tp, mg_so, mg_tk, mg_pl, mg_va, mg_wo, mg_bd, mg_bp, mg_fa, mg_fp, mg_lw, mg_we, mg_cu, mg_go, mg_ba, mg_jo, mg_bt, mg_sb, mg_ab, mg_al, mwd, mmn, mce, mmv, mtb, mli, mhs, msp, mwt, mac, mik, mom, mlk, mpa, mfl, mav, mbv⟩ := u
    obtain ⟨i_wi, i_tp, i_mn⟩ := hI
    have h0 := i_wi.h0
    have h4 := i_wi.h4
    have h5 := i_wi.h5
    have h6 := i_wi.h6
    have hsp := i_wi.sp0
    exact (s_X9_chance l dC dI cB cI cJ cZ cL H.size g mg_th mg_tp mg_so mg_tk mg_pl mg_va mg_wo mg_bd mg_bp mg_fa mg_fp mg_lw mg_we mg_cu mg_go mg_ba mg_jo mg_bt mg_sb mg_ab mg_al mli mhs msp mwt mac mom mlk mpa mfl p0 p1 p2 (by first | assumption | omega) (by first | assumption | omega) (by first | assumption | omega) (by first | assumption | omega) (by first | assumption | omega))
  exact lg_GM2 C0 hN hK hI (As := [.int p0, .int p1, .int p2]) hls hrest hc hdg (hM u hI) (cwV 3 ht (gV w_1941 w_1942 w_1943 w_114 w_1944) rfl rfl rfl (by decide +kernel) ⟨Nat.le_of_ble_eq_true rfl, Nat.le_of_ble_eq_true rfl⟩) rfl hP hD hS k
set_option maxHeartbeats 8000000 in
set_option maxRecDepth 100000 in
theorem lm_drawn {p : Program} {l : Launch} {e : Env} {s : State} {m : MethodId} {below : List Frame} {meth : Method} {c : Code} {b L : Nat} {xs : Nat → Int32} {dC : Nat → ClassId} {dI : Nat → Nat → Nat} {cB cI cJ cZ cL : ClassId} (C0 : lw_At p s m meth c b L xs) (hN : NW s) (hK : va_K (dC, dI) vwCl (tyL cB cI cJ cZ cL) s) {g : Nat → Nat} {pX T : va_W} {u : MT} (hI : MI u) {p0 : Int32} {p1 : Int32} {pc : Nat} {ls : Array Slot} {rest : List Value} {H : Heap} {locs : List Loc} {cells slots : Nat} (hls : ls.size = 4) (hrest : (rest.map fun v => v.category).sum ≤ 8) (hc : cells + 0 ≤ room_1.cells ∧ slots + 0 ≤ room_1.slots) (hdg : decode code pc = .ok (.invokevirtual 332, 3)) (hP : va_P (dC, dI) vwCl (pX ++ (WM g cB cI cJ cZ cL u ++ T)) H) (hD : va_D (fun q : Nat => s.heap.size ≤ q) (pX ++ (WM g cB cI cJ cZ cL u ++ T))) (hS : va_S (fun q : Nat => s.heap.size ≤ q) s.heap H locs) (k : ∀ (r : Int32) (u' : MT) (H : Heap) (locs : List Loc), MI u' → (MSf u' = MSf u) → va_P (dC, dI) vwCl (pX ++ (WM g cB cI cJ cZ cL u' ++ T)) H → va_D (fun q : Nat => s.heap.size ≤ q) (pX ++ (WM g cB cI cJ cZ cL u' ++ T)) → va_S (fun q : Nat => s.heap.size ≤ q) s.heap H locs → W p l e room_1 s m #[Value.ref b] below meth c H locs cells slots (lw_Z below #[Value.ref b] s) (F0 m (pc + 3) ls (.int r :: rest))) : W p l e room_1 s m #[Value.ref b] below meth c H locs cells slots (lw_Z below #[Value.ref b] s) (F0 m pc ls (.int p1 :: .int p0 :: .ref (g 0) :: rest)) := by
  obtain ⟨hx, hb, hr, hml, hown, hts, hX, hbl, hlocks, hgv⟩ := id C0
  have ht : ∀ w ∈ lw_ok, w.before #[Value.ref b] s = true := fun w h => hts w (List.mem_filter.mp h).1
  have hM : ∀ u : MT, MI u → GM2 l dC dI cB cI cJ cZ cL g u yX9_drawn (wy yX9_drawn cX9_drawn 3 (some FieldType.int)) ({ frames := 5, cells := 0, slots := 0, locals := 200 }) [.int p0, .int p1] H.size := by
    clear hP hD hS k hI
    intro u hI
    obtain ⟨mg_th, mg_tp, mg_so, mg_tk, mg_pl, mg_va, mg_wo, mg_bd, mg_bp, mg_fa, mg_fp, mg_lw, mg_we, mg_cu, mg_go, mg_ba, mg_jo, mg_bt, mg_sb, mg_ab, mg_al, mwd, mmn, mce, mmv, mtb, mli, mhs, msp, mwt, mac, mik, mom, mlk, mpa, mfl, mav, mbv⟩ := u
    obtain ⟨i_wi, i_tp, i_mn⟩ := hI
    have h0 := i_wi.h0
    have h4 := i_wi.h4
    have h5 := i_wi.h5
    have h6 := i_wi.h6
    have hsp := i_wi.sp0
    exact (s_X9_drawn l dC dI cB cI cJ cZ cL H.size g mg_th mg_tp mg_so mg_tk mg_pl mg_va mg_wo mg_bd mg_bp mg_fa mg_fp mg_lw mg_we mg_cu mg_go mg_ba mg_jo mg_bt mg_sb mg_ab mg_al mli mhs msp mwt mac mom mlk mpa mfl p0 p1 (by first | assumption | omega) (by first | assumption | omega) (by first | assumption | omega) (by first | assumption | omega) (by first | assumption | omega))
  exact lg_GM2 C0 hN hK hI (As := [.int p0, .int p1]) hls hrest hc hdg (hM u hI) (cwV 2 ht (gV w_1961 w_1962 w_1963 w_114 w_1964) rfl rfl rfl (by decide +kernel) ⟨Nat.le_of_ble_eq_true rfl, Nat.le_of_ble_eq_true rfl⟩) rfl hP hD hS k
set_option maxHeartbeats 8000000 in
set_option maxRecDepth 100000 in
def GM3 (l : Launch) (dC : Nat → ClassId) (dI : Nat → Nat → Nat) (cB cI cJ cZ cL : ClassId) (g : Nat → Nat) (uu : MT) (y : MethodName) (ws : List Cond) (rm : Room) (As : List Value) (sz : Nat) : Prop := match uu with | (mg_th, mg_tp, mg_so, mg_tk, mg_pl, mg_va, mg_wo, mg_bd, mg_bp, mg_fa, mg_fp, mg_lw, mg_we, mg_cu, mg_go, mg_ba, mg_jo, mg_bt, mg_sb, mg_ab, mg_al, mwd, mmn, mce, mmv, mtb, mli, mhs, msp, mwt, mac, mik, mom, mlk, mpa, mfl, mav, mbv) => Met l y ws rm (va_Pc (.ref (g 0) :: As) (fun U => U.heap.size = sz ∧ va_P (dC, dI) vwCl [((g 0), .inr (9, [.int mg_th, .ref (g 1), .ref (g 2), .ref (g 3), .ref (g 4), .ref (g 5), .int mg_tp, .int mg_so, .int mg_tk, .int mg_pl, .int mg_va, .long mg_wo, .int mg_bd, .int mg_bp, .int mg_fa, .int mg_fp, .ref (g 6), .ref (g 7), .ref (g 8), .ref (g 9), .ref (g 10), .ref (g 11), .int mg_lw, .int mg_we, .int mg_cu, .int mg_go, .int mg_ba, .ref (g 12), .ref (g 13), .int mg_jo, .ref (g 14), .ref (g 15), .long mg_bt, .int mg_sb, .int mg_ab, .int mg_al, .ref (g 16), .ref (g 17)])), ((g 6), .inl (cI, 5, .inl mli)), ((g 7), .inl (cI, 35, .inl mhs)), ((g 8), .inl (cI, 75, .inl msp)), ((g 9), .inl (cI, 40, .inl mwt)), ((g 10), .inl (cI, 450, .inl mac)), ((g 12), .inl (cI, 5, .inl mom)), ((g 13), .inl (cI, 5, .inl mlk)), ((g 14), .inl (cJ, 6, .inr (.inl mpa))), ((g 15), .inl (cJ, 5, .inr (.inl mfl)))] U.heap ∧ va_K (dC, dI) vwCl (tyL cB cI cJ cZ cL) U ∧ va_D (fun _ => True) [((g 0), .inr (9, [.int mg_th, .ref (g 1), .ref (g 2), .ref (g 3), .ref (g 4), .ref (g 5), .int mg_tp, .int mg_so, .int mg_tk, .int mg_pl, .int mg_va, .long mg_wo, .int mg_bd, .int mg_bp, .int mg_fa, .int mg_fp, .ref (g 6), .ref (g 7), .ref (g 8), .ref (g 9), .ref (g 10), .ref (g 11), .int mg_lw, .int mg_we, .int mg_cu, .int mg_go, .int mg_ba, .ref (g 12), .ref (g 13), .int mg_jo, .ref (g 14), .ref (g 15), .long mg_bt, .int mg_sb, .int mg_ab, .int mg_al, .ref (g 16), .ref (g 17)])), ((g 6), .inl (cI, 5, .inl mli)), ((g 7), .inl (cI, 35, .inl mhs)), ((g 8), .inl (cI, 75, .inl msp)), ((g 9), .inl (cI, 40, .inl mwt)), ((g 10), .inl (cI, 450, .inl mac)), ((g 12), .inl (cI, 5, .inl mom)), ((g 13), .inl (cI, 5, .inl mlk)), ((g 14), .inl (cJ, 6, .inr (.inl mpa))), ((g 15), .inl (cJ, 5, .inr (.inl mfl)))] ∧ NW U)) (va_Ql (fun r u => True) (fun (u : (Int32) × (Int32) × (Int32) × (Int32) × (Int32) × (Int32) × (Int32) × (Int64) × (Nat → Int32) × (Nat → Int32) × (Nat → Int64) × (Nat → Int64)) t => va_P (dC, dI) vwCl [((g 0), .inr (9, [.int u.1, .ref (g 1), .ref (g 2), .ref (g 3), .ref (g 4), .ref (g 5), .int mg_tp, .int mg_so, .int mg_tk, .int mg_pl, .int mg_va, .long mg_wo, .int mg_bd, .int mg_bp, .int mg_fa, .int mg_fp, .ref (g 6), .ref (g 7), .ref (g 8), .ref (g 9), .ref (g 10), .ref (g 11), .int u.2.1, .int u.2.2.1, .int u.2.2.2.1, .int u.2.2.2.2.1, .int u.2.2.2.2.2.1, .ref (g 12), .ref (g 13), .int u.2.2.2.2.2.2.1, .ref (g 14), .ref (g 15), .long u.2.2.2.2.2.2.2.1, .int mg_sb, .int mg_ab, .int mg_al, .ref (g 16), .ref (g 17)])), ((g 6), .inl (cI, 5, .inl mli)), ((g 7), .inl (cI, 35, .inl mhs)), ((g 8), .inl (cI, 75, .inl msp)), ((g 9), .inl (cI, 40, .inl mwt)), ((g 10), .inl (cI, 450, .inl mac)), ((g 12), .inl (cI, 5, .inl u.2.2.2.2.2.2.2.2.1)), ((g 13), .inl (cI, 5, .inl u.2.2.2.2.2.2.2.2.2.1)), ((g 14), .inl (cJ, 6, .inr (.inl u.2.2.2.2.2.2.2.2.2.2.1))), ((g 15), .inl (cJ, 5, .inr (.inl u.2.2.2.2.2.2.2.2.2.2.2)))] t.heap ∧ va_D (va_A [((g 0), .inr (9, [.int mg_th, .ref (g 1), .ref (g 2), .ref (g 3), .ref (g 4), .ref (g 5), .int mg_tp, .int mg_so, .int mg_tk, .int mg_pl, .int mg_va, .long mg_wo, .int mg_bd, .int mg_bp, .int mg_fa, .int mg_fp, .ref (g 6), .ref (g 7), .ref (g 8), .ref (g 9), .ref (g 10), .ref (g 11), .int mg_lw, .int mg_we, .int mg_cu, .int mg_go, .int mg_ba, .ref (g 12), .ref (g 13), .int mg_jo, .ref (g 14), .ref (g 15), .long mg_bt, .int mg_sb, .int mg_ab, .int mg_al, .ref (g 16), .ref (g 17)])), ((g 6), .inl (cI, 5, .inl mli)), ((g 7), .inl (cI, 35, .inl mhs)), ((g 8), .inl (cI, 75, .inl msp)), ((g 9), .inl (cI, 40, .inl mwt)), ((g 10), .inl (cI, 450, .inl mac)), ((g 12), .inl (cI, 5, .inl mom)), ((g 13), .inl (cI, 5, .inl mlk)), ((g 14), .inl (cJ, 6, .inr (.inl mpa))), ((g 15), .inl (cJ, 5, .inr (.inl mfl)))] sz) [((g 0), .inr (9, [.int u.1, .ref (g 1), .ref (g 2), .ref (g 3), .ref (g 4), .ref (g 5), .int mg_tp, .int mg_so, .int mg_tk, .int mg_pl, .int mg_va, .long mg_wo, .int mg_bd, .int mg_bp, .int mg_fa, .int mg_fp, .ref (g 6), .ref (g 7), .ref (g 8), .ref (g 9), .ref (g 10), .ref (g 11), .int u.2.1, .int u.2.2.1, .int u.2.2.2.1, .int u.2.2.2.2.1, .int u.2.2.2.2.2.1, .ref (g 12), .ref (g 13), .int u.2.2.2.2.2.2.1, .ref (g 14), .ref (g 15), .long u.2.2.2.2.2.2.2.1, .int mg_sb, .int mg_ab, .int mg_al, .ref (g 16), .ref (g 17)])), ((g 6), .inl (cI, 5, .inl mli)), ((g 7), .inl (cI, 35, .inl mhs)), ((g 8), .inl (cI, 75, .inl msp)), ((g 9), .inl (cI, 40, .inl mwt)), ((g 10), .inl (cI, 450, .inl mac)), ((g 12), .inl (cI, 5, .inl u.2.2.2.2.2.2.2.2.1)), ((g 13), .inl (cI, 5, .inl u.2.2.2.2.2.2.2.2.2.1)), ((g 14), .inl (cJ, 6, .inr (.inl u.2.2.2.2.2.2.2.2.2.2.1))), ((g 15), .inl (cJ, 5, .inr (.inl u.2.2.2.2.2.2.2.2.2.2.2)))]) (va_A [((g 0), .inr (9, [.int mg_th, .ref (g 1), .ref (g 2), .ref (g 3), .ref (g 4), .ref (g 5), .int mg_tp, .int mg_so, .int mg_tk, .int mg_pl, .int mg_va, .long mg_wo, .int mg_bd, .int mg_bp, .int mg_fa, .int mg_fp, .ref (g 6), .ref (g 7), .ref (g 8), .ref (g 9), .ref (g 10), .ref (g 11), .int mg_lw, .int mg_we, .int mg_cu, .int mg_go, .int mg_ba, .ref (g 12), .ref (g 13), .int mg_jo, .ref (g 14), .ref (g 15), .long mg_bt, .int mg_sb, .int mg_ab, .int mg_al, .ref (g 16), .ref (g 17)])), ((g 6), .inl (cI, 5, .inl mli)), ((g 7), .inl (cI, 35, .inl mhs)), ((g 8), .inl (cI, 75, .inl msp)), ((g 9), .inl (cI, 40, .inl mwt)), ((g 10), .inl (cI, 450, .inl mac)), ((g 12), .inl (cI, 5, .inl mom)), ((g 13), .inl (cI, 5, .inl mlk)), ((g 14), .inl (cJ, 6, .inr (.inl mpa))), ((g 15), .inl (cJ, 5, .inr (.inl mfl)))] sz)) 0 0 (va_A [((g 0), .inr (9, [.int mg_th, .ref (g 1), .ref (g 2), .ref (g 3), .ref (g 4), .ref (g 5), .int mg_tp, .int mg_so, .int mg_tk, .int mg_pl, .int mg_va, .long mg_wo, .int mg_bd, .int mg_bp, .int mg_fa, .int mg_fp, .ref (g 6), .ref (g 7), .ref (g 8), .ref (g 9), .ref (g 10), .ref (g 11), .int mg_lw, .int mg_we, .int mg_cu, .int mg_go, .int mg_ba, .ref (g 12), .ref (g 13), .int mg_jo, .ref (g 14), .ref (g 15), .long mg_bt, .int mg_sb, .int mg_ab, .int mg_al, .ref (g 16), .ref (g 17)])), ((g 6), .inl (cI, 5, .inl mli)), ((g 7), .inl (cI, 35, .inl mhs)), ((g 8), .inl (cI, 75, .inl msp)), ((g 9), .inl (cI, 40, .inl mwt)), ((g 10), .inl (cI, 450, .inl mac)), ((g 12), .inl (cI, 5, .inl mom)), ((g 13), .inl (cI, 5, .inl mlk)), ((g 14), .inl (cJ, 6, .inr (.inl mpa))), ((g 15), .inl (cJ, 5, .inr (.inl mfl)))] sz)
