set_option maxHeartbeats 8000000 in
set_option maxRecDepth 100000 in
theorem lw_case_51 {p : Program} {l : Launch} {e : Env} {s : State} {m : MethodId} {below : List Frame} {meth : Method} {c : Code} {b L : Nat} {xs : Nat → Int32} {dC : Nat → ClassId} {dI : Nat → Nat → Nat} {cB cI cJ cZ cL : ClassId} (C0 : lw_At p s m meth c b L xs) (hN : NW s) (hK : va_K (dC, dI) vwCl (tyL cB cI cJ cZ cL) s) {a g adK adV : Nat → Nat} (hV : SW adK adV (fun q : Nat => s.heap.size ≤ q) s s.heap) {n : Nat} {i : Int32} {u : XT} {v : MT} {T : va_W} (hn : n ≤ 511) (hi : Int32.toInt i = 6 * (n : Int)) (hiL : 6 * n + 6 ≤ L) (hXI : XI cB cI cJ cZ cL u T) (hMI : MI v) (hJ : JI (XSf u) (MSf v)) {H : Heap} {locs : List Loc} (hP : va_P (dC, dI) vwCl (WX a cB cI cJ cZ cL u ++ (WM g cB cI cJ cZ cL v ++ T)) H) (hD : va_D (fun q : Nat => s.heap.size ≤ q) (WX a cB cI cJ cZ cL u ++ (WM g cB cI cJ cZ cL v ++ T))) (hS : va_S (fun q : Nat => s.heap.size ≤ q) s.heap H locs) {ls : Array Slot} (hl : lv_has ls 4 [(3, .int i), (2, .ref (g 0)), (1, .ref (a 0)), (0, .ref b)]) (KK : ∀ (i : Int32) (u : XT) (v : MT) (T : va_W) (H : Heap) (locs : List Loc) (ls : Array Slot), Int32.toInt i = 6 * ((n + 1 : Nat) : Int) → XI cB cI cJ cZ cL u T → MI v → JI (XSf u) (MSf v) → va_P (dC, dI) vwCl (WX a cB cI cJ cZ cL u ++ (WM g cB cI cJ cZ cL v ++ T)) H → va_D (fun q : Nat => s.heap.size ≤ q) (WX a cB cI cJ cZ cL u ++ (WM g cB cI cJ cZ cL v ++ T)) → va_S (fun q : Nat => s.heap.size ≤ q) s.heap H locs → lv_has ls 4 [(3, .int i), (2, .ref (g 0)), (1, .ref (a 0)), (0, .ref b)] → W p l e room_1 s m #[Value.ref b] below meth c H locs (200 + 9 * (n + 1)) (10000 + 132 * (n + 1)) (lw_Z below #[Value.ref b] s) (F0 m 18 ls [])) : W p l e room_1 s m #[Value.ref b] below meth c H locs (200 + 9 * n) (10000 + 132 * n) (lw_Z below #[Value.ref b] s) (F0 m 1615 ls []) := by
  obtain ⟨hx, hb, hr, hml, hown, hts, hX, hbl, hlocks, hgv⟩ := id C0
  have ht : ∀ w ∈ lw_ok, w.before #[Value.ref b] s = true := fun w h => hts w (List.mem_filter.mp h).1
  have hbA : ¬ (fun q : Nat => s.heap.size ≤ q) b := Nat.not_le.mpr hbl
  have hc0 : 200 + 9 * n + 0 ≤ room_1.cells ∧ 10000 + 132 * n + 0 ≤ room_1.slots := ⟨by show 200 + 9 * n + 0 ≤ 600000; omega, by show 10000 + 132 * n + 0 ≤ 7302249; omega⟩
  have v1 : vp_in (i + 1) L := ijF hi hn hiL (by decide) (by decide)
  refine lv_aload_n hx hb dL_law_1615 rfl (lv_at hl 2 rfl) ?_
  refine lv_aload_n hx hb dL_law_1616 rfl (lv_at hl 3 rfl) ?_
  refine lv_iload_n hx hb dL_law_1617 rfl (lv_at hl 0 rfl) ?_
  refine lv_iconst (v := 1) hx hb dL_law_1618 (by decide) ?_
  refine lv_iadd hx hb dL_law_1619 ?_
  refine va_sld hx hb hX hbl hbA hS v1 dL_law_1620 ?_
  refine lx_battery C0 hN hK hXI hl.1 (Nat.le_of_ble_eq_true rfl) hc0 dL_law_1621 hP hD hS (fun r_1 u_3 H locs hXI hp_2 hP hD hS => ?_)
  refine lv_pop hx hb dL_law_1624 rfl ?_
  refine lv_aload_n hx hb dL_law_1625 rfl (lv_at hl 1 rfl) ?_
  refine lv_aload_n hx hb dL_law_1626 rfl (lv_at hl 3 rfl) ?_
  refine lv_iload_n hx hb dL_law_1627 rfl (lv_at hl 0 rfl) ?_
  refine lv_iconst (v := 1) hx hb dL_law_1628 (by decide) ?_
  refine lv_iadd hx hb dL_law_1629 ?_
  refine va_sld hx hb hX hbl hbA hS v1 dL_law_1630 ?_
  refine lm_battery C0 hN hK hMI hl.1 (Nat.le_of_ble_eq_true rfl) hc0 dL_law_1631 hP hD hS (fun r_4 u_6 H locs hMI hp_5 hP hD hS => ?_)
  refine lv_pop hx hb dL_law_1634 rfl ?_
  refine lv_goto (tgt := 2660) hx hb dL_law_1635 (by decide) ?_
  refine W.widen (k := 200 + 9 * (n + 1)) (n := 10000 + 132 * (n + 1)) (by omega) (by omega) ?_
  refine lv_iinc (v := i + 6) (lv' := [(3, .int (i + 6)), (2, .ref (g 0)), (1, .ref (a 0)), (0, .ref b)]) hx hb dL_law_2660 hl (k := 0) rfl rfl (by decide) rfl (fun ls hl => ?_)
  refine lv_goto (tgt := 18) hx hb dL_law_2663 (by decide) ?_
  have hJ2 : JI (XSf u_3) (MSf u_6) := (by rw [hp_2, hp_5]; exact hJ)
  exact KK _ _ _ _ _ _ _ (i6F hi hn) hXI hMI hJ2 hP hD hS hl
set_option maxHeartbeats 8000000 in
set_option maxRecDepth 100000 in
theorem lw_case_52 {p : Program} {l : Launch} {e : Env} {s : State} {m : MethodId} {below : List Frame} {meth : Method} {c : Code} {b L : Nat} {xs : Nat → Int32} {dC : Nat → ClassId} {dI : Nat → Nat → Nat} {cB cI cJ cZ cL : ClassId} (C0 : lw_At p s m meth c b L xs) (hN : NW s) (hK : va_K (dC, dI) vwCl (tyL cB cI cJ cZ cL) s) {a g adK adV : Nat → Nat} (hV : SW adK adV (fun q : Nat => s.heap.size ≤ q) s s.heap) {n : Nat} {i : Int32} {u : XT} {v : MT} {T : va_W} (hn : n ≤ 511) (hi : Int32.toInt i = 6 * (n : Int)) (hiL : 6 * n + 6 ≤ L) (hXI : XI cB cI cJ cZ cL u T) (hMI : MI v) (hJ : JI (XSf u) (MSf v)) {H : Heap} {locs : List Loc} (hP : va_P (dC, dI) vwCl (WX a cB cI cJ cZ cL u ++ (WM g cB cI cJ cZ cL v ++ T)) H) (hD : va_D (fun q : Nat => s.heap.size ≤ q) (WX a cB cI cJ cZ cL u ++ (WM g cB cI cJ cZ cL v ++ T))) (hS : va_S (fun q : Nat => s.heap.size ≤ q) s.heap H locs) {ls : Array Slot} (hl : lv_has ls 4 [(3, .int i), (2, .ref (g 0)), (1, .ref (a 0)), (0, .ref b)]) (KK : ∀ (i : Int32) (u : XT) (v : MT) (T : va_W) (H : Heap) (locs : List Loc) (ls : Array Slot), Int32.toInt i = 6 * ((n + 1 : Nat) : Int) → XI cB cI cJ cZ cL u T → MI v → JI (XSf u) (MSf v) → va_P (dC, dI) vwCl (WX a cB cI cJ cZ cL u ++ (WM g cB cI cJ cZ cL v ++ T)) H → va_D (fun q : Nat => s.heap.size ≤ q) (WX a cB cI cJ cZ cL u ++ (WM g cB cI cJ cZ cL v ++ T)) → va_S (fun q : Nat => s.heap.size ≤ q) s.heap H locs → lv_has ls 4 [(3, .int i), (2, .ref (g 0)), (1, .ref (a 0)), (0, .ref b)] → W p l e room_1 s m #[Value.ref b] below meth c H locs (200 + 9 * (n + 1)) (10000 + 132 * (n + 1)) (lw_Z below #[Value.ref b] s) (F0 m 18 ls [])) : W p l e room_1 s m #[Value.ref b] below meth c H locs (200 + 9 * n) (10000 + 132 * n) (lw_Z below #[Value.ref b] s) (F0 m 1638 ls []) := by
  obtain ⟨hx, hb, hr, hml, hown, hts, hX, hbl, hlocks, hgv⟩ := id C0
  have ht : ∀ w ∈ lw_ok, w.before #[Value.ref b] s = true := fun w h => hts w (List.mem_filter.mp h).1
  have hbA : ¬ (fun q : Nat => s.heap.size ≤ q) b := Nat.not_le.mpr hbl
  have hc0 : 200 + 9 * n + 0 ≤ room_1.cells ∧ 10000 + 132 * n + 0 ≤ room_1.slots := ⟨by show 200 + 9 * n + 0 ≤ 600000; omega, by show 10000 + 132 * n + 0 ≤ 7302249; omega⟩
  refine lv_aload_n hx hb dL_law_1638 rfl (lv_at hl 2 rfl) ?_
  refine lx_batteries C0 hN hK hXI hl.1 (Nat.le_of_ble_eq_true rfl) hc0 dL_law_1639 hP hD hS (fun r_1 u_3 H locs hXI hp_2 hP hD hS => ?_)
  refine lv_pop hx hb dL_law_1642 rfl ?_
  refine lv_aload_n hx hb dL_law_1643 rfl (lv_at hl 1 rfl) ?_
  refine lm_batteries C0 hN hK hMI hl.1 (Nat.le_of_ble_eq_true rfl) hc0 dL_law_1644 hP hD hS (fun r_4 u_6 H locs hMI hp_5 hP hD hS => ?_)
  refine lv_pop hx hb dL_law_1647 rfl ?_
  refine lv_goto (tgt := 2660) hx hb dL_law_1648 (by decide) ?_
  refine W.widen (k := 200 + 9 * (n + 1)) (n := 10000 + 132 * (n + 1)) (by omega) (by omega) ?_
  refine lv_iinc (v := i + 6) (lv' := [(3, .int (i + 6)), (2, .ref (g 0)), (1, .ref (a 0)), (0, .ref b)]) hx hb dL_law_2660 hl (k := 0) rfl rfl (by decide) rfl (fun ls hl => ?_)
  refine lv_goto (tgt := 18) hx hb dL_law_2663 (by decide) ?_
  have hJ2 : JI (XSf u_3) (MSf u_6) := (by rw [hp_2, hp_5]; exact hJ)
  exact KK _ _ _ _ _ _ _ (i6F hi hn) hXI hMI hJ2 hP hD hS hl
set_option maxHeartbeats 8000000 in
set_option maxRecDepth 100000 in
theorem lw_case_53 {p : Program} {l : Launch} {e : Env} {s : State} {m : MethodId} {below : List Frame} {meth : Method} {c : Code} {b L : Nat} {xs : Nat → Int32} {dC : Nat → ClassId} {dI : Nat → Nat → Nat} {cB cI cJ cZ cL : ClassId} (C0 : lw_At p s m meth c b L xs) (hN : NW s) (hK : va_K (dC, dI) vwCl (tyL cB cI cJ cZ cL) s) {a g adK adV : Nat → Nat} (hV : SW adK adV (fun q : Nat => s.heap.size ≤ q) s s.heap) {n : Nat} {i : Int32} {u : XT} {v : MT} {T : va_W} (hn : n ≤ 511) (hi : Int32.toInt i = 6 * (n : Int)) (hiL : 6 * n + 6 ≤ L) (hXI : XI cB cI cJ cZ cL u T) (hMI : MI v) (hJ : JI (XSf u) (MSf v)) {H : Heap} {locs : List Loc} (hP : va_P (dC, dI) vwCl (WX a cB cI cJ cZ cL u ++ (WM g cB cI cJ cZ cL v ++ T)) H) (hD : va_D (fun q : Nat => s.heap.size ≤ q) (WX a cB cI cJ cZ cL u ++ (WM g cB cI cJ cZ cL v ++ T))) (hS : va_S (fun q : Nat => s.heap.size ≤ q) s.heap H locs) {ls : Array Slot} (hl : lv_has ls 4 [(3, .int i), (2, .ref (g 0)), (1, .ref (a 0)), (0, .ref b)]) (KK : ∀ (i : Int32) (u : XT) (v : MT) (T : va_W) (H : Heap) (locs : List Loc) (ls : Array Slot), Int32.toInt i = 6 * ((n + 1 : Nat) : Int) → XI cB cI cJ cZ cL u T → MI v → JI (XSf u) (MSf v) → va_P (dC, dI) vwCl (WX a cB cI cJ cZ cL u ++ (WM g cB cI cJ cZ cL v ++ T)) H → va_D (fun q : Nat => s.heap.size ≤ q) (WX a cB cI cJ cZ cL u ++ (WM g cB cI cJ cZ cL v ++ T)) → va_S (fun q : Nat => s.heap.size ≤ q) s.heap H locs → lv_has ls 4 [(3, .int i), (2, .ref (g 0)), (1, .ref (a 0)), (0, .ref b)] → W p l e room_1 s m #[Value.ref b] below meth c H locs (200 + 9 * (n + 1)) (10000 + 132 * (n + 1)) (lw_Z below #[Value.ref b] s) (F0 m 18 ls [])) : W p l e room_1 s m #[Value.ref b] below meth c H locs (200 + 9 * n) (10000 + 132 * n) (lw_Z below #[Value.ref b] s) (F0 m 1651 ls []) := by
  obtain ⟨hx, hb, hr, hml, hown, hts, hX, hbl, hlocks, hgv⟩ := id C0
  have ht : ∀ w ∈ lw_ok, w.before #[Value.ref b] s = true := fun w h => hts w (List.mem_filter.mp h).1
  have hbA : ¬ (fun q : Nat => s.heap.size ≤ q) b := Nat.not_le.mpr hbl
  have hc0 : 200 + 9 * n + 0 ≤ room_1.cells ∧ 10000 + 132 * n + 0 ≤ room_1.slots := ⟨by show 200 + 9 * n + 0 ≤ 600000; omega, by show 10000 + 132 * n + 0 ≤ 7302249; omega⟩
  have v1 : vp_in (i + 1) L := ijF hi hn hiL (by decide) (by decide)
  refine lv_aload_n hx hb dL_law_1651 rfl (lv_at hl 2 rfl) ?_
  refine lv_aload_n hx hb dL_law_1652 rfl (lv_at hl 3 rfl) ?_
  refine lv_iload_n hx hb dL_law_1653 rfl (lv_at hl 0 rfl) ?_
  refine lv_iconst (v := 1) hx hb dL_law_1654 (by decide) ?_
  refine lv_iadd hx hb dL_law_1655 ?_
  refine va_sld hx hb hX hbl hbA hS v1 dL_law_1656 ?_
  refine lx_cure C0 hN hK hXI hl.1 (Nat.le_of_ble_eq_true rfl) hc0 dL_law_1657 hP hD hS (fun r_1 u_3 H locs hXI hp_2 hP hD hS => ?_)
  refine lv_pop hx hb dL_law_1660 rfl ?_
  refine lv_aload_n hx hb dL_law_1661 rfl (lv_at hl 1 rfl) ?_
  refine lv_aload_n hx hb dL_law_1662 rfl (lv_at hl 3 rfl) ?_
  refine lv_iload_n hx hb dL_law_1663 rfl (lv_at hl 0 rfl) ?_
  refine lv_iconst (v := 1) hx hb dL_law_1664 (by decide) ?_
  refine lv_iadd hx hb dL_law_1665 ?_
  refine va_sld hx hb hX hbl hbA hS v1 dL_law_1666 ?_
  refine lm_cure C0 hN hK hMI hl.1 (Nat.le_of_ble_eq_true rfl) hc0 dL_law_1667 hP hD hS (fun r_4 u_6 H locs hMI hp_5 hP hD hS => ?_)
  refine lv_pop hx hb dL_law_1670 rfl ?_
  refine lv_goto (tgt := 2660) hx hb dL_law_1671 (by decide) ?_
  refine W.widen (k := 200 + 9 * (n + 1)) (n := 10000 + 132 * (n + 1)) (by omega) (by omega) ?_
  refine lv_iinc (v := i + 6) (lv' := [(3, .int (i + 6)), (2, .ref (g 0)), (1, .ref (a 0)), (0, .ref b)]) hx hb dL_law_2660 hl (k := 0) rfl rfl (by decide) rfl (fun ls hl => ?_)
  refine lv_goto (tgt := 18) hx hb dL_law_2663 (by decide) ?_
  have hJ2 : JI (XSf u_3) (MSf u_6) := (by rw [hp_2, hp_5]; exact hJ)
  exact KK _ _ _ _ _ _ _ (i6F hi hn) hXI hMI hJ2 hP hD hS hl
set_option maxHeartbeats 8000000 in
set_option maxRecDepth 100000 in
theorem lw_case_54 {p : Program} {l : Launch} {e : Env} {s : State} {m : MethodId} {below : List Frame} {meth : Method} {c : Code} {b L : Nat} {xs : Nat → Int32} {dC : Nat → ClassId} {dI : Nat → Nat → Nat} {cB cI cJ cZ cL : ClassId} (C0 : lw_At p s m meth c b L xs) (hN : NW s) (hK : va_K (dC, dI) vwCl (tyL cB cI cJ cZ cL) s) {a g adK adV : Nat → Nat} (hV : SW adK adV (fun q : Nat => s.heap.size ≤ q) s s.heap) {n : Nat} {i : Int32} {u : XT} {v : MT} {T : va_W} (hn : n ≤ 511) (hi : Int32.toInt i = 6 * (n : Int)) (hiL : 6 * n + 6 ≤ L) (hXI : XI cB cI cJ cZ cL u T) (hMI : MI v) (hJ : JI (XSf u) (MSf v)) {H : Heap} {locs : List Loc} (hP : va_P (dC, dI) vwCl (WX a cB cI cJ cZ cL u ++ (WM g cB cI cJ cZ cL v ++ T)) H) (hD : va_D (fun q : Nat => s.heap.size ≤ q) (WX a cB cI cJ cZ cL u ++ (WM g cB cI cJ cZ cL v ++ T))) (hS : va_S (fun q : Nat => s.heap.size ≤ q) s.heap H locs) {ls : Array Slot} (hl : lv_has ls 4 [(3, .int i), (2, .ref (g 0)), (1, .ref (a 0)), (0, .ref b)]) (KK : ∀ (i : Int32) (u : XT) (v : MT) (T : va_W) (H : Heap) (locs : List Loc) (ls : Array Slot), Int32.toInt i = 6 * ((n + 1 : Nat) : Int) → XI cB cI cJ cZ cL u T → MI v → JI (XSf u) (MSf v) → va_P (dC, dI) vwCl (WX a cB cI cJ cZ cL u ++ (WM g cB cI cJ cZ cL v ++ T)) H → va_D (fun q : Nat => s.heap.size ≤ q) (WX a cB cI cJ cZ cL u ++ (WM g cB cI cJ cZ cL v ++ T)) → va_S (fun q : Nat => s.heap.size ≤ q) s.heap H locs → lv_has ls 4 [(3, .int i), (2, .ref (g 0)), (1, .ref (a 0)), (0, .ref b)] → W p l e room_1 s m #[Value.ref b] below meth c H locs (200 + 9 * (n + 1)) (10000 + 132 * (n + 1)) (lw_Z below #[Value.ref b] s) (F0 m 18 ls [])) : W p l e room_1 s m #[Value.ref b] below meth c H locs (200 + 9 * n) (10000 + 132 * n) (lw_Z below #[Value.ref b] s) (F0 m 1674 ls []) := by
  obtain ⟨hx, hb, hr, hml, hown, hts, hX, hbl, hlocks, hgv⟩ := id C0
  have ht : ∀ w ∈ lw_ok, w.before #[Value.ref b] s = true := fun w h => hts w (List.mem_filter.mp h).1
  have hbA : ¬ (fun q : Nat => s.heap.size ≤ q) b := Nat.not_le.mpr hbl
  have hc0 : 200 + 9 * n + 0 ≤ room_1.cells ∧ 10000 + 132 * n + 0 ≤ room_1.slots := ⟨by show 200 + 9 * n + 0 ≤ 600000; omega, by show 10000 + 132 * n + 0 ≤ 7302249; omega⟩
  have v1 : vp_in (i + 1) L := ijF hi hn hiL (by decide) (by decide)
  refine lv_aload_n hx hb dL_law_1674 rfl (lv_at hl 2 rfl) ?_
  refine lv_aload_n hx hb dL_law_1675 rfl (lv_at hl 3 rfl) ?_
  refine lv_iload_n hx hb dL_law_1676 rfl (lv_at hl 0 rfl) ?_
  refine lv_iconst (v := 1) hx hb dL_law_1677 (by decide) ?_
  refine lv_iadd hx hb dL_law_1678 ?_
  refine va_sld hx hb hX hbl hbA hS v1 dL_law_1679 ?_
  refine lx_cures C0 hN hK hXI hl.1 (Nat.le_of_ble_eq_true rfl) hc0 dL_law_1680 hP hD hS (fun r_1 u_3 H locs hXI hp_2 hP hD hS => ?_)
  refine lv_pop hx hb dL_law_1683 rfl ?_
  refine lv_aload_n hx hb dL_law_1684 rfl (lv_at hl 1 rfl) ?_
  refine lv_aload_n hx hb dL_law_1685 rfl (lv_at hl 3 rfl) ?_
  refine lv_iload_n hx hb dL_law_1686 rfl (lv_at hl 0 rfl) ?_
  refine lv_iconst (v := 1) hx hb dL_law_1687 (by decide) ?_
  refine lv_iadd hx hb dL_law_1688 ?_
  refine va_sld hx hb hX hbl hbA hS v1 dL_law_1689 ?_
  refine lm_cures C0 hN hK hMI hl.1 (Nat.le_of_ble_eq_true rfl) hc0 dL_law_1690 hP hD hS (fun r_4 u_6 H locs hMI hp_5 hP hD hS => ?_)
  refine lv_pop hx hb dL_law_1693 rfl ?_
  refine lv_goto (tgt := 2660) hx hb dL_law_1694 (by decide) ?_
  refine W.widen (k := 200 + 9 * (n + 1)) (n := 10000 + 132 * (n + 1)) (by omega) (by omega) ?_
  refine lv_iinc (v := i + 6) (lv' := [(3, .int (i + 6)), (2, .ref (g 0)), (1, .ref (a 0)), (0, .ref b)]) hx hb dL_law_2660 hl (k := 0) rfl rfl (by decide) rfl (fun ls hl => ?_)
  refine lv_goto (tgt := 18) hx hb dL_law_2663 (by decide) ?_
  have hJ2 : JI (XSf u_3) (MSf u_6) := (by rw [hp_2, hp_5]; exact hJ)
  exact KK _ _ _ _ _ _ _ (i6F hi hn) hXI hMI hJ2 hP hD hS hl
set_option maxHeartbeats 8000000 in
set_option maxRecDepth 100000 in
theorem lw_case_55 {p : Program} {l : Launch} {e : Env} {s : State} {m : MethodId} {below : List Frame} {meth : Method} {c : Code} {b L : Nat} {xs : Nat → Int32} {dC : Nat → ClassId} {dI : Nat → Nat → Nat} {cB cI cJ cZ cL : ClassId} (C0 : lw_At p s m meth c b L xs) (hN : NW s) (hK : va_K (dC, dI) vwCl (tyL cB cI cJ cZ cL) s) {a g adK adV : Nat → Nat} (hV : SW adK adV (fun q : Nat => s.heap.size ≤ q) s s.heap) {n : Nat} {i : Int32} {u : XT} {v : MT} {T : va_W} (hn : n ≤ 511) (hi : Int32.toInt i = 6 * (n : Int)) (hiL : 6 * n + 6 ≤ L) (hXI : XI cB cI cJ cZ cL u T) (hMI : MI v) (hJ : JI (XSf u) (MSf v)) {H : Heap} {locs : List Loc} (hP : va_P (dC, dI) vwCl (WX a cB cI cJ cZ cL u ++ (WM g cB cI cJ cZ cL v ++ T)) H) (hD : va_D (fun q : Nat => s.heap.size ≤ q) (WX a cB cI cJ cZ cL u ++ (WM g cB cI cJ cZ cL v ++ T))) (hS : va_S (fun q : Nat => s.heap.size ≤ q) s.heap H locs) {ls : Array Slot} (hl : lv_has ls 4 [(3, .int i), (2, .ref (g 0)), (1, .ref (a 0)), (0, .ref b)]) (KK : ∀ (i : Int32) (u : XT) (v : MT) (T : va_W) (H : Heap) (locs : List Loc) (ls : Array Slot), Int32.toInt i = 6 * ((n + 1 : Nat) : Int) → XI cB cI cJ cZ cL u T → MI v → JI (XSf u) (MSf v) → va_P (dC, dI) vwCl (WX a cB cI cJ cZ cL u ++ (WM g cB cI cJ cZ cL v ++ T)) H → va_D (fun q : Nat => s.heap.size ≤ q) (WX a cB cI cJ cZ cL u ++ (WM g cB cI cJ cZ cL v ++ T)) → va_S (fun q : Nat => s.heap.size ≤ q) s.heap H locs → lv_has ls 4 [(3, .int i), (2, .ref (g 0)), (1, .ref (a 0)), (0, .ref b)] → W p l e room_1 s m #[Value.ref b] below meth c H locs (200 + 9 * (n + 1)) (10000 + 132 * (n + 1)) (lw_Z below #[Value.ref b] s) (F0 m 18 ls [])) : W p l e room_1 s m #[Value.ref b] below meth c H locs (200 + 9 * n) (10000 + 132 * n) (lw_Z below #[Value.ref b] s) (F0 m 1697 ls []) := by
  obtain ⟨hx, hb, hr, hml, hown, hts, hX, hbl, hlocks, hgv⟩ := id C0
  have ht : ∀ w ∈ lw_ok, w.before #[Value.ref b] s = true := fun w h => hts w (List.mem_filter.mp h).1
  have hbA : ¬ (fun q : Nat => s.heap.size ≤ q) b := Nat.not_le.mpr hbl
  have hc0 : 200 + 9 * n + 0 ≤ room_1.cells ∧ 10000 + 132 * n + 0 ≤ room_1.slots := ⟨by show 200 + 9 * n + 0 ≤ 600000; omega, by show 10000 + 132 * n + 0 ≤ 7302249; omega⟩
  refine lv_aload_n hx hb dL_law_1697 rfl (lv_at hl 2 rfl) ?_
  refine lx_best C0 hN hK hXI hl.1 (Nat.le_of_ble_eq_true rfl) hc0 dL_law_1698 hP hD hS (fun r_1 u_3 H locs hXI hp_2 hP hD hS => ?_)
  refine lv_pop hx hb dL_law_1701 rfl ?_
  refine lv_aload_n hx hb dL_law_1702 rfl (lv_at hl 1 rfl) ?_
  refine lm_best C0 hN hK hMI hl.1 (Nat.le_of_ble_eq_true rfl) hc0 dL_law_1703 hP hD hS (fun r_4 u_6 H locs hMI hp_5 hP hD hS => ?_)
  refine lv_pop hx hb dL_law_1706 rfl ?_
  refine lv_goto (tgt := 2660) hx hb dL_law_1707 (by decide) ?_
  refine W.widen (k := 200 + 9 * (n + 1)) (n := 10000 + 132 * (n + 1)) (by omega) (by omega) ?_
  refine lv_iinc (v := i + 6) (lv' := [(3, .int (i + 6)), (2, .ref (g 0)), (1, .ref (a 0)), (0, .ref b)]) hx hb dL_law_2660 hl (k := 0) rfl rfl (by decide) rfl (fun ls hl => ?_)
  refine lv_goto (tgt := 18) hx hb dL_law_2663 (by decide) ?_
  have hJ2 : JI (XSf u_3) (MSf u_6) := (by rw [hp_2, hp_5]; exact hJ)
  exact KK _ _ _ _ _ _ _ (i6F hi hn) hXI hMI hJ2 hP hD hS hl
set_option maxHeartbeats 8000000 in
set_option maxRecDepth 100000 in
theorem lw_case_56 {p : Program} {l : Launch} {e : Env} {s : State} {m : MethodId} {below : List Frame} {meth : Method} {c : Code} {b L : Nat} {xs : Nat → Int32} {dC : Nat → ClassId} {dI : Nat → Nat → Nat} {cB cI cJ cZ cL : ClassId} (C0 : lw_At p s m meth c b L xs) (hN : NW s) (hK : va_K (dC, dI) vwCl (tyL cB cI cJ cZ cL) s) {a g adK adV : Nat → Nat} (hV : SW adK adV (fun q : Nat => s.heap.size ≤ q) s s.heap) {n : Nat} {i : Int32} {u : XT} {v : MT} {T : va_W} (hn : n ≤ 511) (hi : Int32.toInt i = 6 * (n : Int)) (hiL : 6 * n + 6 ≤ L) (hXI : XI cB cI cJ cZ cL u T) (hMI : MI v) (hJ : JI (XSf u) (MSf v)) {H : Heap} {locs : List Loc} (hP : va_P (dC, dI) vwCl (WX a cB cI cJ cZ cL u ++ (WM g cB cI cJ cZ cL v ++ T)) H) (hD : va_D (fun q : Nat => s.heap.size ≤ q) (WX a cB cI cJ cZ cL u ++ (WM g cB cI cJ cZ cL v ++ T))) (hS : va_S (fun q : Nat => s.heap.size ≤ q) s.heap H locs) {ls : Array Slot} (hl : lv_has ls 4 [(3, .int i), (2, .ref (g 0)), (1, .ref (a 0)), (0, .ref b)]) (KK : ∀ (i : Int32) (u : XT) (v : MT) (T : va_W) (H : Heap) (locs : List Loc) (ls : Array Slot), Int32.toInt i = 6 * ((n + 1 : Nat) : Int) → XI cB cI cJ cZ cL u T → MI v → JI (XSf u) (MSf v) → va_P (dC, dI) vwCl (WX a cB cI cJ cZ cL u ++ (WM g cB cI cJ cZ cL v ++ T)) H → va_D (fun q : Nat => s.heap.size ≤ q) (WX a cB cI cJ cZ cL u ++ (WM g cB cI cJ cZ cL v ++ T)) → va_S (fun q : Nat => s.heap.size ≤ q) s.heap H locs → lv_has ls 4 [(3, .int i), (2, .ref (g 0)), (1, .ref (a 0)), (0, .ref b)] → W p l e room_1 s m #[Value.ref b] below meth c H locs (200 + 9 * (n + 1)) (10000 + 132 * (n + 1)) (lw_Z below #[Value.ref b] s) (F0 m 18 ls [])) : W p l e room_1 s m #[Value.ref b] below meth c H locs (200 + 9 * n) (10000 + 132 * n) (lw_Z below #[Value.ref b] s) (F0 m 1710 ls []) := by
  obtain ⟨hx, hb, hr, hml, hown, hts, hX, hbl, hlocks, hgv⟩ := id C0
  have ht : ∀ w ∈ lw_ok, w.before #[Value.ref b] s = true := fun w h => hts w (List.mem_filter.mp h).1
  have hbA : ¬ (fun q : Nat => s.heap.size ≤ q) b := Nat.not_le.mpr hbl
  have hc0 : 200 + 9 * n + 0 ≤ room_1.cells ∧ 10000 + 132 * n + 0 ≤ room_1.slots := ⟨by show 200 + 9 * n + 0 ≤ 600000; omega, by show 10000 + 132 * n + 0 ≤ 7302249; omega⟩
  refine lv_aload_n hx hb dL_law_1710 rfl (lv_at hl 2 rfl) ?_
  refine lx_thick C0 hN hK hXI hl.1 (Nat.le_of_ble_eq_true rfl) hc0 dL_law_1711 hP hD hS (fun r_1 u_3 H locs hXI hp_2 hP hD hS => ?_)
  refine lv_pop hx hb dL_law_1714 rfl ?_
  refine lv_aload_n hx hb dL_law_1715 rfl (lv_at hl 1 rfl) ?_
  refine lm_thick C0 hN hK hMI hl.1 (Nat.le_of_ble_eq_true rfl) hc0 dL_law_1716 hP hD hS (fun r_4 u_6 H locs hMI hp_5 hP hD hS => ?_)
  refine lv_pop hx hb dL_law_1719 rfl ?_
  refine lv_goto (tgt := 2660) hx hb dL_law_1720 (by decide) ?_
  refine W.widen (k := 200 + 9 * (n + 1)) (n := 10000 + 132 * (n + 1)) (by omega) (by omega) ?_
  refine lv_iinc (v := i + 6) (lv' := [(3, .int (i + 6)), (2, .ref (g 0)), (1, .ref (a 0)), (0, .ref b)]) hx hb dL_law_2660 hl (k := 0) rfl rfl (by decide) rfl (fun ls hl => ?_)
  refine lv_goto (tgt := 18) hx hb dL_law_2663 (by decide) ?_
  have hJ2 : JI (XSf u_3) (MSf u_6) := (by rw [hp_2, hp_5]; exact hJ)
  exact KK _ _ _ _ _ _ _ (i6F hi hn) hXI hMI hJ2 hP hD hS hl
set_option maxHeartbeats 8000000 in
set_option maxRecDepth 100000 in
theorem lw_case_57 {p : Program} {l : Launch} {e : Env} {s : State} {m : MethodId} {below : List Frame} {meth : Method} {c : Code} {b L : Nat} {xs : Nat → Int32} {dC : Nat → ClassId} {dI : Nat → Nat → Nat} {cB cI cJ cZ cL : ClassId} (C0 : lw_At p s m meth c b L xs) (hN : NW s) (hK : va_K (dC, dI) vwCl (tyL cB cI cJ cZ cL) s) {a g adK adV : Nat → Nat} (hV : SW adK adV (fun q : Nat => s.heap.size ≤ q) s s.heap) {n : Nat} {i : Int32} {u : XT} {v : MT} {T : va_W} (hn : n ≤ 511) (hi : Int32.toInt i = 6 * (n : Int)) (hiL : 6 * n + 6 ≤ L) (hXI : XI cB cI cJ cZ cL u T) (hMI : MI v) (hJ : JI (XSf u) (MSf v)) {H : Heap} {locs : List Loc} (hP : va_P (dC, dI) vwCl (WX a cB cI cJ cZ cL u ++ (WM g cB cI cJ cZ cL v ++ T)) H) (hD : va_D (fun q : Nat => s.heap.size ≤ q) (WX a cB cI cJ cZ cL u ++ (WM g cB cI cJ cZ cL v ++ T))) (hS : va_S (fun q : Nat => s.heap.size ≤ q) s.heap H locs) {ls : Array Slot} (hl : lv_has ls 4 [(3, .int i), (2, .ref (g 0)), (1, .ref (a 0)), (0, .ref b)]) (KK : ∀ (i : Int32) (u : XT) (v : MT) (T : va_W) (H : Heap) (locs : List Loc) (ls : Array Slot), Int32.toInt i = 6 * ((n + 1 : Nat) : Int) → XI cB cI cJ cZ cL u T → MI v → JI (XSf u) (MSf v) → va_P (dC, dI) vwCl (WX a cB cI cJ cZ cL u ++ (WM g cB cI cJ cZ cL v ++ T)) H → va_D (fun q : Nat => s.heap.size ≤ q) (WX a cB cI cJ cZ cL u ++ (WM g cB cI cJ cZ cL v ++ T)) → va_S (fun q : Nat => s.heap.size ≤ q) s.heap H locs → lv_has ls 4 [(3, .int i), (2, .ref (g 0)), (1, .ref (a 0)), (0, .ref b)] → W p l e room_1 s m #[Value.ref b] below meth c H locs (200 + 9 * (n + 1)) (10000 + 132 * (n + 1)) (lw_Z below #[Value.ref b] s) (F0 m 18 ls [])) : W p l e room_1 s m #[Value.ref b] below meth c H locs (200 + 9 * n) (10000 + 132 * n) (lw_Z below #[Value.ref b] s) (F0 m 1723 ls []) := by
  obtain ⟨hx, hb, hr, hml, hown, hts, hX, hbl, hlocks, hgv⟩ := id C0
  have ht : ∀ w ∈ lw_ok, w.before #[Value.ref b] s = true := fun w h => hts w (List.mem_filter.mp h).1
  have hbA : ¬ (fun q : Nat => s.heap.size ≤ q) b := Nat.not_le.mpr hbl
  have hc0 : 200 + 9 * n + 0 ≤ room_1.cells ∧ 10000 + 132 * n + 0 ≤ room_1.slots := ⟨by show 200 + 9 * n + 0 ≤ 600000; omega, by show 10000 + 132 * n + 0 ≤ 7302249; omega⟩
  have v1 : vp_in (i + 1) L := ijF hi hn hiL (by decide) (by decide)
  have v2 : vp_in (i + 2) L := ijF hi hn hiL (by decide) (by decide)
  refine lv_aload_n hx hb dL_law_1723 rfl (lv_at hl 2 rfl) ?_
  refine lv_aload_n hx hb dL_law_1724 rfl (lv_at hl 3 rfl) ?_
  refine lv_iload_n hx hb dL_law_1725 rfl (lv_at hl 0 rfl) ?_
  refine lv_iconst (v := 1) hx hb dL_law_1726 (by decide) ?_
  refine lv_iadd hx hb dL_law_1727 ?_
  refine va_sld hx hb hX hbl hbA hS v1 dL_law_1728 ?_
  refine lv_aload_n hx hb dL_law_1729 rfl (lv_at hl 3 rfl) ?_
  refine lv_iload_n hx hb dL_law_1730 rfl (lv_at hl 0 rfl) ?_
  refine lv_iconst (v := 2) hx hb dL_law_1731 (by decide) ?_
  refine lv_iadd hx hb dL_law_1732 ?_
  refine va_sld hx hb hX hbl hbA hS v2 dL_law_1733 ?_
  refine lx_fits C0 hN hK hXI hl.1 (Nat.le_of_ble_eq_true rfl) hc0 dL_law_1734 hP hD hS (fun r_1 u_3 H locs hXI hp_2 hP hD hS => ?_)
  refine lv_pop hx hb dL_law_1737 rfl ?_
  refine lv_aload_n hx hb dL_law_1738 rfl (lv_at hl 1 rfl) ?_
  refine lv_aload_n hx hb dL_law_1739 rfl (lv_at hl 3 rfl) ?_
  refine lv_iload_n hx hb dL_law_1740 rfl (lv_at hl 0 rfl) ?_
  refine lv_iconst (v := 1) hx hb dL_law_1741 (by decide) ?_
  refine lv_iadd hx hb dL_law_1742 ?_
  refine va_sld hx hb hX hbl hbA hS v1 dL_law_1743 ?_
  refine lv_aload_n hx hb dL_law_1744 rfl (lv_at hl 3 rfl) ?_
  refine lv_iload_n hx hb dL_law_1745 rfl (lv_at hl 0 rfl) ?_
  refine lv_iconst (v := 2) hx hb dL_law_1746 (by decide) ?_
  refine lv_iadd hx hb dL_law_1747 ?_
  refine va_sld hx hb hX hbl hbA hS v2 dL_law_1748 ?_
  refine lm_fits C0 hN hK hMI hl.1 (Nat.le_of_ble_eq_true rfl) hc0 dL_law_1749 hP hD hS (fun r_4 u_6 H locs hMI hp_5 hP hD hS => ?_)
  refine lv_pop hx hb dL_law_1752 rfl ?_
  refine lv_goto (tgt := 2660) hx hb dL_law_1753 (by decide) ?_
  refine W.widen (k := 200 + 9 * (n + 1)) (n := 10000 + 132 * (n + 1)) (by omega) (by omega) ?_
  refine lv_iinc (v := i + 6) (lv' := [(3, .int (i + 6)), (2, .ref (g 0)), (1, .ref (a 0)), (0, .ref b)]) hx hb dL_law_2660 hl (k := 0) rfl rfl (by decide) rfl (fun ls hl => ?_)
  refine lv_goto (tgt := 18) hx hb dL_law_2663 (by decide) ?_
  have hJ2 : JI (XSf u_3) (MSf u_6) := (by rw [hp_2, hp_5]; exact hJ)
  exact KK _ _ _ _ _ _ _ (i6F hi hn) hXI hMI hJ2 hP hD hS hl
set_option maxHeartbeats 8000000 in
set_option maxRecDepth 100000 in
theorem lw_case_58 {p : Program} {l : Launch} {e : Env} {s : State} {m : MethodId} {below : List Frame} {meth : Method} {c : Code} {b L : Nat} {xs : Nat → Int32} {dC : Nat → ClassId} {dI : Nat → Nat → Nat} {cB cI cJ cZ cL : ClassId} (C0 : lw_At p s m meth c b L xs) (hN : NW s) (hK : va_K (dC, dI) vwCl (tyL cB cI cJ cZ cL) s) {a g adK adV : Nat → Nat} (hV : SW adK adV (fun q : Nat => s.heap.size ≤ q) s s.heap) {n : Nat} {i : Int32} {u : XT} {v : MT} {T : va_W} (hn : n ≤ 511) (hi : Int32.toInt i = 6 * (n : Int)) (hiL : 6 * n + 6 ≤ L) (hXI : XI cB cI cJ cZ cL u T) (hMI : MI v) (hJ : JI (XSf u) (MSf v)) {H : Heap} {locs : List Loc} (hP : va_P (dC, dI) vwCl (WX a cB cI cJ cZ cL u ++ (WM g cB cI cJ cZ cL v ++ T)) H) (hD : va_D (fun q : Nat => s.heap.size ≤ q) (WX a cB cI cJ cZ cL u ++ (WM g cB cI cJ cZ cL v ++ T))) (hS : va_S (fun q : Nat => s.heap.size ≤ q) s.heap H locs) {ls : Array Slot} (hl : lv_has ls 4 [(3, .int i), (2, .ref (g 0)), (1, .ref (a 0)), (0, .ref b)]) (KK : ∀ (i : Int32) (u : XT) (v : MT) (T : va_W) (H : Heap) (locs : List Loc) (ls : Array Slot), Int32.toInt i = 6 * ((n + 1 : Nat) : Int) → XI cB cI cJ cZ cL u T → MI v → JI (XSf u) (MSf v) → va_P (dC, dI) vwCl (WX a cB cI cJ cZ cL u ++ (WM g cB cI cJ cZ cL v ++ T)) H → va_D (fun q : Nat => s.heap.size ≤ q) (WX a cB cI cJ cZ cL u ++ (WM g cB cI cJ cZ cL v ++ T)) → va_S (fun q : Nat => s.heap.size ≤ q) s.heap H locs → lv_has ls 4 [(3, .int i), (2, .ref (g 0)), (1, .ref (a 0)), (0, .ref b)] → W p l e room_1 s m #[Value.ref b] below meth c H locs (200 + 9 * (n + 1)) (10000 + 132 * (n + 1)) (lw_Z below #[Value.ref b] s) (F0 m 18 ls [])) : W p l e room_1 s m #[Value.ref b] below meth c H locs (200 + 9 * n) (10000 + 132 * n) (lw_Z below #[Value.ref b] s) (F0 m 1756 ls []) := by
  obtain ⟨hx, hb, hr, hml, hown, hts, hX, hbl, hlocks, hgv⟩ := id C0
  have ht : ∀ w ∈ lw_ok, w.before #[Value.ref b] s = true := fun w h => hts w (List.mem_filter.mp h).1
  have hbA : ¬ (fun q : Nat => s.heap.size ≤ q) b := Nat.not_le.mpr hbl
  have hc0 : 200 + 9 * n + 0 ≤ room_1.cells ∧ 10000 + 132 * n + 0 ≤ room_1.slots := ⟨by show 200 + 9 * n + 0 ≤ 600000; omega, by show 10000 + 132 * n + 0 ≤ 7302249; omega⟩
  have v1 : vp_in (i + 1) L := ijF hi hn hiL (by decide) (by decide)
  have v2 : vp_in (i + 2) L := ijF hi hn hiL (by decide) (by decide)
  refine lv_aload_n hx hb dL_law_1756 rfl (lv_at hl 2 rfl) ?_
  refine lv_aload_n hx hb dL_law_1757 rfl (lv_at hl 3 rfl) ?_
  refine lv_iload_n hx hb dL_law_1758 rfl (lv_at hl 0 rfl) ?_
  refine lv_iconst (v := 1) hx hb dL_law_1759 (by decide) ?_
  refine lv_iadd hx hb dL_law_1760 ?_
  refine va_sld hx hb hX hbl hbA hS v1 dL_law_1761 ?_
  refine lv_aload_n hx hb dL_law_1762 rfl (lv_at hl 3 rfl) ?_
  refine lv_iload_n hx hb dL_law_1763 rfl (lv_at hl 0 rfl) ?_
  refine lv_iconst (v := 2) hx hb dL_law_1764 (by decide) ?_
  refine lv_iadd hx hb dL_law_1765 ?_
  refine va_sld hx hb hX hbl hbA hS v2 dL_law_1766 ?_
  refine lx_low C0 hN hK hXI hl.1 (Nat.le_of_ble_eq_true rfl) hc0 dL_law_1767 hP hD hS (fun r_1 u_3 H locs hXI hp_2 hP hD hS => ?_)
  refine lv_pop hx hb dL_law_1770 rfl ?_
  refine lv_aload_n hx hb dL_law_1771 rfl (lv_at hl 1 rfl) ?_
  refine lv_aload_n hx hb dL_law_1772 rfl (lv_at hl 3 rfl) ?_
  refine lv_iload_n hx hb dL_law_1773 rfl (lv_at hl 0 rfl) ?_
  refine lv_iconst (v := 1) hx hb dL_law_1774 (by decide) ?_
  refine lv_iadd hx hb dL_law_1775 ?_
  refine va_sld hx hb hX hbl hbA hS v1 dL_law_1776 ?_
  refine lv_aload_n hx hb dL_law_1777 rfl (lv_at hl 3 rfl) ?_
  refine lv_iload_n hx hb dL_law_1778 rfl (lv_at hl 0 rfl) ?_
  refine lv_iconst (v := 2) hx hb dL_law_1779 (by decide) ?_
  refine lv_iadd hx hb dL_law_1780 ?_
  refine va_sld hx hb hX hbl hbA hS v2 dL_law_1781 ?_
  refine lm_low C0 hN hK hMI hl.1 (Nat.le_of_ble_eq_true rfl) hc0 dL_law_1782 hP hD hS (fun r_4 u_6 H locs hMI hp_5 hP hD hS => ?_)
  refine lv_pop hx hb dL_law_1785 rfl ?_
  refine lv_goto (tgt := 2660) hx hb dL_law_1786 (by decide) ?_
  refine W.widen (k := 200 + 9 * (n + 1)) (n := 10000 + 132 * (n + 1)) (by omega) (by omega) ?_
  refine lv_iinc (v := i + 6) (lv' := [(3, .int (i + 6)), (2, .ref (g 0)), (1, .ref (a 0)), (0, .ref b)]) hx hb dL_law_2660 hl (k := 0) rfl rfl (by decide) rfl (fun ls hl => ?_)
  refine lv_goto (tgt := 18) hx hb dL_law_2663 (by decide) ?_
  have hJ2 : JI (XSf u_3) (MSf u_6) := (by rw [hp_2, hp_5]; exact hJ)
  exact KK _ _ _ _ _ _ _ (i6F hi hn) hXI hMI hJ2 hP hD hS hl
set_option maxHeartbeats 8000000 in
set_option maxRecDepth 100000 in
theorem lw_case_59 {p : Program} {l : Launch} {e : Env} {s : State} {m : MethodId} {below : List Frame} {meth : Method} {c : Code} {b L : Nat} {xs : Nat → Int32} {dC : Nat → ClassId} {dI : Nat → Nat → Nat} {cB cI cJ cZ cL : ClassId} (C0 : lw_At p s m meth c b L xs) (hN : NW s) (hK : va_K (dC, dI) vwCl (tyL cB cI cJ cZ cL) s) {a g adK adV : Nat → Nat} (hV : SW adK adV (fun q : Nat => s.heap.size ≤ q) s s.heap) {n : Nat} {i : Int32} {u : XT} {v : MT} {T : va_W} (hn : n ≤ 511) (hi : Int32.toInt i = 6 * (n : Int)) (hiL : 6 * n + 6 ≤ L) (hXI : XI cB cI cJ cZ cL u T) (hMI : MI v) (hJ : JI (XSf u) (MSf v)) {H : Heap} {locs : List Loc} (hP : va_P (dC, dI) vwCl (WX a cB cI cJ cZ cL u ++ (WM g cB cI cJ cZ cL v ++ T)) H) (hD : va_D (fun q : Nat => s.heap.size ≤ q) (WX a cB cI cJ cZ cL u ++ (WM g cB cI cJ cZ cL v ++ T))) (hS : va_S (fun q : Nat => s.heap.size ≤ q) s.heap H locs) {ls : Array Slot} (hl : lv_has ls 4 [(3, .int i), (2, .ref (g 0)), (1, .ref (a 0)), (0, .ref b)]) (KK : ∀ (i : Int32) (u : XT) (v : MT) (T : va_W) (H : Heap) (locs : List Loc) (ls : Array Slot), Int32.toInt i = 6 * ((n + 1 : Nat) : Int) → XI cB cI cJ cZ cL u T → MI v → JI (XSf u) (MSf v) → va_P (dC, dI) vwCl (WX a cB cI cJ cZ cL u ++ (WM g cB cI cJ cZ cL v ++ T)) H → va_D (fun q : Nat => s.heap.size ≤ q) (WX a cB cI cJ cZ cL u ++ (WM g cB cI cJ cZ cL v ++ T)) → va_S (fun q : Nat => s.heap.size ≤ q) s.heap H locs → lv_has ls 4 [(3, .int i), (2, .ref (g 0)), (1, .ref (a 0)), (0, .ref b)] → W p l e room_1 s m #[Value.ref b] below meth c H locs (200 + 9 * (n + 1)) (10000 + 132 * (n + 1)) (lw_Z below #[Value.ref b] s) (F0 m 18 ls [])) : W p l e room_1 s m #[Value.ref b] below meth c H locs (200 + 9 * n) (10000 + 132 * n) (lw_Z below #[Value.ref b] s) (F0 m 1789 ls []) := by
  obtain ⟨hx, hb, hr, hml, hown, hts, hX, hbl, hlocks, hgv⟩ := id C0
  have ht : ∀ w ∈ lw_ok, w.before #[Value.ref b] s = true := fun w h => hts w (List.mem_filter.mp h).1
  have hbA : ¬ (fun q : Nat => s.heap.size ≤ q) b := Nat.not_le.mpr hbl
  have hc0 : 200 + 9 * n + 0 ≤ room_1.cells ∧ 10000 + 132 * n + 0 ≤ room_1.slots := ⟨by show 200 + 9 * n + 0 ≤ 600000; omega, by show 10000 + 132 * n + 0 ≤ 7302249; omega⟩
  have v1 : vp_in (i + 1) L := ijF hi hn hiL (by decide) (by decide)
  have v2 : vp_in (i + 2) L := ijF hi hn hiL (by decide) (by decide)
  refine lv_aload_n hx hb dL_law_1789 rfl (lv_at hl 2 rfl) ?_
  refine lv_aload_n hx hb dL_law_1790 rfl (lv_at hl 3 rfl) ?_
  refine lv_iload_n hx hb dL_law_1791 rfl (lv_at hl 0 rfl) ?_
  refine lv_iconst (v := 1) hx hb dL_law_1792 (by decide) ?_
  refine lv_iadd hx hb dL_law_1793 ?_
  refine va_sld hx hb hX hbl hbA hS v1 dL_law_1794 ?_
  refine lv_aload_n hx hb dL_law_1795 rfl (lv_at hl 3 rfl) ?_
  refine lv_iload_n hx hb dL_law_1796 rfl (lv_at hl 0 rfl) ?_
  refine lv_iconst (v := 2) hx hb dL_law_1797 (by decide) ?_
  refine lv_iadd hx hb dL_law_1798 ?_
  refine va_sld hx hb hX hbl hbA hS v2 dL_law_1799 ?_
  refine lx_high C0 hN hK hXI hl.1 (Nat.le_of_ble_eq_true rfl) hc0 dL_law_1800 hP hD hS (fun r_1 u_3 H locs hXI hp_2 hP hD hS => ?_)
  refine lv_pop hx hb dL_law_1803 rfl ?_
  refine lv_aload_n hx hb dL_law_1804 rfl (lv_at hl 1 rfl) ?_
  refine lv_aload_n hx hb dL_law_1805 rfl (lv_at hl 3 rfl) ?_
  refine lv_iload_n hx hb dL_law_1806 rfl (lv_at hl 0 rfl) ?_
  refine lv_iconst (v := 1) hx hb dL_law_1807 (by decide) ?_
  refine lv_iadd hx hb dL_law_1808 ?_
  refine va_sld hx hb hX hbl hbA hS v1 dL_law_1809 ?_
  refine lv_aload_n hx hb dL_law_1810 rfl (lv_at hl 3 rfl) ?_
  refine lv_iload_n hx hb dL_law_1811 rfl (lv_at hl 0 rfl) ?_
  refine lv_iconst (v := 2) hx hb dL_law_1812 (by decide) ?_
  refine lv_iadd hx hb dL_law_1813 ?_
  refine va_sld hx hb hX hbl hbA hS v2 dL_law_1814 ?_
  refine lm_high C0 hN hK hMI hl.1 (Nat.le_of_ble_eq_true rfl) hc0 dL_law_1815 hP hD hS (fun r_4 u_6 H locs hMI hp_5 hP hD hS => ?_)
  refine lv_pop hx hb dL_law_1818 rfl ?_
  refine lv_goto (tgt := 2660) hx hb dL_law_1819 (by decide) ?_
  refine W.widen (k := 200 + 9 * (n + 1)) (n := 10000 + 132 * (n + 1)) (by omega) (by omega) ?_
  refine lv_iinc (v := i + 6) (lv' := [(3, .int (i + 6)), (2, .ref (g 0)), (1, .ref (a 0)), (0, .ref b)]) hx hb dL_law_2660 hl (k := 0) rfl rfl (by decide) rfl (fun ls hl => ?_)
  refine lv_goto (tgt := 18) hx hb dL_law_2663 (by decide) ?_
  have hJ2 : JI (XSf u_3) (MSf u_6) := (by rw [hp_2, hp_5]; exact hJ)
  exact KK _ _ _ _ _ _ _ (i6F hi hn) hXI hMI hJ2 hP hD hS hl
set_option maxHeartbeats 8000000 in
set_option maxRecDepth 100000 in
theorem lw_case_60 {p : Program} {l : Launch} {e : Env} {s : State} {m : MethodId} {below : List Frame} {meth : Method} {c : Code} {b L : Nat} {xs : Nat → Int32} {dC : Nat → ClassId} {dI : Nat → Nat → Nat} {cB cI cJ cZ cL : ClassId} (C0 : lw_At p s m meth c b L xs) (hN : NW s) (hK : va_K (dC, dI) vwCl (tyL cB cI cJ cZ cL) s) {a g adK adV : Nat → Nat} (hV : SW adK adV (fun q : Nat => s.heap.size ≤ q) s s.heap) {n : Nat} {i : Int32} {u : XT} {v : MT} {T : va_W} (hn : n ≤ 511) (hi : Int32.toInt i = 6 * (n : Int)) (hiL : 6 * n + 6 ≤ L) (hXI : XI cB cI cJ cZ cL u T) (hMI : MI v) (hJ : JI (XSf u) (MSf v)) {H : Heap} {locs : List Loc} (hP : va_P (dC, dI) vwCl (WX a cB cI cJ cZ cL u ++ (WM g cB cI cJ cZ cL v ++ T)) H) (hD : va_D (fun q : Nat => s.heap.size ≤ q) (WX a cB cI cJ cZ cL u ++ (WM g cB cI cJ cZ cL v ++ T))) (hS : va_S (fun q : Nat => s.heap.size ≤ q) s.heap H locs) {ls : Array Slot} (hl : lv_has ls 4 [(3, .int i), (2, .ref (g 0)), (1, .ref (a 0)), (0, .ref b)]) (KK : ∀ (i : Int32) (u : XT) (v : MT) (T : va_W) (H : Heap) (locs : List Loc) (ls : Array Slot), Int32.toInt i = 6 * ((n + 1 : Nat) : Int) → XI cB cI cJ cZ cL u T → MI v → JI (XSf u) (MSf v) → va_P (dC, dI) vwCl (WX a cB cI cJ cZ cL u ++ (WM g cB cI cJ cZ cL v ++ T)) H → va_D (fun q : Nat => s.heap.size ≤ q) (WX a cB cI cJ cZ cL u ++ (WM g cB cI cJ cZ cL v ++ T)) → va_S (fun q : Nat => s.heap.size ≤ q) s.heap H locs → lv_has ls 4 [(3, .int i), (2, .ref (g 0)), (1, .ref (a 0)), (0, .ref b)] → W p l e room_1 s m #[Value.ref b] below meth c H locs (200 + 9 * (n + 1)) (10000 + 132 * (n + 1)) (lw_Z below #[Value.ref b] s) (F0 m 18 ls [])) : W p l e room_1 s m #[Value.ref b] below meth c H locs (200 + 9 * n) (10000 + 132 * n) (lw_Z below #[Value.ref b] s) (F0 m 1822 ls []) := by
  obtain ⟨hx, hb, hr, hml, hown, hts, hX, hbl, hlocks, hgv⟩ := id C0
  have ht : ∀ w ∈ lw_ok, w.before #[Value.ref b] s = true := fun w h => hts w (List.mem_filter.mp h).1
  have hbA : ¬ (fun q : Nat => s.heap.size ≤ q) b := Nat.not_le.mpr hbl
  have hc0 : 200 + 9 * n + 0 ≤ room_1.cells ∧ 10000 + 132 * n + 0 ≤ room_1.slots := ⟨by show 200 + 9 * n + 0 ≤ 600000; omega, by show 10000 + 132 * n + 0 ≤ 7302249; omega⟩
  have v1 : vp_in (i + 1) L := ijF hi hn hiL (by decide) (by decide)
  have v2 : vp_in (i + 2) L := ijF hi hn hiL (by decide) (by decide)
  refine lv_aload_n hx hb dL_law_1822 rfl (lv_at hl 2 rfl) ?_
  refine lv_aload_n hx hb dL_law_1823 rfl (lv_at hl 3 rfl) ?_
  refine lv_iload_n hx hb dL_law_1824 rfl (lv_at hl 0 rfl) ?_
  refine lv_iconst (v := 1) hx hb dL_law_1825 (by decide) ?_
  refine lv_iadd hx hb dL_law_1826 ?_
  refine va_sld hx hb hX hbl hbA hS v1 dL_law_1827 ?_
  refine lv_aload_n hx hb dL_law_1828 rfl (lv_at hl 3 rfl) ?_
  refine lv_iload_n hx hb dL_law_1829 rfl (lv_at hl 0 rfl) ?_
  refine lv_iconst (v := 2) hx hb dL_law_1830 (by decide) ?_
  refine lv_iadd hx hb dL_law_1831 ?_
  refine va_sld hx hb hX hbl hbA hS v2 dL_law_1832 ?_
  refine lx_ask C0 hN hK hXI hl.1 (Nat.le_of_ble_eq_true rfl) hc0 dL_law_1833 hP hD hS (fun r_1 u_3 H locs hXI hp_2 hP hD hS => ?_)
  refine lv_pop hx hb dL_law_1836 rfl ?_
  refine lv_aload_n hx hb dL_law_1837 rfl (lv_at hl 1 rfl) ?_
  refine lv_aload_n hx hb dL_law_1838 rfl (lv_at hl 3 rfl) ?_
  refine lv_iload_n hx hb dL_law_1839 rfl (lv_at hl 0 rfl) ?_
  refine lv_iconst (v := 1) hx hb dL_law_1840 (by decide) ?_
  refine lv_iadd hx hb dL_law_1841 ?_
  refine va_sld hx hb hX hbl hbA hS v1 dL_law_1842 ?_
  refine lv_aload_n hx hb dL_law_1843 rfl (lv_at hl 3 rfl) ?_
  refine lv_iload_n hx hb dL_law_1844 rfl (lv_at hl 0 rfl) ?_
  refine lv_iconst (v := 2) hx hb dL_law_1845 (by decide) ?_
  refine lv_iadd hx hb dL_law_1846 ?_
  refine va_sld hx hb hX hbl hbA hS v2 dL_law_1847 ?_
  refine lm_ask C0 hN hK hMI hl.1 (Nat.le_of_ble_eq_true rfl) hc0 dL_law_1848 hP hD hS (fun r_4 u_6 H locs hMI hp_5 hP hD hS => ?_)
  refine lv_pop hx hb dL_law_1851 rfl ?_
  refine lv_goto (tgt := 2660) hx hb dL_law_1852 (by decide) ?_
  refine W.widen (k := 200 + 9 * (n + 1)) (n := 10000 + 132 * (n + 1)) (by omega) (by omega) ?_
  refine lv_iinc (v := i + 6) (lv' := [(3, .int (i + 6)), (2, .ref (g 0)), (1, .ref (a 0)), (0, .ref b)]) hx hb dL_law_2660 hl (k := 0) rfl rfl (by decide) rfl (fun ls hl => ?_)
  refine lv_goto (tgt := 18) hx hb dL_law_2663 (by decide) ?_
  have hJ2 : JI (XSf u_3) (MSf u_6) := (by rw [hp_2, hp_5]; exact hJ)
  exact KK _ _ _ _ _ _ _ (i6F hi hn) hXI hMI hJ2 hP hD hS hl
set_option maxHeartbeats 8000000 in
set_option maxRecDepth 100000 in
theorem lw_case_61 {p : Program} {l : Launch} {e : Env} {s : State} {m : MethodId} {below : List Frame} {meth : Method} {c : Code} {b L : Nat} {xs : Nat → Int32} {dC : Nat → ClassId} {dI : Nat → Nat → Nat} {cB cI cJ cZ cL : ClassId} (C0 : lw_At p s m meth c b L xs) (hN : NW s) (hK : va_K (dC, dI) vwCl (tyL cB cI cJ cZ cL) s) {a g adK adV : Nat → Nat} (hV : SW adK adV (fun q : Nat => s.heap.size ≤ q) s s.heap) {n : Nat} {i : Int32} {u : XT} {v : MT} {T : va_W} (hn : n ≤ 511) (hi : Int32.toInt i = 6 * (n : Int)) (hiL : 6 * n + 6 ≤ L) (hXI : XI cB cI cJ cZ cL u T) (hMI : MI v) (hJ : JI (XSf u) (MSf v)) {H : Heap} {locs : List Loc} (hP : va_P (dC, dI) vwCl (WX a cB cI cJ cZ cL u ++ (WM g cB cI cJ cZ cL v ++ T)) H) (hD : va_D (fun q : Nat => s.heap.size ≤ q) (WX a cB cI cJ cZ cL u ++ (WM g cB cI cJ cZ cL v ++ T))) (hS : va_S (fun q : Nat => s.heap.size ≤ q) s.heap H locs) {ls : Array Slot} (hl : lv_has ls 4 [(3, .int i), (2, .ref (g 0)), (1, .ref (a 0)), (0, .ref b)]) (KK : ∀ (i : Int32) (u : XT) (v : MT) (T : va_W) (H : Heap) (locs : List Loc) (ls : Array Slot), Int32.toInt i = 6 * ((n + 1 : Nat) : Int) → XI cB cI cJ cZ cL u T → MI v → JI (XSf u) (MSf v) → va_P (dC, dI) vwCl (WX a cB cI cJ cZ cL u ++ (WM g cB cI cJ cZ cL v ++ T)) H → va_D (fun q : Nat => s.heap.size ≤ q) (WX a cB cI cJ cZ cL u ++ (WM g cB cI cJ cZ cL v ++ T)) → va_S (fun q : Nat => s.heap.size ≤ q) s.heap H locs → lv_has ls 4 [(3, .int i), (2, .ref (g 0)), (1, .ref (a 0)), (0, .ref b)] → W p l e room_1 s m #[Value.ref b] below meth c H locs (200 + 9 * (n + 1)) (10000 + 132 * (n + 1)) (lw_Z below #[Value.ref b] s) (F0 m 18 ls [])) : W p l e room_1 s m #[Value.ref b] below meth c H locs (200 + 9 * n) (10000 + 132 * n) (lw_Z below #[Value.ref b] s) (F0 m 1855 ls []) := by
  obtain ⟨hx, hb, hr, hml, hown, hts, hX, hbl, hlocks, hgv⟩ := id C0
  have ht : ∀ w ∈ lw_ok, w.before #[Value.ref b] s = true := fun w h => hts w (List.mem_filter.mp h).1
  have hbA : ¬ (fun q : Nat => s.heap.size ≤ q) b := Nat.not_le.mpr hbl
  have hc0 : 200 + 9 * n + 0 ≤ room_1.cells ∧ 10000 + 132 * n + 0 ≤ room_1.slots := ⟨by show 200 + 9 * n + 0 ≤ 600000; omega, by show 10000 + 132 * n + 0 ≤ 7302249; omega⟩
  have v1 : vp_in (i + 1) L := ijF hi hn hiL (by decide) (by decide)
  have v2 : vp_in (i + 2) L := ijF hi hn hiL (by decide) (by decide)
  refine lv_aload_n hx hb dL_law_1855 rfl (lv_at hl 2 rfl) ?_
  refine lv_aload_n hx hb dL_law_1856 rfl (lv_at hl 3 rfl) ?_
  refine lv_iload_n hx hb dL_law_1857 rfl (lv_at hl 0 rfl) ?_
  refine lv_iconst (v := 1) hx hb dL_law_1858 (by decide) ?_
  refine lv_iadd hx hb dL_law_1859 ?_
  refine va_sld hx hb hX hbl hbA hS v1 dL_law_1860 ?_
  refine lv_aload_n hx hb dL_law_1861 rfl (lv_at hl 3 rfl) ?_
  refine lv_iload_n hx hb dL_law_1862 rfl (lv_at hl 0 rfl) ?_
  refine lv_iconst (v := 2) hx hb dL_law_1863 (by decide) ?_
  refine lv_iadd hx hb dL_law_1864 ?_
  refine va_sld hx hb hX hbl hbA hS v2 dL_law_1865 ?_
  refine lx_leaves C0 hN hK hXI hl.1 (Nat.le_of_ble_eq_true rfl) hc0 dL_law_1866 hP hD hS (fun r_1 u_3 H locs hXI hp_2 hP hD hS => ?_)
  refine lv_pop hx hb dL_law_1869 rfl ?_
  refine lv_aload_n hx hb dL_law_1870 rfl (lv_at hl 1 rfl) ?_
  refine lv_aload_n hx hb dL_law_1871 rfl (lv_at hl 3 rfl) ?_
  refine lv_iload_n hx hb dL_law_1872 rfl (lv_at hl 0 rfl) ?_
  refine lv_iconst (v := 1) hx hb dL_law_1873 (by decide) ?_
  refine lv_iadd hx hb dL_law_1874 ?_
  refine va_sld hx hb hX hbl hbA hS v1 dL_law_1875 ?_
  refine lv_aload_n hx hb dL_law_1876 rfl (lv_at hl 3 rfl) ?_
  refine lv_iload_n hx hb dL_law_1877 rfl (lv_at hl 0 rfl) ?_
  refine lv_iconst (v := 2) hx hb dL_law_1878 (by decide) ?_
  refine lv_iadd hx hb dL_law_1879 ?_
  refine va_sld hx hb hX hbl hbA hS v2 dL_law_1880 ?_
  refine lm_leaves C0 hN hK hMI hl.1 (Nat.le_of_ble_eq_true rfl) hc0 dL_law_1881 hP hD hS (fun r_4 u_6 H locs hMI hp_5 hP hD hS => ?_)
  refine lv_pop hx hb dL_law_1884 rfl ?_
  refine lv_goto (tgt := 2660) hx hb dL_law_1885 (by decide) ?_
  refine W.widen (k := 200 + 9 * (n + 1)) (n := 10000 + 132 * (n + 1)) (by omega) (by omega) ?_
  refine lv_iinc (v := i + 6) (lv' := [(3, .int (i + 6)), (2, .ref (g 0)), (1, .ref (a 0)), (0, .ref b)]) hx hb dL_law_2660 hl (k := 0) rfl rfl (by decide) rfl (fun ls hl => ?_)
  refine lv_goto (tgt := 18) hx hb dL_law_2663 (by decide) ?_
  have hJ2 : JI (XSf u_3) (MSf u_6) := (by rw [hp_2, hp_5]; exact hJ)
  exact KK _ _ _ _ _ _ _ (i6F hi hn) hXI hMI hJ2 hP hD hS hl
set_option maxHeartbeats 8000000 in
set_option maxRecDepth 100000 in
theorem lw_case_62 {p : Program} {l : Launch} {e : Env} {s : State} {m : MethodId} {below : List Frame} {meth : Method} {c : Code} {b L : Nat} {xs : Nat → Int32} {dC : Nat → ClassId} {dI : Nat → Nat → Nat} {cB cI cJ cZ cL : ClassId} (C0 : lw_At p s m meth c b L xs) (hN : NW s) (hK : va_K (dC, dI) vwCl (tyL cB cI cJ cZ cL) s) {a g adK adV : Nat → Nat} (hV : SW adK adV (fun q : Nat => s.heap.size ≤ q) s s.heap) {n : Nat} {i : Int32} {u : XT} {v : MT} {T : va_W} (hn : n ≤ 511) (hi : Int32.toInt i = 6 * (n : Int)) (hiL : 6 * n + 6 ≤ L) (hXI : XI cB cI cJ cZ cL u T) (hMI : MI v) (hJ : JI (XSf u) (MSf v)) {H : Heap} {locs : List Loc} (hP : va_P (dC, dI) vwCl (WX a cB cI cJ cZ cL u ++ (WM g cB cI cJ cZ cL v ++ T)) H) (hD : va_D (fun q : Nat => s.heap.size ≤ q) (WX a cB cI cJ cZ cL u ++ (WM g cB cI cJ cZ cL v ++ T))) (hS : va_S (fun q : Nat => s.heap.size ≤ q) s.heap H locs) {ls : Array Slot} (hl : lv_has ls 4 [(3, .int i), (2, .ref (g 0)), (1, .ref (a 0)), (0, .ref b)]) (KK : ∀ (i : Int32) (u : XT) (v : MT) (T : va_W) (H : Heap) (locs : List Loc) (ls : Array Slot), Int32.toInt i = 6 * ((n + 1 : Nat) : Int) → XI cB cI cJ cZ cL u T → MI v → JI (XSf u) (MSf v) → va_P (dC, dI) vwCl (WX a cB cI cJ cZ cL u ++ (WM g cB cI cJ cZ cL v ++ T)) H → va_D (fun q : Nat => s.heap.size ≤ q) (WX a cB cI cJ cZ cL u ++ (WM g cB cI cJ cZ cL v ++ T)) → va_S (fun q : Nat => s.heap.size ≤ q) s.heap H locs → lv_has ls 4 [(3, .int i), (2, .ref (g 0)), (1, .ref (a 0)), (0, .ref b)] → W p l e room_1 s m #[Value.ref b] below meth c H locs (200 + 9 * (n + 1)) (10000 + 132 * (n + 1)) (lw_Z below #[Value.ref b] s) (F0 m 18 ls [])) : W p l e room_1 s m #[Value.ref b] below meth c H locs (200 + 9 * n) (10000 + 132 * n) (lw_Z below #[Value.ref b] s) (F0 m 1888 ls []) := by
  obtain ⟨hx, hb, hr, hml, hown, hts, hX, hbl, hlocks, hgv⟩ := id C0
  have ht : ∀ w ∈ lw_ok, w.before #[Value.ref b] s = true := fun w h => hts w (List.mem_filter.mp h).1
  have hbA : ¬ (fun q : Nat => s.heap.size ≤ q) b := Nat.not_le.mpr hbl
  have hc0 : 200 + 9 * n + 0 ≤ room_1.cells ∧ 10000 + 132 * n + 0 ≤ room_1.slots := ⟨by show 200 + 9 * n + 0 ≤ 600000; omega, by show 10000 + 132 * n + 0 ≤ 7302249; omega⟩
  have v1 : vp_in (i + 1) L := ijF hi hn hiL (by decide) (by decide)
  refine lv_aload_n hx hb dL_law_1888 rfl (lv_at hl 2 rfl) ?_
  refine lv_aload_n hx hb dL_law_1889 rfl (lv_at hl 3 rfl) ?_
  refine lv_iload_n hx hb dL_law_1890 rfl (lv_at hl 0 rfl) ?_
  refine lv_iconst (v := 1) hx hb dL_law_1891 (by decide) ?_
  refine lv_iadd hx hb dL_law_1892 ?_
  refine va_sld hx hb hX hbl hbA hS v1 dL_law_1893 ?_
  refine lx_spots C0 hN hK hXI hl.1 (Nat.le_of_ble_eq_true rfl) hc0 dL_law_1894 hP hD hS (fun r_1 u_3 H locs hXI hp_2 hP hD hS => ?_)
  refine lv_pop hx hb dL_law_1897 rfl ?_
  refine lv_aload_n hx hb dL_law_1898 rfl (lv_at hl 1 rfl) ?_
  refine lv_aload_n hx hb dL_law_1899 rfl (lv_at hl 3 rfl) ?_
  refine lv_iload_n hx hb dL_law_1900 rfl (lv_at hl 0 rfl) ?_
  refine lv_iconst (v := 1) hx hb dL_law_1901 (by decide) ?_
  refine lv_iadd hx hb dL_law_1902 ?_
  refine va_sld hx hb hX hbl hbA hS v1 dL_law_1903 ?_
  refine lm_spots C0 hN hK hMI hl.1 (Nat.le_of_ble_eq_true rfl) hc0 dL_law_1904 hP hD hS (fun r_4 u_6 H locs hMI hp_5 hP hD hS => ?_)
  refine lv_pop hx hb dL_law_1907 rfl ?_
  refine lv_goto (tgt := 2660) hx hb dL_law_1908 (by decide) ?_
  refine W.widen (k := 200 + 9 * (n + 1)) (n := 10000 + 132 * (n + 1)) (by omega) (by omega) ?_
  refine lv_iinc (v := i + 6) (lv' := [(3, .int (i + 6)), (2, .ref (g 0)), (1, .ref (a 0)), (0, .ref b)]) hx hb dL_law_2660 hl (k := 0) rfl rfl (by decide) rfl (fun ls hl => ?_)
  refine lv_goto (tgt := 18) hx hb dL_law_2663 (by decide) ?_
  have hJ2 : JI (XSf u_3) (MSf u_6) := (by rw [hp_2, hp_5]; exact hJ)
  exact KK _ _ _ _ _ _ _ (i6F hi hn) hXI hMI hJ2 hP hD hS hl
set_option maxHeartbeats 8000000 in
set_option maxRecDepth 100000 in
theorem lw_case_63 {p : Program} {l : Launch} {e : Env} {s : State} {m : MethodId} {below : List Frame} {meth : Method} {c : Code} {b L : Nat} {xs : Nat → Int32} {dC : Nat → ClassId} {dI : Nat → Nat → Nat} {cB cI cJ cZ cL : ClassId} (C0 : lw_At p s m meth c b L xs) (hN : NW s) (hK : va_K (dC, dI) vwCl (tyL cB cI cJ cZ cL) s) {a g adK adV : Nat → Nat} (hV : SW adK adV (fun q : Nat => s.heap.size ≤ q) s s.heap) {n : Nat} {i : Int32} {u : XT} {v : MT} {T : va_W} (hn : n ≤ 511) (hi : Int32.toInt i = 6 * (n : Int)) (hiL : 6 * n + 6 ≤ L) (hXI : XI cB cI cJ cZ cL u T) (hMI : MI v) (hJ : JI (XSf u) (MSf v)) {H : Heap} {locs : List Loc} (hP : va_P (dC, dI) vwCl (WX a cB cI cJ cZ cL u ++ (WM g cB cI cJ cZ cL v ++ T)) H) (hD : va_D (fun q : Nat => s.heap.size ≤ q) (WX a cB cI cJ cZ cL u ++ (WM g cB cI cJ cZ cL v ++ T))) (hS : va_S (fun q : Nat => s.heap.size ≤ q) s.heap H locs) {ls : Array Slot} (hl : lv_has ls 4 [(3, .int i), (2, .ref (g 0)), (1, .ref (a 0)), (0, .ref b)]) (KK : ∀ (i : Int32) (u : XT) (v : MT) (T : va_W) (H : Heap) (locs : List Loc) (ls : Array Slot), Int32.toInt i = 6 * ((n + 1 : Nat) : Int) → XI cB cI cJ cZ cL u T → MI v → JI (XSf u) (MSf v) → va_P (dC, dI) vwCl (WX a cB cI cJ cZ cL u ++ (WM g cB cI cJ cZ cL v ++ T)) H → va_D (fun q : Nat => s.heap.size ≤ q) (WX a cB cI cJ cZ cL u ++ (WM g cB cI cJ cZ cL v ++ T)) → va_S (fun q : Nat => s.heap.size ≤ q) s.heap H locs → lv_has ls 4 [(3, .int i), (2, .ref (g 0)), (1, .ref (a 0)), (0, .ref b)] → W p l e room_1 s m #[Value.ref b] below meth c H locs (200 + 9 * (n + 1)) (10000 + 132 * (n + 1)) (lw_Z below #[Value.ref b] s) (F0 m 18 ls [])) : W p l e room_1 s m #[Value.ref b] below meth c H locs (200 + 9 * n) (10000 + 132 * n) (lw_Z below #[Value.ref b] s) (F0 m 1911 ls []) := by
  obtain ⟨hx, hb, hr, hml, hown, hts, hX, hbl, hlocks, hgv⟩ := id C0
  have ht : ∀ w ∈ lw_ok, w.before #[Value.ref b] s = true := fun w h => hts w (List.mem_filter.mp h).1
  have hbA : ¬ (fun q : Nat => s.heap.size ≤ q) b := Nat.not_le.mpr hbl
  have hc0 : 200 + 9 * n + 0 ≤ room_1.cells ∧ 10000 + 132 * n + 0 ≤ room_1.slots := ⟨by show 200 + 9 * n + 0 ≤ 600000; omega, by show 10000 + 132 * n + 0 ≤ 7302249; omega⟩
  have v1 : vp_in (i + 1) L := ijF hi hn hiL (by decide) (by decide)
  refine lv_aload_n hx hb dL_law_1911 rfl (lv_at hl 2 rfl) ?_
  refine lv_aload_n hx hb dL_law_1912 rfl (lv_at hl 3 rfl) ?_
  refine lv_iload_n hx hb dL_law_1913 rfl (lv_at hl 0 rfl) ?_
  refine lv_iconst (v := 1) hx hb dL_law_1914 (by decide) ?_
  refine lv_iadd hx hb dL_law_1915 ?_
  refine va_sld hx hb hX hbl hbA hS v1 dL_law_1916 ?_
  refine lx_breaks C0 hN hK hXI hl.1 (Nat.le_of_ble_eq_true rfl) hc0 dL_law_1917 hP hD hS (fun r_1 u_3 H locs hXI hp_2 hP hD hS => ?_)
  refine lv_pop hx hb dL_law_1920 rfl ?_
  refine lv_aload_n hx hb dL_law_1921 rfl (lv_at hl 1 rfl) ?_
  refine lv_aload_n hx hb dL_law_1922 rfl (lv_at hl 3 rfl) ?_
  refine lv_iload_n hx hb dL_law_1923 rfl (lv_at hl 0 rfl) ?_
  refine lv_iconst (v := 1) hx hb dL_law_1924 (by decide) ?_
  refine lv_iadd hx hb dL_law_1925 ?_
  refine va_sld hx hb hX hbl hbA hS v1 dL_law_1926 ?_
  refine lm_breaks C0 hN hK hMI hl.1 (Nat.le_of_ble_eq_true rfl) hc0 dL_law_1927 hP hD hS (fun r_4 u_6 H locs hMI hp_5 hP hD hS => ?_)
  refine lv_pop hx hb dL_law_1930 rfl ?_
  refine lv_goto (tgt := 2660) hx hb dL_law_1931 (by decide) ?_
  refine W.widen (k := 200 + 9 * (n + 1)) (n := 10000 + 132 * (n + 1)) (by omega) (by omega) ?_
  refine lv_iinc (v := i + 6) (lv' := [(3, .int (i + 6)), (2, .ref (g 0)), (1, .ref (a 0)), (0, .ref b)]) hx hb dL_law_2660 hl (k := 0) rfl rfl (by decide) rfl (fun ls hl => ?_)
  refine lv_goto (tgt := 18) hx hb dL_law_2663 (by decide) ?_
  have hJ2 : JI (XSf u_3) (MSf u_6) := (by rw [hp_2, hp_5]; exact hJ)
  exact KK _ _ _ _ _ _ _ (i6F hi hn) hXI hMI hJ2 hP hD hS hl
set_option maxHeartbeats 8000000 in
set_option maxRecDepth 100000 in
theorem lw_case_64 {p : Program} {l : Launch} {e : Env} {s : State} {m : MethodId} {below : List Frame} {meth : Method} {c : Code} {b L : Nat} {xs : Nat → Int32} {dC : Nat → ClassId} {dI : Nat → Nat → Nat} {cB cI cJ cZ cL : ClassId} (C0 : lw_At p s m meth c b L xs) (hN : NW s) (hK : va_K (dC, dI) vwCl (tyL cB cI cJ cZ cL) s) {a g adK adV : Nat → Nat} (hV : SW adK adV (fun q : Nat => s.heap.size ≤ q) s s.heap) {n : Nat} {i : Int32} {u : XT} {v : MT} {T : va_W} (hn : n ≤ 511) (hi : Int32.toInt i = 6 * (n : Int)) (hiL : 6 * n + 6 ≤ L) (hXI : XI cB cI cJ cZ cL u T) (hMI : MI v) (hJ : JI (XSf u) (MSf v)) {H : Heap} {locs : List Loc} (hP : va_P (dC, dI) vwCl (WX a cB cI cJ cZ cL u ++ (WM g cB cI cJ cZ cL v ++ T)) H) (hD : va_D (fun q : Nat => s.heap.size ≤ q) (WX a cB cI cJ cZ cL u ++ (WM g cB cI cJ cZ cL v ++ T))) (hS : va_S (fun q : Nat => s.heap.size ≤ q) s.heap H locs) {ls : Array Slot} (hl : lv_has ls 4 [(3, .int i), (2, .ref (g 0)), (1, .ref (a 0)), (0, .ref b)]) (KK : ∀ (i : Int32) (u : XT) (v : MT) (T : va_W) (H : Heap) (locs : List Loc) (ls : Array Slot), Int32.toInt i = 6 * ((n + 1 : Nat) : Int) → XI cB cI cJ cZ cL u T → MI v → JI (XSf u) (MSf v) → va_P (dC, dI) vwCl (WX a cB cI cJ cZ cL u ++ (WM g cB cI cJ cZ cL v ++ T)) H → va_D (fun q : Nat => s.heap.size ≤ q) (WX a cB cI cJ cZ cL u ++ (WM g cB cI cJ cZ cL v ++ T)) → va_S (fun q : Nat => s.heap.size ≤ q) s.heap H locs → lv_has ls 4 [(3, .int i), (2, .ref (g 0)), (1, .ref (a 0)), (0, .ref b)] → W p l e room_1 s m #[Value.ref b] below meth c H locs (200 + 9 * (n + 1)) (10000 + 132 * (n + 1)) (lw_Z below #[Value.ref b] s) (F0 m 18 ls [])) : W p l e room_1 s m #[Value.ref b] below meth c H locs (200 + 9 * n) (10000 + 132 * n) (lw_Z below #[Value.ref b] s) (F0 m 1934 ls []) := by
  obtain ⟨hx, hb, hr, hml, hown, hts, hX, hbl, hlocks, hgv⟩ := id C0
  have ht : ∀ w ∈ lw_ok, w.before #[Value.ref b] s = true := fun w h => hts w (List.mem_filter.mp h).1
  have hbA : ¬ (fun q : Nat => s.heap.size ≤ q) b := Nat.not_le.mpr hbl
  have hc0 : 200 + 9 * n + 0 ≤ room_1.cells ∧ 10000 + 132 * n + 0 ≤ room_1.slots := ⟨by show 200 + 9 * n + 0 ≤ 600000; omega, by show 10000 + 132 * n + 0 ≤ 7302249; omega⟩
  have v1 : vp_in (i + 1) L := ijF hi hn hiL (by decide) (by decide)
  refine lv_aload_n hx hb dL_law_1934 rfl (lv_at hl 2 rfl) ?_
  refine lv_aload_n hx hb dL_law_1935 rfl (lv_at hl 3 rfl) ?_
  refine lv_iload_n hx hb dL_law_1936 rfl (lv_at hl 0 rfl) ?_
  refine lv_iconst (v := 1) hx hb dL_law_1937 (by decide) ?_
  refine lv_iadd hx hb dL_law_1938 ?_
  refine va_sld hx hb hX hbl hbA hS v1 dL_law_1939 ?_
  refine lx_laws C0 hN hK hXI hl.1 (Nat.le_of_ble_eq_true rfl) hc0 dL_law_1940 hP hD hS (fun r_1 u_3 H locs hXI hp_2 hP hD hS => ?_)
  refine lv_pop hx hb dL_law_1943 rfl ?_
  refine lv_aload_n hx hb dL_law_1944 rfl (lv_at hl 1 rfl) ?_
  refine lv_aload_n hx hb dL_law_1945 rfl (lv_at hl 3 rfl) ?_
  refine lv_iload_n hx hb dL_law_1946 rfl (lv_at hl 0 rfl) ?_
  refine lv_iconst (v := 1) hx hb dL_law_1947 (by decide) ?_
  refine lv_iadd hx hb dL_law_1948 ?_
  refine va_sld hx hb hX hbl hbA hS v1 dL_law_1949 ?_
  refine lm_laws C0 hN hK hMI hl.1 (Nat.le_of_ble_eq_true rfl) hc0 dL_law_1950 hP hD hS (fun r_4 u_6 H locs hMI hp_5 hP hD hS => ?_)
  refine lv_pop hx hb dL_law_1953 rfl ?_
  refine lv_goto (tgt := 2660) hx hb dL_law_1954 (by decide) ?_
  refine W.widen (k := 200 + 9 * (n + 1)) (n := 10000 + 132 * (n + 1)) (by omega) (by omega) ?_
  refine lv_iinc (v := i + 6) (lv' := [(3, .int (i + 6)), (2, .ref (g 0)), (1, .ref (a 0)), (0, .ref b)]) hx hb dL_law_2660 hl (k := 0) rfl rfl (by decide) rfl (fun ls hl => ?_)
  refine lv_goto (tgt := 18) hx hb dL_law_2663 (by decide) ?_
  have hJ2 : JI (XSf u_3) (MSf u_6) := (by rw [hp_2, hp_5]; exact hJ)
  exact KK _ _ _ _ _ _ _ (i6F hi hn) hXI hMI hJ2 hP hD hS hl
set_option maxHeartbeats 8000000 in
set_option maxRecDepth 100000 in
theorem lw_case_65 {p : Program} {l : Launch} {e : Env} {s : State} {m : MethodId} {below : List Frame} {meth : Method} {c : Code} {b L : Nat} {xs : Nat → Int32} {dC : Nat → ClassId} {dI : Nat → Nat → Nat} {cB cI cJ cZ cL : ClassId} (C0 : lw_At p s m meth c b L xs) (hN : NW s) (hK : va_K (dC, dI) vwCl (tyL cB cI cJ cZ cL) s) {a g adK adV : Nat → Nat} (hV : SW adK adV (fun q : Nat => s.heap.size ≤ q) s s.heap) {n : Nat} {i : Int32} {u : XT} {v : MT} {T : va_W} (hn : n ≤ 511) (hi : Int32.toInt i = 6 * (n : Int)) (hiL : 6 * n + 6 ≤ L) (hXI : XI cB cI cJ cZ cL u T) (hMI : MI v) (hJ : JI (XSf u) (MSf v)) {H : Heap} {locs : List Loc} (hP : va_P (dC, dI) vwCl (WX a cB cI cJ cZ cL u ++ (WM g cB cI cJ cZ cL v ++ T)) H) (hD : va_D (fun q : Nat => s.heap.size ≤ q) (WX a cB cI cJ cZ cL u ++ (WM g cB cI cJ cZ cL v ++ T))) (hS : va_S (fun q : Nat => s.heap.size ≤ q) s.heap H locs) {ls : Array Slot} (hl : lv_has ls 4 [(3, .int i), (2, .ref (g 0)), (1, .ref (a 0)), (0, .ref b)]) (KK : ∀ (i : Int32) (u : XT) (v : MT) (T : va_W) (H : Heap) (locs : List Loc) (ls : Array Slot), Int32.toInt i = 6 * ((n + 1 : Nat) : Int) → XI cB cI cJ cZ cL u T → MI v → JI (XSf u) (MSf v) → va_P (dC, dI) vwCl (WX a cB cI cJ cZ cL u ++ (WM g cB cI cJ cZ cL v ++ T)) H → va_D (fun q : Nat => s.heap.size ≤ q) (WX a cB cI cJ cZ cL u ++ (WM g cB cI cJ cZ cL v ++ T)) → va_S (fun q : Nat => s.heap.size ≤ q) s.heap H locs → lv_has ls 4 [(3, .int i), (2, .ref (g 0)), (1, .ref (a 0)), (0, .ref b)] → W p l e room_1 s m #[Value.ref b] below meth c H locs (200 + 9 * (n + 1)) (10000 + 132 * (n + 1)) (lw_Z below #[Value.ref b] s) (F0 m 18 ls [])) : W p l e room_1 s m #[Value.ref b] below meth c H locs (200 + 9 * n) (10000 + 132 * n) (lw_Z below #[Value.ref b] s) (F0 m 1957 ls []) := by
  obtain ⟨hx, hb, hr, hml, hown, hts, hX, hbl, hlocks, hgv⟩ := id C0
  have ht : ∀ w ∈ lw_ok, w.before #[Value.ref b] s = true := fun w h => hts w (List.mem_filter.mp h).1
  have hbA : ¬ (fun q : Nat => s.heap.size ≤ q) b := Nat.not_le.mpr hbl
  have hc0 : 200 + 9 * n + 0 ≤ room_1.cells ∧ 10000 + 132 * n + 0 ≤ room_1.slots := ⟨by show 200 + 9 * n + 0 ≤ 600000; omega, by show 10000 + 132 * n + 0 ≤ 7302249; omega⟩
  have v1 : vp_in (i + 1) L := ijF hi hn hiL (by decide) (by decide)
  refine lv_aload_n hx hb dL_law_1957 rfl (lv_at hl 2 rfl) ?_
  refine lv_aload_n hx hb dL_law_1958 rfl (lv_at hl 3 rfl) ?_
  refine lv_iload_n hx hb dL_law_1959 rfl (lv_at hl 0 rfl) ?_
  refine lv_iconst (v := 1) hx hb dL_law_1960 (by decide) ?_
  refine lv_iadd hx hb dL_law_1961 ?_
  refine va_sld hx hb hX hbl hbA hS v1 dL_law_1962 ?_
  refine lx_by C0 hN hK hXI hl.1 (Nat.le_of_ble_eq_true rfl) hc0 dL_law_1963 hP hD hS (fun r_1 u_3 H locs hXI hp_2 hP hD hS => ?_)
  refine lv_pop hx hb dL_law_1966 rfl ?_
  refine lv_aload_n hx hb dL_law_1967 rfl (lv_at hl 1 rfl) ?_
  refine lv_aload_n hx hb dL_law_1968 rfl (lv_at hl 3 rfl) ?_
  refine lv_iload_n hx hb dL_law_1969 rfl (lv_at hl 0 rfl) ?_
  refine lv_iconst (v := 1) hx hb dL_law_1970 (by decide) ?_
  refine lv_iadd hx hb dL_law_1971 ?_
  refine va_sld hx hb hX hbl hbA hS v1 dL_law_1972 ?_
  refine lm_by C0 hN hK hMI hl.1 (Nat.le_of_ble_eq_true rfl) hc0 dL_law_1973 hP hD hS (fun r_4 u_6 H locs hMI hp_5 hP hD hS => ?_)
  refine lv_pop hx hb dL_law_1976 rfl ?_
  refine lv_goto (tgt := 2660) hx hb dL_law_1977 (by decide) ?_
  refine W.widen (k := 200 + 9 * (n + 1)) (n := 10000 + 132 * (n + 1)) (by omega) (by omega) ?_
  refine lv_iinc (v := i + 6) (lv' := [(3, .int (i + 6)), (2, .ref (g 0)), (1, .ref (a 0)), (0, .ref b)]) hx hb dL_law_2660 hl (k := 0) rfl rfl (by decide) rfl (fun ls hl => ?_)
  refine lv_goto (tgt := 18) hx hb dL_law_2663 (by decide) ?_
  have hJ2 : JI (XSf u_3) (MSf u_6) := (by rw [hp_2, hp_5]; exact hJ)
  exact KK _ _ _ _ _ _ _ (i6F hi hn) hXI hMI hJ2 hP hD hS hl
set_option maxHeartbeats 8000000 in
set_option maxRecDepth 100000 in
theorem lw_case_66 {p : Program} {l : Launch} {e : Env} {s : State} {m : MethodId} {below : List Frame} {meth : Method} {c : Code} {b L : Nat} {xs : Nat → Int32} {dC : Nat → ClassId} {dI : Nat → Nat → Nat} {cB cI cJ cZ cL : ClassId} (C0 : lw_At p s m meth c b L xs) (hN : NW s) (hK : va_K (dC, dI) vwCl (tyL cB cI cJ cZ cL) s) {a g adK adV : Nat → Nat} (hV : SW adK adV (fun q : Nat => s.heap.size ≤ q) s s.heap) {n : Nat} {i : Int32} {u : XT} {v : MT} {T : va_W} (hn : n ≤ 511) (hi : Int32.toInt i = 6 * (n : Int)) (hiL : 6 * n + 6 ≤ L) (hXI : XI cB cI cJ cZ cL u T) (hMI : MI v) (hJ : JI (XSf u) (MSf v)) {H : Heap} {locs : List Loc} (hP : va_P (dC, dI) vwCl (WX a cB cI cJ cZ cL u ++ (WM g cB cI cJ cZ cL v ++ T)) H) (hD : va_D (fun q : Nat => s.heap.size ≤ q) (WX a cB cI cJ cZ cL u ++ (WM g cB cI cJ cZ cL v ++ T))) (hS : va_S (fun q : Nat => s.heap.size ≤ q) s.heap H locs) {ls : Array Slot} (hl : lv_has ls 4 [(3, .int i), (2, .ref (g 0)), (1, .ref (a 0)), (0, .ref b)]) (KK : ∀ (i : Int32) (u : XT) (v : MT) (T : va_W) (H : Heap) (locs : List Loc) (ls : Array Slot), Int32.toInt i = 6 * ((n + 1 : Nat) : Int) → XI cB cI cJ cZ cL u T → MI v → JI (XSf u) (MSf v) → va_P (dC, dI) vwCl (WX a cB cI cJ cZ cL u ++ (WM g cB cI cJ cZ cL v ++ T)) H → va_D (fun q : Nat => s.heap.size ≤ q) (WX a cB cI cJ cZ cL u ++ (WM g cB cI cJ cZ cL v ++ T)) → va_S (fun q : Nat => s.heap.size ≤ q) s.heap H locs → lv_has ls 4 [(3, .int i), (2, .ref (g 0)), (1, .ref (a 0)), (0, .ref b)] → W p l e room_1 s m #[Value.ref b] below meth c H locs (200 + 9 * (n + 1)) (10000 + 132 * (n + 1)) (lw_Z below #[Value.ref b] s) (F0 m 18 ls [])) : W p l e room_1 s m #[Value.ref b] below meth c H locs (200 + 9 * n) (10000 + 132 * n) (lw_Z below #[Value.ref b] s) (F0 m 1980 ls []) := by
  obtain ⟨hx, hb, hr, hml, hown, hts, hX, hbl, hlocks, hgv⟩ := id C0
  have ht : ∀ w ∈ lw_ok, w.before #[Value.ref b] s = true := fun w h => hts w (List.mem_filter.mp h).1
  have hbA : ¬ (fun q : Nat => s.heap.size ≤ q) b := Nat.not_le.mpr hbl
  have hc0 : 200 + 9 * n + 0 ≤ room_1.cells ∧ 10000 + 132 * n + 0 ≤ room_1.slots := ⟨by show 200 + 9 * n + 0 ≤ 600000; omega, by show 10000 + 132 * n + 0 ≤ 7302249; omega⟩
  refine lv_aload_n hx hb dL_law_1980 rfl (lv_at hl 2 rfl) ?_
  refine lx_law C0 hN hK hXI hl.1 (Nat.le_of_ble_eq_true rfl) hc0 dL_law_1981 hP hD hS (fun r_1 u_3 H locs hXI hp_2 hP hD hS => ?_)
  refine lv_pop hx hb dL_law_1984 rfl ?_
  refine lv_aload_n hx hb dL_law_1985 rfl (lv_at hl 1 rfl) ?_
  refine lm_law C0 hN hK hMI hl.1 (Nat.le_of_ble_eq_true rfl) hc0 dL_law_1986 hP hD hS (fun r_4 u_6 H locs hMI hp_5 hP hD hS => ?_)
  refine lv_pop hx hb dL_law_1989 rfl ?_
  refine lv_goto (tgt := 2660) hx hb dL_law_1990 (by decide) ?_
  refine W.widen (k := 200 + 9 * (n + 1)) (n := 10000 + 132 * (n + 1)) (by omega) (by omega) ?_
  refine lv_iinc (v := i + 6) (lv' := [(3, .int (i + 6)), (2, .ref (g 0)), (1, .ref (a 0)), (0, .ref b)]) hx hb dL_law_2660 hl (k := 0) rfl rfl (by decide) rfl (fun ls hl => ?_)
  refine lv_goto (tgt := 18) hx hb dL_law_2663 (by decide) ?_
  have hJ2 : JI (XSf u_3) (MSf u_6) := (by rw [hp_2, hp_5]; exact hJ)
  exact KK _ _ _ _ _ _ _ (i6F hi hn) hXI hMI hJ2 hP hD hS hl
set_option maxHeartbeats 8000000 in
set_option maxRecDepth 100000 in
theorem lw_case_67 {p : Program} {l : Launch} {e : Env} {s : State} {m : MethodId} {below : List Frame} {meth : Method} {c : Code} {b L : Nat} {xs : Nat → Int32} {dC : Nat → ClassId} {dI : Nat → Nat → Nat} {cB cI cJ cZ cL : ClassId} (C0 : lw_At p s m meth c b L xs) (hN : NW s) (hK : va_K (dC, dI) vwCl (tyL cB cI cJ cZ cL) s) {a g adK adV : Nat → Nat} (hV : SW adK adV (fun q : Nat => s.heap.size ≤ q) s s.heap) {n : Nat} {i : Int32} {u : XT} {v : MT} {T : va_W} (hn : n ≤ 511) (hi : Int32.toInt i = 6 * (n : Int)) (hiL : 6 * n + 6 ≤ L) (hXI : XI cB cI cJ cZ cL u T) (hMI : MI v) (hJ : JI (XSf u) (MSf v)) {H : Heap} {locs : List Loc} (hP : va_P (dC, dI) vwCl (WX a cB cI cJ cZ cL u ++ (WM g cB cI cJ cZ cL v ++ T)) H) (hD : va_D (fun q : Nat => s.heap.size ≤ q) (WX a cB cI cJ cZ cL u ++ (WM g cB cI cJ cZ cL v ++ T))) (hS : va_S (fun q : Nat => s.heap.size ≤ q) s.heap H locs) {ls : Array Slot} (hl : lv_has ls 4 [(3, .int i), (2, .ref (g 0)), (1, .ref (a 0)), (0, .ref b)]) (KK : ∀ (i : Int32) (u : XT) (v : MT) (T : va_W) (H : Heap) (locs : List Loc) (ls : Array Slot), Int32.toInt i = 6 * ((n + 1 : Nat) : Int) → XI cB cI cJ cZ cL u T → MI v → JI (XSf u) (MSf v) → va_P (dC, dI) vwCl (WX a cB cI cJ cZ cL u ++ (WM g cB cI cJ cZ cL v ++ T)) H → va_D (fun q : Nat => s.heap.size ≤ q) (WX a cB cI cJ cZ cL u ++ (WM g cB cI cJ cZ cL v ++ T)) → va_S (fun q : Nat => s.heap.size ≤ q) s.heap H locs → lv_has ls 4 [(3, .int i), (2, .ref (g 0)), (1, .ref (a 0)), (0, .ref b)] → W p l e room_1 s m #[Value.ref b] below meth c H locs (200 + 9 * (n + 1)) (10000 + 132 * (n + 1)) (lw_Z below #[Value.ref b] s) (F0 m 18 ls [])) : W p l e room_1 s m #[Value.ref b] below meth c H locs (200 + 9 * n) (10000 + 132 * n) (lw_Z below #[Value.ref b] s) (F0 m 1993 ls []) := by
  obtain ⟨hx, hb, hr, hml, hown, hts, hX, hbl, hlocks, hgv⟩ := id C0
  have ht : ∀ w ∈ lw_ok, w.before #[Value.ref b] s = true := fun w h => hts w (List.mem_filter.mp h).1
  have hbA : ¬ (fun q : Nat => s.heap.size ≤ q) b := Nat.not_le.mpr hbl
  have hc0 : 200 + 9 * n + 0 ≤ room_1.cells ∧ 10000 + 132 * n + 0 ≤ room_1.slots := ⟨by show 200 + 9 * n + 0 ≤ 600000; omega, by show 10000 + 132 * n + 0 ≤ 7302249; omega⟩
  have v1 : vp_in (i + 1) L := ijF hi hn hiL (by decide) (by decide)
  refine lv_aload_n hx hb dL_law_1993 rfl (lv_at hl 2 rfl) ?_
  refine lv_aload_n hx hb dL_law_1994 rfl (lv_at hl 3 rfl) ?_
  refine lv_iload_n hx hb dL_law_1995 rfl (lv_at hl 0 rfl) ?_
  refine lv_iconst (v := 1) hx hb dL_law_1996 (by decide) ?_
  refine lv_iadd hx hb dL_law_1997 ?_
  refine va_sld hx hb hX hbl hbA hS v1 dL_law_1998 ?_
  refine lx_worth C0 hN hK hXI hl.1 (Nat.le_of_ble_eq_true rfl) hc0 dL_law_1999 hP hD hS (fun r_1 u_3 H locs hXI hp_2 hP hD hS => ?_)
  refine lv_pop hx hb dL_law_2002 rfl ?_
  refine lv_aload_n hx hb dL_law_2003 rfl (lv_at hl 1 rfl) ?_
  refine lv_aload_n hx hb dL_law_2004 rfl (lv_at hl 3 rfl) ?_
  refine lv_iload_n hx hb dL_law_2005 rfl (lv_at hl 0 rfl) ?_
  refine lv_iconst (v := 1) hx hb dL_law_2006 (by decide) ?_
  refine lv_iadd hx hb dL_law_2007 ?_
  refine va_sld hx hb hX hbl hbA hS v1 dL_law_2008 ?_
  refine lm_worth C0 hN hK hMI hl.1 (Nat.le_of_ble_eq_true rfl) hc0 dL_law_2009 hP hD hS (fun r_4 u_6 H locs hMI hp_5 hP hD hS => ?_)
  refine lv_pop hx hb dL_law_2012 rfl ?_
  refine lv_goto (tgt := 2660) hx hb dL_law_2013 (by decide) ?_
  refine W.widen (k := 200 + 9 * (n + 1)) (n := 10000 + 132 * (n + 1)) (by omega) (by omega) ?_
  refine lv_iinc (v := i + 6) (lv' := [(3, .int (i + 6)), (2, .ref (g 0)), (1, .ref (a 0)), (0, .ref b)]) hx hb dL_law_2660 hl (k := 0) rfl rfl (by decide) rfl (fun ls hl => ?_)
  refine lv_goto (tgt := 18) hx hb dL_law_2663 (by decide) ?_
  have hJ2 : JI (XSf u_3) (MSf u_6) := (by rw [hp_2, hp_5]; exact hJ)
  exact KK _ _ _ _ _ _ _ (i6F hi hn) hXI hMI hJ2 hP hD hS hl
set_option maxHeartbeats 8000000 in
set_option maxRecDepth 100000 in
theorem lw_case_68 {p : Program} {l : Launch} {e : Env} {s : State} {m : MethodId} {below : List Frame} {meth : Method} {c : Code} {b L : Nat} {xs : Nat → Int32} {dC : Nat → ClassId} {dI : Nat → Nat → Nat} {cB cI cJ cZ cL : ClassId} (C0 : lw_At p s m meth c b L xs) (hN : NW s) (hK : va_K (dC, dI) vwCl (tyL cB cI cJ cZ cL) s) {a g adK adV : Nat → Nat} (hV : SW adK adV (fun q : Nat => s.heap.size ≤ q) s s.heap) {n : Nat} {i : Int32} {u : XT} {v : MT} {T : va_W} (hn : n ≤ 511) (hi : Int32.toInt i = 6 * (n : Int)) (hiL : 6 * n + 6 ≤ L) (hXI : XI cB cI cJ cZ cL u T) (hMI : MI v) (hJ : JI (XSf u) (MSf v)) {H : Heap} {locs : List Loc} (hP : va_P (dC, dI) vwCl (WX a cB cI cJ cZ cL u ++ (WM g cB cI cJ cZ cL v ++ T)) H) (hD : va_D (fun q : Nat => s.heap.size ≤ q) (WX a cB cI cJ cZ cL u ++ (WM g cB cI cJ cZ cL v ++ T))) (hS : va_S (fun q : Nat => s.heap.size ≤ q) s.heap H locs) {ls : Array Slot} (hl : lv_has ls 4 [(3, .int i), (2, .ref (g 0)), (1, .ref (a 0)), (0, .ref b)]) (KK : ∀ (i : Int32) (u : XT) (v : MT) (T : va_W) (H : Heap) (locs : List Loc) (ls : Array Slot), Int32.toInt i = 6 * ((n + 1 : Nat) : Int) → XI cB cI cJ cZ cL u T → MI v → JI (XSf u) (MSf v) → va_P (dC, dI) vwCl (WX a cB cI cJ cZ cL u ++ (WM g cB cI cJ cZ cL v ++ T)) H → va_D (fun q : Nat => s.heap.size ≤ q) (WX a cB cI cJ cZ cL u ++ (WM g cB cI cJ cZ cL v ++ T)) → va_S (fun q : Nat => s.heap.size ≤ q) s.heap H locs → lv_has ls 4 [(3, .int i), (2, .ref (g 0)), (1, .ref (a 0)), (0, .ref b)] → W p l e room_1 s m #[Value.ref b] below meth c H locs (200 + 9 * (n + 1)) (10000 + 132 * (n + 1)) (lw_Z below #[Value.ref b] s) (F0 m 18 ls [])) : W p l e room_1 s m #[Value.ref b] below meth c H locs (200 + 9 * n) (10000 + 132 * n) (lw_Z below #[Value.ref b] s) (F0 m 2016 ls []) := by
  obtain ⟨hx, hb, hr, hml, hown, hts, hX, hbl, hlocks, hgv⟩ := id C0
  have ht : ∀ w ∈ lw_ok, w.before #[Value.ref b] s = true := fun w h => hts w (List.mem_filter.mp h).1
  have hbA : ¬ (fun q : Nat => s.heap.size ≤ q) b := Nat.not_le.mpr hbl
  have hc0 : 200 + 9 * n + 0 ≤ room_1.cells ∧ 10000 + 132 * n + 0 ≤ room_1.slots := ⟨by show 200 + 9 * n + 0 ≤ 600000; omega, by show 10000 + 132 * n + 0 ≤ 7302249; omega⟩
  have v1 : vp_in (i + 1) L := ijF hi hn hiL (by decide) (by decide)
  have v2 : vp_in (i + 2) L := ijF hi hn hiL (by decide) (by decide)
  refine lv_aload_n hx hb dL_law_2016 rfl (lv_at hl 2 rfl) ?_
  refine lv_aload_n hx hb dL_law_2017 rfl (lv_at hl 3 rfl) ?_
  refine lv_iload_n hx hb dL_law_2018 rfl (lv_at hl 0 rfl) ?_
  refine lv_iconst (v := 1) hx hb dL_law_2019 (by decide) ?_
  refine lv_iadd hx hb dL_law_2020 ?_
  refine va_sld hx hb hX hbl hbA hS v1 dL_law_2021 ?_
  refine lv_aload_n hx hb dL_law_2022 rfl (lv_at hl 3 rfl) ?_
  refine lv_iload_n hx hb dL_law_2023 rfl (lv_at hl 0 rfl) ?_
  refine lv_iconst (v := 2) hx hb dL_law_2024 (by decide) ?_
  refine lv_iadd hx hb dL_law_2025 ?_
  refine va_sld hx hb hX hbl hbA hS v2 dL_law_2026 ?_
  refine lx_share C0 hN hK hXI hl.1 (Nat.le_of_ble_eq_true rfl) hc0 dL_law_2027 hP hD hS (fun r_1 u_3 H locs hXI hp_2 hP hD hS => ?_)
  refine lv_pop hx hb dL_law_2030 rfl ?_
  refine lv_aload_n hx hb dL_law_2031 rfl (lv_at hl 1 rfl) ?_
  refine lv_aload_n hx hb dL_law_2032 rfl (lv_at hl 3 rfl) ?_
  refine lv_iload_n hx hb dL_law_2033 rfl (lv_at hl 0 rfl) ?_
  refine lv_iconst (v := 1) hx hb dL_law_2034 (by decide) ?_
  refine lv_iadd hx hb dL_law_2035 ?_
  refine va_sld hx hb hX hbl hbA hS v1 dL_law_2036 ?_
  refine lv_aload_n hx hb dL_law_2037 rfl (lv_at hl 3 rfl) ?_
  refine lv_iload_n hx hb dL_law_2038 rfl (lv_at hl 0 rfl) ?_
  refine lv_iconst (v := 2) hx hb dL_law_2039 (by decide) ?_
  refine lv_iadd hx hb dL_law_2040 ?_
  refine va_sld hx hb hX hbl hbA hS v2 dL_law_2041 ?_
  refine lm_share C0 hN hK hMI hl.1 (Nat.le_of_ble_eq_true rfl) hc0 dL_law_2042 hP hD hS (fun r_4 u_6 H locs hMI hp_5 hP hD hS => ?_)
  refine lv_pop hx hb dL_law_2045 rfl ?_
  refine lv_goto (tgt := 2660) hx hb dL_law_2046 (by decide) ?_
  refine W.widen (k := 200 + 9 * (n + 1)) (n := 10000 + 132 * (n + 1)) (by omega) (by omega) ?_
  refine lv_iinc (v := i + 6) (lv' := [(3, .int (i + 6)), (2, .ref (g 0)), (1, .ref (a 0)), (0, .ref b)]) hx hb dL_law_2660 hl (k := 0) rfl rfl (by decide) rfl (fun ls hl => ?_)
  refine lv_goto (tgt := 18) hx hb dL_law_2663 (by decide) ?_
  have hJ2 : JI (XSf u_3) (MSf u_6) := (by rw [hp_2, hp_5]; exact hJ)
  exact KK _ _ _ _ _ _ _ (i6F hi hn) hXI hMI hJ2 hP hD hS hl
set_option maxHeartbeats 8000000 in
set_option maxRecDepth 100000 in
theorem lw_case_69 {p : Program} {l : Launch} {e : Env} {s : State} {m : MethodId} {below : List Frame} {meth : Method} {c : Code} {b L : Nat} {xs : Nat → Int32} {dC : Nat → ClassId} {dI : Nat → Nat → Nat} {cB cI cJ cZ cL : ClassId} (C0 : lw_At p s m meth c b L xs) (hN : NW s) (hK : va_K (dC, dI) vwCl (tyL cB cI cJ cZ cL) s) {a g adK adV : Nat → Nat} (hV : SW adK adV (fun q : Nat => s.heap.size ≤ q) s s.heap) {n : Nat} {i : Int32} {u : XT} {v : MT} {T : va_W} (hn : n ≤ 511) (hi : Int32.toInt i = 6 * (n : Int)) (hiL : 6 * n + 6 ≤ L) (hXI : XI cB cI cJ cZ cL u T) (hMI : MI v) (hJ : JI (XSf u) (MSf v)) {H : Heap} {locs : List Loc} (hP : va_P (dC, dI) vwCl (WX a cB cI cJ cZ cL u ++ (WM g cB cI cJ cZ cL v ++ T)) H) (hD : va_D (fun q : Nat => s.heap.size ≤ q) (WX a cB cI cJ cZ cL u ++ (WM g cB cI cJ cZ cL v ++ T))) (hS : va_S (fun q : Nat => s.heap.size ≤ q) s.heap H locs) {ls : Array Slot} (hl : lv_has ls 4 [(3, .int i), (2, .ref (g 0)), (1, .ref (a 0)), (0, .ref b)]) (KK : ∀ (i : Int32) (u : XT) (v : MT) (T : va_W) (H : Heap) (locs : List Loc) (ls : Array Slot), Int32.toInt i = 6 * ((n + 1 : Nat) : Int) → XI cB cI cJ cZ cL u T → MI v → JI (XSf u) (MSf v) → va_P (dC, dI) vwCl (WX a cB cI cJ cZ cL u ++ (WM g cB cI cJ cZ cL v ++ T)) H → va_D (fun q : Nat => s.heap.size ≤ q) (WX a cB cI cJ cZ cL u ++ (WM g cB cI cJ cZ cL v ++ T)) → va_S (fun q : Nat => s.heap.size ≤ q) s.heap H locs → lv_has ls 4 [(3, .int i), (2, .ref (g 0)), (1, .ref (a 0)), (0, .ref b)] → W p l e room_1 s m #[Value.ref b] below meth c H locs (200 + 9 * (n + 1)) (10000 + 132 * (n + 1)) (lw_Z below #[Value.ref b] s) (F0 m 18 ls [])) : W p l e room_1 s m #[Value.ref b] below meth c H locs (200 + 9 * n) (10000 + 132 * n) (lw_Z below #[Value.ref b] s) (F0 m 2049 ls []) := by
  obtain ⟨hx, hb, hr, hml, hown, hts, hX, hbl, hlocks, hgv⟩ := id C0
  have ht : ∀ w ∈ lw_ok, w.before #[Value.ref b] s = true := fun w h => hts w (List.mem_filter.mp h).1
  have hbA : ¬ (fun q : Nat => s.heap.size ≤ q) b := Nat.not_le.mpr hbl
  have hc0 : 200 + 9 * n + 0 ≤ room_1.cells ∧ 10000 + 132 * n + 0 ≤ room_1.slots := ⟨by show 200 + 9 * n + 0 ≤ 600000; omega, by show 10000 + 132 * n + 0 ≤ 7302249; omega⟩
  have v1 : vp_in (i + 1) L := ijF hi hn hiL (by decide) (by decide)
  have v2 : vp_in (i + 2) L := ijF hi hn hiL (by decide) (by decide)
  refine lv_aload_n hx hb dL_law_2049 rfl (lv_at hl 2 rfl) ?_
  refine lv_aload_n hx hb dL_law_2050 rfl (lv_at hl 3 rfl) ?_
  refine lv_iload_n hx hb dL_law_2051 rfl (lv_at hl 0 rfl) ?_
  refine lv_iconst (v := 1) hx hb dL_law_2052 (by decide) ?_
  refine lv_iadd hx hb dL_law_2053 ?_
  refine va_sld hx hb hX hbl hbA hS v1 dL_law_2054 ?_
  refine lv_aload_n hx hb dL_law_2055 rfl (lv_at hl 3 rfl) ?_
  refine lv_iload_n hx hb dL_law_2056 rfl (lv_at hl 0 rfl) ?_
  refine lv_iconst (v := 2) hx hb dL_law_2057 (by decide) ?_
  refine lv_iadd hx hb dL_law_2058 ?_
  refine va_sld hx hb hX hbl hbA hS v2 dL_law_2059 ?_
  refine lx_rests C0 hN hK hXI hl.1 (Nat.le_of_ble_eq_true rfl) hc0 dL_law_2060 hP hD hS (fun r_1 u_3 H locs hXI hp_2 hP hD hS => ?_)
  refine lv_pop hx hb dL_law_2063 rfl ?_
  refine lv_aload_n hx hb dL_law_2064 rfl (lv_at hl 1 rfl) ?_
  refine lv_aload_n hx hb dL_law_2065 rfl (lv_at hl 3 rfl) ?_
  refine lv_iload_n hx hb dL_law_2066 rfl (lv_at hl 0 rfl) ?_
  refine lv_iconst (v := 1) hx hb dL_law_2067 (by decide) ?_
  refine lv_iadd hx hb dL_law_2068 ?_
  refine va_sld hx hb hX hbl hbA hS v1 dL_law_2069 ?_
  refine lv_aload_n hx hb dL_law_2070 rfl (lv_at hl 3 rfl) ?_
  refine lv_iload_n hx hb dL_law_2071 rfl (lv_at hl 0 rfl) ?_
  refine lv_iconst (v := 2) hx hb dL_law_2072 (by decide) ?_
  refine lv_iadd hx hb dL_law_2073 ?_
  refine va_sld hx hb hX hbl hbA hS v2 dL_law_2074 ?_
  refine lm_rests C0 hN hK hMI hl.1 (Nat.le_of_ble_eq_true rfl) hc0 dL_law_2075 hP hD hS (fun r_4 u_6 H locs hMI hp_5 hP hD hS => ?_)
  refine lv_pop hx hb dL_law_2078 rfl ?_
  refine lv_goto (tgt := 2660) hx hb dL_law_2079 (by decide) ?_
  refine W.widen (k := 200 + 9 * (n + 1)) (n := 10000 + 132 * (n + 1)) (by omega) (by omega) ?_
  refine lv_iinc (v := i + 6) (lv' := [(3, .int (i + 6)), (2, .ref (g 0)), (1, .ref (a 0)), (0, .ref b)]) hx hb dL_law_2660 hl (k := 0) rfl rfl (by decide) rfl (fun ls hl => ?_)
  refine lv_goto (tgt := 18) hx hb dL_law_2663 (by decide) ?_
  have hJ2 : JI (XSf u_3) (MSf u_6) := (by rw [hp_2, hp_5]; exact hJ)
  exact KK _ _ _ _ _ _ _ (i6F hi hn) hXI hMI hJ2 hP hD hS hl
set_option maxHeartbeats 8000000 in
set_option maxRecDepth 100000 in
theorem lw_case_70 {p : Program} {l : Launch} {e : Env} {s : State} {m : MethodId} {below : List Frame} {meth : Method} {c : Code} {b L : Nat} {xs : Nat → Int32} {dC : Nat → ClassId} {dI : Nat → Nat → Nat} {cB cI cJ cZ cL : ClassId} (C0 : lw_At p s m meth c b L xs) (hN : NW s) (hK : va_K (dC, dI) vwCl (tyL cB cI cJ cZ cL) s) {a g adK adV : Nat → Nat} (hV : SW adK adV (fun q : Nat => s.heap.size ≤ q) s s.heap) {n : Nat} {i : Int32} {u : XT} {v : MT} {T : va_W} (hn : n ≤ 511) (hi : Int32.toInt i = 6 * (n : Int)) (hiL : 6 * n + 6 ≤ L) (hXI : XI cB cI cJ cZ cL u T) (hMI : MI v) (hJ : JI (XSf u) (MSf v)) {H : Heap} {locs : List Loc} (hP : va_P (dC, dI) vwCl (WX a cB cI cJ cZ cL u ++ (WM g cB cI cJ cZ cL v ++ T)) H) (hD : va_D (fun q : Nat => s.heap.size ≤ q) (WX a cB cI cJ cZ cL u ++ (WM g cB cI cJ cZ cL v ++ T))) (hS : va_S (fun q : Nat => s.heap.size ≤ q) s.heap H locs) {ls : Array Slot} (hl : lv_has ls 4 [(3, .int i), (2, .ref (g 0)), (1, .ref (a 0)), (0, .ref b)]) (KK : ∀ (i : Int32) (u : XT) (v : MT) (T : va_W) (H : Heap) (locs : List Loc) (ls : Array Slot), Int32.toInt i = 6 * ((n + 1 : Nat) : Int) → XI cB cI cJ cZ cL u T → MI v → JI (XSf u) (MSf v) → va_P (dC, dI) vwCl (WX a cB cI cJ cZ cL u ++ (WM g cB cI cJ cZ cL v ++ T)) H → va_D (fun q : Nat => s.heap.size ≤ q) (WX a cB cI cJ cZ cL u ++ (WM g cB cI cJ cZ cL v ++ T)) → va_S (fun q : Nat => s.heap.size ≤ q) s.heap H locs → lv_has ls 4 [(3, .int i), (2, .ref (g 0)), (1, .ref (a 0)), (0, .ref b)] → W p l e room_1 s m #[Value.ref b] below meth c H locs (200 + 9 * (n + 1)) (10000 + 132 * (n + 1)) (lw_Z below #[Value.ref b] s) (F0 m 18 ls [])) : W p l e room_1 s m #[Value.ref b] below meth c H locs (200 + 9 * n) (10000 + 132 * n) (lw_Z below #[Value.ref b] s) (F0 m 2082 ls []) := by
  obtain ⟨hx, hb, hr, hml, hown, hts, hX, hbl, hlocks, hgv⟩ := id C0
  have ht : ∀ w ∈ lw_ok, w.before #[Value.ref b] s = true := fun w h => hts w (List.mem_filter.mp h).1
  have hbA : ¬ (fun q : Nat => s.heap.size ≤ q) b := Nat.not_le.mpr hbl
  have hc0 : 200 + 9 * n + 0 ≤ room_1.cells ∧ 10000 + 132 * n + 0 ≤ room_1.slots := ⟨by show 200 + 9 * n + 0 ≤ 600000; omega, by show 10000 + 132 * n + 0 ≤ 7302249; omega⟩
  have v1 : vp_in (i + 1) L := ijF hi hn hiL (by decide) (by decide)
  have v2 : vp_in (i + 2) L := ijF hi hn hiL (by decide) (by decide)
  have v3 : vp_in (i + 3) L := ijF hi hn hiL (by decide) (by decide)
  have v4 : vp_in (i + 4) L := ijF hi hn hiL (by decide) (by decide)
  refine lv_aload_n hx hb dL_law_2082 rfl (lv_at hl 2 rfl) ?_
  refine lv_aload_n hx hb dL_law_2083 rfl (lv_at hl 3 rfl) ?_
  refine lv_iload_n hx hb dL_law_2084 rfl (lv_at hl 0 rfl) ?_
  refine lv_iconst (v := 1) hx hb dL_law_2085 (by decide) ?_
  refine lv_iadd hx hb dL_law_2086 ?_
  refine va_sld hx hb hX hbl hbA hS v1 dL_law_2087 ?_
  refine lv_aload_n hx hb dL_law_2088 rfl (lv_at hl 3 rfl) ?_
  refine lv_iload_n hx hb dL_law_2089 rfl (lv_at hl 0 rfl) ?_
  refine lv_iconst (v := 2) hx hb dL_law_2090 (by decide) ?_
  refine lv_iadd hx hb dL_law_2091 ?_
  refine va_sld hx hb hX hbl hbA hS v2 dL_law_2092 ?_
  refine lv_aload_n hx hb dL_law_2093 rfl (lv_at hl 3 rfl) ?_
  refine lv_iload_n hx hb dL_law_2094 rfl (lv_at hl 0 rfl) ?_
  refine lv_iconst (v := 3) hx hb dL_law_2095 (by decide) ?_
  refine lv_iadd hx hb dL_law_2096 ?_
  refine va_sld hx hb hX hbl hbA hS v3 dL_law_2097 ?_
  refine lv_aload_n hx hb dL_law_2098 rfl (lv_at hl 3 rfl) ?_
  refine lv_iload_n hx hb dL_law_2099 rfl (lv_at hl 0 rfl) ?_
  refine lv_iconst (v := 4) hx hb dL_law_2100 (by decide) ?_
  refine lv_iadd hx hb dL_law_2101 ?_
  refine va_sld hx hb hX hbl hbA hS v4 dL_law_2102 ?_
  refine lx_gets C0 hN hK hXI hl.1 (Nat.le_of_ble_eq_true rfl) hc0 dL_law_2103 hP hD hS (fun r_1 u_3 H locs hXI hp_2 hP hD hS => ?_)
  refine lv_pop hx hb dL_law_2106 rfl ?_
  refine lv_aload_n hx hb dL_law_2107 rfl (lv_at hl 1 rfl) ?_
  refine lv_aload_n hx hb dL_law_2108 rfl (lv_at hl 3 rfl) ?_
  refine lv_iload_n hx hb dL_law_2109 rfl (lv_at hl 0 rfl) ?_
  refine lv_iconst (v := 1) hx hb dL_law_2110 (by decide) ?_
  refine lv_iadd hx hb dL_law_2111 ?_
  refine va_sld hx hb hX hbl hbA hS v1 dL_law_2112 ?_
  refine lv_aload_n hx hb dL_law_2113 rfl (lv_at hl 3 rfl) ?_
  refine lv_iload_n hx hb dL_law_2114 rfl (lv_at hl 0 rfl) ?_
  refine lv_iconst (v := 2) hx hb dL_law_2115 (by decide) ?_
  refine lv_iadd hx hb dL_law_2116 ?_
  refine va_sld hx hb hX hbl hbA hS v2 dL_law_2117 ?_
  refine lv_aload_n hx hb dL_law_2118 rfl (lv_at hl 3 rfl) ?_
  refine lv_iload_n hx hb dL_law_2119 rfl (lv_at hl 0 rfl) ?_
  refine lv_iconst (v := 3) hx hb dL_law_2120 (by decide) ?_
  refine lv_iadd hx hb dL_law_2121 ?_
  refine va_sld hx hb hX hbl hbA hS v3 dL_law_2122 ?_
  refine lv_aload_n hx hb dL_law_2123 rfl (lv_at hl 3 rfl) ?_
  refine lv_iload_n hx hb dL_law_2124 rfl (lv_at hl 0 rfl) ?_
  refine lv_iconst (v := 4) hx hb dL_law_2125 (by decide) ?_
  refine lv_iadd hx hb dL_law_2126 ?_
  refine va_sld hx hb hX hbl hbA hS v4 dL_law_2127 ?_
  refine lm_gets C0 hN hK hMI hl.1 (Nat.le_of_ble_eq_true rfl) hc0 dL_law_2128 hP hD hS (fun r_4 u_6 H locs hMI hp_5 hP hD hS => ?_)
  refine lv_pop hx hb dL_law_2131 rfl ?_
  refine lv_goto (tgt := 2660) hx hb dL_law_2132 (by decide) ?_
  refine W.widen (k := 200 + 9 * (n + 1)) (n := 10000 + 132 * (n + 1)) (by omega) (by omega) ?_
  refine lv_iinc (v := i + 6) (lv' := [(3, .int (i + 6)), (2, .ref (g 0)), (1, .ref (a 0)), (0, .ref b)]) hx hb dL_law_2660 hl (k := 0) rfl rfl (by decide) rfl (fun ls hl => ?_)
  refine lv_goto (tgt := 18) hx hb dL_law_2663 (by decide) ?_
  have hJ2 : JI (XSf u_3) (MSf u_6) := (by rw [hp_2, hp_5]; exact hJ)
  exact KK _ _ _ _ _ _ _ (i6F hi hn) hXI hMI hJ2 hP hD hS hl
set_option maxHeartbeats 8000000 in
set_option maxRecDepth 100000 in
theorem lw_case_71 {p : Program} {l : Launch} {e : Env} {s : State} {m : MethodId} {below : List Frame} {meth : Method} {c : Code} {b L : Nat} {xs : Nat → Int32} {dC : Nat → ClassId} {dI : Nat → Nat → Nat} {cB cI cJ cZ cL : ClassId} (C0 : lw_At p s m meth c b L xs) (hN : NW s) (hK : va_K (dC, dI) vwCl (tyL cB cI cJ cZ cL) s) {a g adK adV : Nat → Nat} (hV : SW adK adV (fun q : Nat => s.heap.size ≤ q) s s.heap) {n : Nat} {i : Int32} {u : XT} {v : MT} {T : va_W} (hn : n ≤ 511) (hi : Int32.toInt i = 6 * (n : Int)) (hiL : 6 * n + 6 ≤ L) (hXI : XI cB cI cJ cZ cL u T) (hMI : MI v) (hJ : JI (XSf u) (MSf v)) {H : Heap} {locs : List Loc} (hP : va_P (dC, dI) vwCl (WX a cB cI cJ cZ cL u ++ (WM g cB cI cJ cZ cL v ++ T)) H) (hD : va_D (fun q : Nat => s.heap.size ≤ q) (WX a cB cI cJ cZ cL u ++ (WM g cB cI cJ cZ cL v ++ T))) (hS : va_S (fun q : Nat => s.heap.size ≤ q) s.heap H locs) {ls : Array Slot} (hl : lv_has ls 4 [(3, .int i), (2, .ref (g 0)), (1, .ref (a 0)), (0, .ref b)]) (KK : ∀ (i : Int32) (u : XT) (v : MT) (T : va_W) (H : Heap) (locs : List Loc) (ls : Array Slot), Int32.toInt i = 6 * ((n + 1 : Nat) : Int) → XI cB cI cJ cZ cL u T → MI v → JI (XSf u) (MSf v) → va_P (dC, dI) vwCl (WX a cB cI cJ cZ cL u ++ (WM g cB cI cJ cZ cL v ++ T)) H → va_D (fun q : Nat => s.heap.size ≤ q) (WX a cB cI cJ cZ cL u ++ (WM g cB cI cJ cZ cL v ++ T)) → va_S (fun q : Nat => s.heap.size ≤ q) s.heap H locs → lv_has ls 4 [(3, .int i), (2, .ref (g 0)), (1, .ref (a 0)), (0, .ref b)] → W p l e room_1 s m #[Value.ref b] below meth c H locs (200 + 9 * (n + 1)) (10000 + 132 * (n + 1)) (lw_Z below #[Value.ref b] s) (F0 m 18 ls [])) : W p l e room_1 s m #[Value.ref b] below meth c H locs (200 + 9 * n) (10000 + 132 * n) (lw_Z below #[Value.ref b] s) (F0 m 2135 ls []) := by
  obtain ⟨hx, hb, hr, hml, hown, hts, hX, hbl, hlocks, hgv⟩ := id C0
  have ht : ∀ w ∈ lw_ok, w.before #[Value.ref b] s = true := fun w h => hts w (List.mem_filter.mp h).1
  have hbA : ¬ (fun q : Nat => s.heap.size ≤ q) b := Nat.not_le.mpr hbl
  have hc0 : 200 + 9 * n + 0 ≤ room_1.cells ∧ 10000 + 132 * n + 0 ≤ room_1.slots := ⟨by show 200 + 9 * n + 0 ≤ 600000; omega, by show 10000 + 132 * n + 0 ≤ 7302249; omega⟩
  have v1 : vp_in (i + 1) L := ijF hi hn hiL (by decide) (by decide)
  have v2 : vp_in (i + 2) L := ijF hi hn hiL (by decide) (by decide)
  have v3 : vp_in (i + 3) L := ijF hi hn hiL (by decide) (by decide)
  refine lv_aload_n hx hb dL_law_2135 rfl (lv_at hl 2 rfl) ?_
  refine lv_aload_n hx hb dL_law_2136 rfl (lv_at hl 3 rfl) ?_
  refine lv_iload_n hx hb dL_law_2137 rfl (lv_at hl 0 rfl) ?_
  refine lv_iconst (v := 1) hx hb dL_law_2138 (by decide) ?_
  refine lv_iadd hx hb dL_law_2139 ?_
  refine va_sld hx hb hX hbl hbA hS v1 dL_law_2140 ?_
  refine lv_aload_n hx hb dL_law_2141 rfl (lv_at hl 3 rfl) ?_
  refine lv_iload_n hx hb dL_law_2142 rfl (lv_at hl 0 rfl) ?_
  refine lv_iconst (v := 2) hx hb dL_law_2143 (by decide) ?_
  refine lv_iadd hx hb dL_law_2144 ?_
  refine va_sld hx hb hX hbl hbA hS v2 dL_law_2145 ?_
  refine lv_aload_n hx hb dL_law_2146 rfl (lv_at hl 3 rfl) ?_
  refine lv_iload_n hx hb dL_law_2147 rfl (lv_at hl 0 rfl) ?_
  refine lv_iconst (v := 3) hx hb dL_law_2148 (by decide) ?_
  refine lv_iadd hx hb dL_law_2149 ?_
  refine va_sld hx hb hX hbl hbA hS v3 dL_law_2150 ?_
  refine lx_chance C0 hN hK hXI hl.1 (Nat.le_of_ble_eq_true rfl) hc0 dL_law_2151 hP hD hS (fun r_1 u_3 H locs hXI hp_2 hP hD hS => ?_)
  refine lv_pop hx hb dL_law_2154 rfl ?_
  refine lv_aload_n hx hb dL_law_2155 rfl (lv_at hl 1 rfl) ?_
  refine lv_aload_n hx hb dL_law_2156 rfl (lv_at hl 3 rfl) ?_
  refine lv_iload_n hx hb dL_law_2157 rfl (lv_at hl 0 rfl) ?_
  refine lv_iconst (v := 1) hx hb dL_law_2158 (by decide) ?_
  refine lv_iadd hx hb dL_law_2159 ?_
  refine va_sld hx hb hX hbl hbA hS v1 dL_law_2160 ?_
  refine lv_aload_n hx hb dL_law_2161 rfl (lv_at hl 3 rfl) ?_
  refine lv_iload_n hx hb dL_law_2162 rfl (lv_at hl 0 rfl) ?_
  refine lv_iconst (v := 2) hx hb dL_law_2163 (by decide) ?_
  refine lv_iadd hx hb dL_law_2164 ?_
  refine va_sld hx hb hX hbl hbA hS v2 dL_law_2165 ?_
  refine lv_aload_n hx hb dL_law_2166 rfl (lv_at hl 3 rfl) ?_
  refine lv_iload_n hx hb dL_law_2167 rfl (lv_at hl 0 rfl) ?_
  refine lv_iconst (v := 3) hx hb dL_law_2168 (by decide) ?_
  refine lv_iadd hx hb dL_law_2169 ?_
  refine va_sld hx hb hX hbl hbA hS v3 dL_law_2170 ?_
  refine lm_chance C0 hN hK hMI hl.1 (Nat.le_of_ble_eq_true rfl) hc0 dL_law_2171 hP hD hS (fun r_4 u_6 H locs hMI hp_5 hP hD hS => ?_)
  refine lv_pop hx hb dL_law_2174 rfl ?_
  refine lv_goto (tgt := 2660) hx hb dL_law_2175 (by decide) ?_
  refine W.widen (k := 200 + 9 * (n + 1)) (n := 10000 + 132 * (n + 1)) (by omega) (by omega) ?_
  refine lv_iinc (v := i + 6) (lv' := [(3, .int (i + 6)), (2, .ref (g 0)), (1, .ref (a 0)), (0, .ref b)]) hx hb dL_law_2660 hl (k := 0) rfl rfl (by decide) rfl (fun ls hl => ?_)
  refine lv_goto (tgt := 18) hx hb dL_law_2663 (by decide) ?_
  have hJ2 : JI (XSf u_3) (MSf u_6) := (by rw [hp_2, hp_5]; exact hJ)
  exact KK _ _ _ _ _ _ _ (i6F hi hn) hXI hMI hJ2 hP hD hS hl
set_option maxHeartbeats 8000000 in
set_option maxRecDepth 100000 in
theorem lw_case_72 {p : Program} {l : Launch} {e : Env} {s : State} {m : MethodId} {below : List Frame} {meth : Method} {c : Code} {b L : Nat} {xs : Nat → Int32} {dC : Nat → ClassId} {dI : Nat → Nat → Nat} {cB cI cJ cZ cL : ClassId} (C0 : lw_At p s m meth c b L xs) (hN : NW s) (hK : va_K (dC, dI) vwCl (tyL cB cI cJ cZ cL) s) {a g adK adV : Nat → Nat} (hV : SW adK adV (fun q : Nat => s.heap.size ≤ q) s s.heap) {n : Nat} {i : Int32} {u : XT} {v : MT} {T : va_W} (hn : n ≤ 511) (hi : Int32.toInt i = 6 * (n : Int)) (hiL : 6 * n + 6 ≤ L) (hXI : XI cB cI cJ cZ cL u T) (hMI : MI v) (hJ : JI (XSf u) (MSf v)) {H : Heap} {locs : List Loc} (hP : va_P (dC, dI) vwCl (WX a cB cI cJ cZ cL u ++ (WM g cB cI cJ cZ cL v ++ T)) H) (hD : va_D (fun q : Nat => s.heap.size ≤ q) (WX a cB cI cJ cZ cL u ++ (WM g cB cI cJ cZ cL v ++ T))) (hS : va_S (fun q : Nat => s.heap.size ≤ q) s.heap H locs) {ls : Array Slot} (hl : lv_has ls 4 [(3, .int i), (2, .ref (g 0)), (1, .ref (a 0)), (0, .ref b)]) (KK : ∀ (i : Int32) (u : XT) (v : MT) (T : va_W) (H : Heap) (locs : List Loc) (ls : Array Slot), Int32.toInt i = 6 * ((n + 1 : Nat) : Int) → XI cB cI cJ cZ cL u T → MI v → JI (XSf u) (MSf v) → va_P (dC, dI) vwCl (WX a cB cI cJ cZ cL u ++ (WM g cB cI cJ cZ cL v ++ T)) H → va_D (fun q : Nat => s.heap.size ≤ q) (WX a cB cI cJ cZ cL u ++ (WM g cB cI cJ cZ cL v ++ T)) → va_S (fun q : Nat => s.heap.size ≤ q) s.heap H locs → lv_has ls 4 [(3, .int i), (2, .ref (g 0)), (1, .ref (a 0)), (0, .ref b)] → W p l e room_1 s m #[Value.ref b] below meth c H locs (200 + 9 * (n + 1)) (10000 + 132 * (n + 1)) (lw_Z below #[Value.ref b] s) (F0 m 18 ls [])) : W p l e room_1 s m #[Value.ref b] below meth c H locs (200 + 9 * n) (10000 + 132 * n) (lw_Z below #[Value.ref b] s) (F0 m 2178 ls []) := by
  obtain ⟨hx, hb, hr, hml, hown, hts, hX, hbl, hlocks, hgv⟩ := id C0
  have ht : ∀ w ∈ lw_ok, w.before #[Value.ref b] s = true := fun w h => hts w (List.mem_filter.mp h).1
  have hbA : ¬ (fun q : Nat => s.heap.size ≤ q) b := Nat.not_le.mpr hbl
  have hc0 : 200 + 9 * n + 0 ≤ room_1.cells ∧ 10000 + 132 * n + 0 ≤ room_1.slots := ⟨by show 200 + 9 * n + 0 ≤ 600000; omega, by show 10000 + 132 * n + 0 ≤ 7302249; omega⟩
  have v1 : vp_in (i + 1) L := ijF hi hn hiL (by decide) (by decide)
  have v2 : vp_in (i + 2) L := ijF hi hn hiL (by decide) (by decide)
  refine lv_aload_n hx hb dL_law_2178 rfl (lv_at hl 2 rfl) ?_
  refine lv_aload_n hx hb dL_law_2179 rfl (lv_at hl 3 rfl) ?_
  refine lv_iload_n hx hb dL_law_2180 rfl (lv_at hl 0 rfl) ?_
  refine lv_iconst (v := 1) hx hb dL_law_2181 (by decide) ?_
  refine lv_iadd hx hb dL_law_2182 ?_
  refine va_sld hx hb hX hbl hbA hS v1 dL_law_2183 ?_
  refine lv_aload_n hx hb dL_law_2184 rfl (lv_at hl 3 rfl) ?_
  refine lv_iload_n hx hb dL_law_2185 rfl (lv_at hl 0 rfl) ?_
  refine lv_iconst (v := 2) hx hb dL_law_2186 (by decide) ?_
  refine lv_iadd hx hb dL_law_2187 ?_
  refine va_sld hx hb hX hbl hbA hS v2 dL_law_2188 ?_
  refine lx_mean C0 hN hK hXI hl.1 (Nat.le_of_ble_eq_true rfl) hc0 dL_law_2189 hP hD hS (fun r_1 u_3 H locs hXI hp_2 hP hD hS => ?_)
  refine lv_pop2_2 hx hb dL_law_2192 rfl ?_
  refine lv_aload_n hx hb dL_law_2193 rfl (lv_at hl 1 rfl) ?_
  refine lv_aload_n hx hb dL_law_2194 rfl (lv_at hl 3 rfl) ?_
  refine lv_iload_n hx hb dL_law_2195 rfl (lv_at hl 0 rfl) ?_
  refine lv_iconst (v := 1) hx hb dL_law_2196 (by decide) ?_
  refine lv_iadd hx hb dL_law_2197 ?_
  refine va_sld hx hb hX hbl hbA hS v1 dL_law_2198 ?_
  refine lv_aload_n hx hb dL_law_2199 rfl (lv_at hl 3 rfl) ?_
  refine lv_iload_n hx hb dL_law_2200 rfl (lv_at hl 0 rfl) ?_
  refine lv_iconst (v := 2) hx hb dL_law_2201 (by decide) ?_
  refine lv_iadd hx hb dL_law_2202 ?_
  refine va_sld hx hb hX hbl hbA hS v2 dL_law_2203 ?_
  refine lm_mean C0 hN hK hMI hl.1 (Nat.le_of_ble_eq_true rfl) hc0 dL_law_2204 hP hD hS (fun r_4 u_6 H locs hMI hp_5 hP hD hS => ?_)
  refine lv_pop2_2 hx hb dL_law_2207 rfl ?_
  refine lv_goto (tgt := 2660) hx hb dL_law_2208 (by decide) ?_
  refine W.widen (k := 200 + 9 * (n + 1)) (n := 10000 + 132 * (n + 1)) (by omega) (by omega) ?_
  refine lv_iinc (v := i + 6) (lv' := [(3, .int (i + 6)), (2, .ref (g 0)), (1, .ref (a 0)), (0, .ref b)]) hx hb dL_law_2660 hl (k := 0) rfl rfl (by decide) rfl (fun ls hl => ?_)
  refine lv_goto (tgt := 18) hx hb dL_law_2663 (by decide) ?_
  have hJ2 : JI (XSf u_3) (MSf u_6) := (by rw [hp_2, hp_5]; exact hJ)
  exact KK _ _ _ _ _ _ _ (i6F hi hn) hXI hMI hJ2 hP hD hS hl
set_option maxHeartbeats 8000000 in
set_option maxRecDepth 100000 in
theorem lw_case_73 {p : Program} {l : Launch} {e : Env} {s : State} {m : MethodId} {below : List Frame} {meth : Method} {c : Code} {b L : Nat} {xs : Nat → Int32} {dC : Nat → ClassId} {dI : Nat → Nat → Nat} {cB cI cJ cZ cL : ClassId} (C0 : lw_At p s m meth c b L xs) (hN : NW s) (hK : va_K (dC, dI) vwCl (tyL cB cI cJ cZ cL) s) {a g adK adV : Nat → Nat} (hV : SW adK adV (fun q : Nat => s.heap.size ≤ q) s s.heap) {n : Nat} {i : Int32} {u : XT} {v : MT} {T : va_W} (hn : n ≤ 511) (hi : Int32.toInt i = 6 * (n : Int)) (hiL : 6 * n + 6 ≤ L) (hXI : XI cB cI cJ cZ cL u T) (hMI : MI v) (hJ : JI (XSf u) (MSf v)) {H : Heap} {locs : List Loc} (hP : va_P (dC, dI) vwCl (WX a cB cI cJ cZ cL u ++ (WM g cB cI cJ cZ cL v ++ T)) H) (hD : va_D (fun q : Nat => s.heap.size ≤ q) (WX a cB cI cJ cZ cL u ++ (WM g cB cI cJ cZ cL v ++ T))) (hS : va_S (fun q : Nat => s.heap.size ≤ q) s.heap H locs) {ls : Array Slot} (hl : lv_has ls 4 [(3, .int i), (2, .ref (g 0)), (1, .ref (a 0)), (0, .ref b)]) (KK : ∀ (i : Int32) (u : XT) (v : MT) (T : va_W) (H : Heap) (locs : List Loc) (ls : Array Slot), Int32.toInt i = 6 * ((n + 1 : Nat) : Int) → XI cB cI cJ cZ cL u T → MI v → JI (XSf u) (MSf v) → va_P (dC, dI) vwCl (WX a cB cI cJ cZ cL u ++ (WM g cB cI cJ cZ cL v ++ T)) H → va_D (fun q : Nat => s.heap.size ≤ q) (WX a cB cI cJ cZ cL u ++ (WM g cB cI cJ cZ cL v ++ T)) → va_S (fun q : Nat => s.heap.size ≤ q) s.heap H locs → lv_has ls 4 [(3, .int i), (2, .ref (g 0)), (1, .ref (a 0)), (0, .ref b)] → W p l e room_1 s m #[Value.ref b] below meth c H locs (200 + 9 * (n + 1)) (10000 + 132 * (n + 1)) (lw_Z below #[Value.ref b] s) (F0 m 18 ls [])) : W p l e room_1 s m #[Value.ref b] below meth c H locs (200 + 9 * n) (10000 + 132 * n) (lw_Z below #[Value.ref b] s) (F0 m 2211 ls []) := by
  obtain ⟨hx, hb, hr, hml, hown, hts, hX, hbl, hlocks, hgv⟩ := id C0
  have ht : ∀ w ∈ lw_ok, w.before #[Value.ref b] s = true := fun w h => hts w (List.mem_filter.mp h).1
  have hbA : ¬ (fun q : Nat => s.heap.size ≤ q) b := Nat.not_le.mpr hbl
  have hc0 : 200 + 9 * n + 0 ≤ room_1.cells ∧ 10000 + 132 * n + 0 ≤ room_1.slots := ⟨by show 200 + 9 * n + 0 ≤ 600000; omega, by show 10000 + 132 * n + 0 ≤ 7302249; omega⟩
  have v1 : vp_in (i + 1) L := ijF hi hn hiL (by decide) (by decide)
  have v2 : vp_in (i + 2) L := ijF hi hn hiL (by decide) (by decide)
  refine lv_aload_n hx hb dL_law_2211 rfl (lv_at hl 2 rfl) ?_
  refine lv_aload_n hx hb dL_law_2212 rfl (lv_at hl 3 rfl) ?_
  refine lv_iload_n hx hb dL_law_2213 rfl (lv_at hl 0 rfl) ?_
  refine lv_iconst (v := 1) hx hb dL_law_2214 (by decide) ?_
  refine lv_iadd hx hb dL_law_2215 ?_
  refine va_sld hx hb hX hbl hbA hS v1 dL_law_2216 ?_
  refine lv_aload_n hx hb dL_law_2217 rfl (lv_at hl 3 rfl) ?_
  refine lv_iload_n hx hb dL_law_2218 rfl (lv_at hl 0 rfl) ?_
  refine lv_iconst (v := 2) hx hb dL_law_2219 (by decide) ?_
  refine lv_iadd hx hb dL_law_2220 ?_
  refine va_sld hx hb hX hbl hbA hS v2 dL_law_2221 ?_
  refine lx_cups C0 hN hK hXI hl.1 (Nat.le_of_ble_eq_true rfl) hc0 dL_law_2222 hP hD hS (fun r_1 u_3 H locs hXI hp_2 hP hD hS => ?_)
  refine lv_pop hx hb dL_law_2225 rfl ?_
  refine lv_aload_n hx hb dL_law_2226 rfl (lv_at hl 1 rfl) ?_
  refine lv_aload_n hx hb dL_law_2227 rfl (lv_at hl 3 rfl) ?_
  refine lv_iload_n hx hb dL_law_2228 rfl (lv_at hl 0 rfl) ?_
  refine lv_iconst (v := 1) hx hb dL_law_2229 (by decide) ?_
  refine lv_iadd hx hb dL_law_2230 ?_
  refine va_sld hx hb hX hbl hbA hS v1 dL_law_2231 ?_
  refine lv_aload_n hx hb dL_law_2232 rfl (lv_at hl 3 rfl) ?_
  refine lv_iload_n hx hb dL_law_2233 rfl (lv_at hl 0 rfl) ?_
  refine lv_iconst (v := 2) hx hb dL_law_2234 (by decide) ?_
  refine lv_iadd hx hb dL_law_2235 ?_
  refine va_sld hx hb hX hbl hbA hS v2 dL_law_2236 ?_
  refine lm_cups C0 hN hK hMI hl.1 (Nat.le_of_ble_eq_true rfl) hc0 dL_law_2237 hP hD hS (fun r_4 u_6 H locs hMI hp_5 hP hD hS => ?_)
  refine lv_pop hx hb dL_law_2240 rfl ?_
  refine lv_goto (tgt := 2660) hx hb dL_law_2241 (by decide) ?_
  refine W.widen (k := 200 + 9 * (n + 1)) (n := 10000 + 132 * (n + 1)) (by omega) (by omega) ?_
  refine lv_iinc (v := i + 6) (lv' := [(3, .int (i + 6)), (2, .ref (g 0)), (1, .ref (a 0)), (0, .ref b)]) hx hb dL_law_2660 hl (k := 0) rfl rfl (by decide) rfl (fun ls hl => ?_)
  refine lv_goto (tgt := 18) hx hb dL_law_2663 (by decide) ?_
  have hJ2 : JI (XSf u_3) (MSf u_6) := (by rw [hp_2, hp_5]; exact hJ)
  exact KK _ _ _ _ _ _ _ (i6F hi hn) hXI hMI hJ2 hP hD hS hl
set_option maxHeartbeats 8000000 in
set_option maxRecDepth 100000 in
theorem lw_case_74 {p : Program} {l : Launch} {e : Env} {s : State} {m : MethodId} {below : List Frame} {meth : Method} {c : Code} {b L : Nat} {xs : Nat → Int32} {dC : Nat → ClassId} {dI : Nat → Nat → Nat} {cB cI cJ cZ cL : ClassId} (C0 : lw_At p s m meth c b L xs) (hN : NW s) (hK : va_K (dC, dI) vwCl (tyL cB cI cJ cZ cL) s) {a g adK adV : Nat → Nat} (hV : SW adK adV (fun q : Nat => s.heap.size ≤ q) s s.heap) {n : Nat} {i : Int32} {u : XT} {v : MT} {T : va_W} (hn : n ≤ 511) (hi : Int32.toInt i = 6 * (n : Int)) (hiL : 6 * n + 6 ≤ L) (hXI : XI cB cI cJ cZ cL u T) (hMI : MI v) (hJ : JI (XSf u) (MSf v)) {H : Heap} {locs : List Loc} (hP : va_P (dC, dI) vwCl (WX a cB cI cJ cZ cL u ++ (WM g cB cI cJ cZ cL v ++ T)) H) (hD : va_D (fun q : Nat => s.heap.size ≤ q) (WX a cB cI cJ cZ cL u ++ (WM g cB cI cJ cZ cL v ++ T))) (hS : va_S (fun q : Nat => s.heap.size ≤ q) s.heap H locs) {ls : Array Slot} (hl : lv_has ls 4 [(3, .int i), (2, .ref (g 0)), (1, .ref (a 0)), (0, .ref b)]) (KK : ∀ (i : Int32) (u : XT) (v : MT) (T : va_W) (H : Heap) (locs : List Loc) (ls : Array Slot), Int32.toInt i = 6 * ((n + 1 : Nat) : Int) → XI cB cI cJ cZ cL u T → MI v → JI (XSf u) (MSf v) → va_P (dC, dI) vwCl (WX a cB cI cJ cZ cL u ++ (WM g cB cI cJ cZ cL v ++ T)) H → va_D (fun q : Nat => s.heap.size ≤ q) (WX a cB cI cJ cZ cL u ++ (WM g cB cI cJ cZ cL v ++ T)) → va_S (fun q : Nat => s.heap.size ≤ q) s.heap H locs → lv_has ls 4 [(3, .int i), (2, .ref (g 0)), (1, .ref (a 0)), (0, .ref b)] → W p l e room_1 s m #[Value.ref b] below meth c H locs (200 + 9 * (n + 1)) (10000 + 132 * (n + 1)) (lw_Z below #[Value.ref b] s) (F0 m 18 ls [])) : W p l e room_1 s m #[Value.ref b] below meth c H locs (200 + 9 * n) (10000 + 132 * n) (lw_Z below #[Value.ref b] s) (F0 m 2244 ls []) := by
  obtain ⟨hx, hb, hr, hml, hown, hts, hX, hbl, hlocks, hgv⟩ := id C0
  have ht : ∀ w ∈ lw_ok, w.before #[Value.ref b] s = true := fun w h => hts w (List.mem_filter.mp h).1
  have hbA : ¬ (fun q : Nat => s.heap.size ≤ q) b := Nat.not_le.mpr hbl
  have hc0 : 200 + 9 * n + 0 ≤ room_1.cells ∧ 10000 + 132 * n + 0 ≤ room_1.slots := ⟨by show 200 + 9 * n + 0 ≤ 600000; omega, by show 10000 + 132 * n + 0 ≤ 7302249; omega⟩
  have v1 : vp_in (i + 1) L := ijF hi hn hiL (by decide) (by decide)
  have v2 : vp_in (i + 2) L := ijF hi hn hiL (by decide) (by decide)
  refine lv_aload_n hx hb dL_law_2244 rfl (lv_at hl 2 rfl) ?_
  refine lv_aload_n hx hb dL_law_2245 rfl (lv_at hl 3 rfl) ?_
  refine lv_iload_n hx hb dL_law_2246 rfl (lv_at hl 0 rfl) ?_
  refine lv_iconst (v := 1) hx hb dL_law_2247 (by decide) ?_
  refine lv_iadd hx hb dL_law_2248 ?_
  refine va_sld hx hb hX hbl hbA hS v1 dL_law_2249 ?_
  refine lv_aload_n hx hb dL_law_2250 rfl (lv_at hl 3 rfl) ?_
  refine lv_iload_n hx hb dL_law_2251 rfl (lv_at hl 0 rfl) ?_
  refine lv_iconst (v := 2) hx hb dL_law_2252 (by decide) ?_
  refine lv_iadd hx hb dL_law_2253 ?_
  refine va_sld hx hb hX hbl hbA hS v2 dL_law_2254 ?_
  refine lx_snaps C0 hN hK hXI hl.1 (Nat.le_of_ble_eq_true rfl) hc0 dL_law_2255 hP hD hS (fun r_1 u_3 H locs hXI hp_2 hP hD hS => ?_)
  refine lv_pop hx hb dL_law_2258 rfl ?_
  refine lv_aload_n hx hb dL_law_2259 rfl (lv_at hl 1 rfl) ?_
  refine lv_aload_n hx hb dL_law_2260 rfl (lv_at hl 3 rfl) ?_
  refine lv_iload_n hx hb dL_law_2261 rfl (lv_at hl 0 rfl) ?_
  refine lv_iconst (v := 1) hx hb dL_law_2262 (by decide) ?_
  refine lv_iadd hx hb dL_law_2263 ?_
  refine va_sld hx hb hX hbl hbA hS v1 dL_law_2264 ?_
  refine lv_aload_n hx hb dL_law_2265 rfl (lv_at hl 3 rfl) ?_
  refine lv_iload_n hx hb dL_law_2266 rfl (lv_at hl 0 rfl) ?_
  refine lv_iconst (v := 2) hx hb dL_law_2267 (by decide) ?_
  refine lv_iadd hx hb dL_law_2268 ?_
  refine va_sld hx hb hX hbl hbA hS v2 dL_law_2269 ?_
  refine lm_snaps C0 hN hK hMI hl.1 (Nat.le_of_ble_eq_true rfl) hc0 dL_law_2270 hP hD hS (fun r_4 u_6 H locs hMI hp_5 hP hD hS => ?_)
  refine lv_pop hx hb dL_law_2273 rfl ?_
  refine lv_goto (tgt := 2660) hx hb dL_law_2274 (by decide) ?_
  refine W.widen (k := 200 + 9 * (n + 1)) (n := 10000 + 132 * (n + 1)) (by omega) (by omega) ?_
  refine lv_iinc (v := i + 6) (lv' := [(3, .int (i + 6)), (2, .ref (g 0)), (1, .ref (a 0)), (0, .ref b)]) hx hb dL_law_2660 hl (k := 0) rfl rfl (by decide) rfl (fun ls hl => ?_)
  refine lv_goto (tgt := 18) hx hb dL_law_2663 (by decide) ?_
  have hJ2 : JI (XSf u_3) (MSf u_6) := (by rw [hp_2, hp_5]; exact hJ)
  exact KK _ _ _ _ _ _ _ (i6F hi hn) hXI hMI hJ2 hP hD hS hl
set_option maxHeartbeats 8000000 in
set_option maxRecDepth 100000 in
theorem lw_case_75 {p : Program} {l : Launch} {e : Env} {s : State} {m : MethodId} {below : List Frame} {meth : Method} {c : Code} {b L : Nat} {xs : Nat → Int32} {dC : Nat → ClassId} {dI : Nat → Nat → Nat} {cB cI cJ cZ cL : ClassId} (C0 : lw_At p s m meth c b L xs) (hN : NW s) (hK : va_K (dC, dI) vwCl (tyL cB cI cJ cZ cL) s) {a g adK adV : Nat → Nat} (hV : SW adK adV (fun q : Nat => s.heap.size ≤ q) s s.heap) {n : Nat} {i : Int32} {u : XT} {v : MT} {T : va_W} (hn : n ≤ 511) (hi : Int32.toInt i = 6 * (n : Int)) (hiL : 6 * n + 6 ≤ L) (hXI : XI cB cI cJ cZ cL u T) (hMI : MI v) (hJ : JI (XSf u) (MSf v)) {H : Heap} {locs : List Loc} (hP : va_P (dC, dI) vwCl (WX a cB cI cJ cZ cL u ++ (WM g cB cI cJ cZ cL v ++ T)) H) (hD : va_D (fun q : Nat => s.heap.size ≤ q) (WX a cB cI cJ cZ cL u ++ (WM g cB cI cJ cZ cL v ++ T))) (hS : va_S (fun q : Nat => s.heap.size ≤ q) s.heap H locs) {ls : Array Slot} (hl : lv_has ls 4 [(3, .int i), (2, .ref (g 0)), (1, .ref (a 0)), (0, .ref b)]) (KK : ∀ (i : Int32) (u : XT) (v : MT) (T : va_W) (H : Heap) (locs : List Loc) (ls : Array Slot), Int32.toInt i = 6 * ((n + 1 : Nat) : Int) → XI cB cI cJ cZ cL u T → MI v → JI (XSf u) (MSf v) → va_P (dC, dI) vwCl (WX a cB cI cJ cZ cL u ++ (WM g cB cI cJ cZ cL v ++ T)) H → va_D (fun q : Nat => s.heap.size ≤ q) (WX a cB cI cJ cZ cL u ++ (WM g cB cI cJ cZ cL v ++ T)) → va_S (fun q : Nat => s.heap.size ≤ q) s.heap H locs → lv_has ls 4 [(3, .int i), (2, .ref (g 0)), (1, .ref (a 0)), (0, .ref b)] → W p l e room_1 s m #[Value.ref b] below meth c H locs (200 + 9 * (n + 1)) (10000 + 132 * (n + 1)) (lw_Z below #[Value.ref b] s) (F0 m 18 ls [])) : W p l e room_1 s m #[Value.ref b] below meth c H locs (200 + 9 * n) (10000 + 132 * n) (lw_Z below #[Value.ref b] s) (F0 m 2277 ls []) := by
  obtain ⟨hx, hb, hr, hml, hown, hts, hX, hbl, hlocks, hgv⟩ := id C0
  have ht : ∀ w ∈ lw_ok, w.before #[Value.ref b] s = true := fun w h => hts w (List.mem_filter.mp h).1
  have hbA : ¬ (fun q : Nat => s.heap.size ≤ q) b := Nat.not_le.mpr hbl
  have hc0 : 200 + 9 * n + 0 ≤ room_1.cells ∧ 10000 + 132 * n + 0 ≤ room_1.slots := ⟨by show 200 + 9 * n + 0 ≤ 600000; omega, by show 10000 + 132 * n + 0 ≤ 7302249; omega⟩
  refine lv_aload_n hx hb dL_law_2277 rfl (lv_at hl 2 rfl) ?_
  refine lx_undo C0 hN hK hXI hl.1 (Nat.le_of_ble_eq_true rfl) hc0 dL_law_2278 hP hD hS (fun r_1 u_3 H locs hXI hp_2 hP hD hS => ?_)
  refine lv_pop hx hb dL_law_2281 rfl ?_
  refine lv_aload_n hx hb dL_law_2282 rfl (lv_at hl 1 rfl) ?_
  refine lm_undo C0 hN hK hMI hl.1 (Nat.le_of_ble_eq_true rfl) hc0 dL_law_2283 hP hD hS (fun r_4 u_6 H locs hMI hp_5 hP hD hS => ?_)
  refine lv_pop hx hb dL_law_2286 rfl ?_
  refine lv_goto (tgt := 2660) hx hb dL_law_2287 (by decide) ?_
  refine W.widen (k := 200 + 9 * (n + 1)) (n := 10000 + 132 * (n + 1)) (by omega) (by omega) ?_
  refine lv_iinc (v := i + 6) (lv' := [(3, .int (i + 6)), (2, .ref (g 0)), (1, .ref (a 0)), (0, .ref b)]) hx hb dL_law_2660 hl (k := 0) rfl rfl (by decide) rfl (fun ls hl => ?_)
  refine lv_goto (tgt := 18) hx hb dL_law_2663 (by decide) ?_
  have hJ2 : JI (XSf u_3) (MSf u_6) := (by rw [hp_2, hp_5]; exact hJ)
  exact KK _ _ _ _ _ _ _ (i6F hi hn) hXI hMI hJ2 hP hD hS hl
set_option maxHeartbeats 8000000 in
set_option maxRecDepth 100000 in
theorem lw_case_76 {p : Program} {l : Launch} {e : Env} {s : State} {m : MethodId} {below : List Frame} {meth : Method} {c : Code} {b L : Nat} {xs : Nat → Int32} {dC : Nat → ClassId} {dI : Nat → Nat → Nat} {cB cI cJ cZ cL : ClassId} (C0 : lw_At p s m meth c b L xs) (hN : NW s) (hK : va_K (dC, dI) vwCl (tyL cB cI cJ cZ cL) s) {a g adK adV : Nat → Nat} (hV : SW adK adV (fun q : Nat => s.heap.size ≤ q) s s.heap) {n : Nat} {i : Int32} {u : XT} {v : MT} {T : va_W} (hn : n ≤ 511) (hi : Int32.toInt i = 6 * (n : Int)) (hiL : 6 * n + 6 ≤ L) (hXI : XI cB cI cJ cZ cL u T) (hMI : MI v) (hJ : JI (XSf u) (MSf v)) {H : Heap} {locs : List Loc} (hP : va_P (dC, dI) vwCl (WX a cB cI cJ cZ cL u ++ (WM g cB cI cJ cZ cL v ++ T)) H) (hD : va_D (fun q : Nat => s.heap.size ≤ q) (WX a cB cI cJ cZ cL u ++ (WM g cB cI cJ cZ cL v ++ T))) (hS : va_S (fun q : Nat => s.heap.size ≤ q) s.heap H locs) {ls : Array Slot} (hl : lv_has ls 4 [(3, .int i), (2, .ref (g 0)), (1, .ref (a 0)), (0, .ref b)]) (KK : ∀ (i : Int32) (u : XT) (v : MT) (T : va_W) (H : Heap) (locs : List Loc) (ls : Array Slot), Int32.toInt i = 6 * ((n + 1 : Nat) : Int) → XI cB cI cJ cZ cL u T → MI v → JI (XSf u) (MSf v) → va_P (dC, dI) vwCl (WX a cB cI cJ cZ cL u ++ (WM g cB cI cJ cZ cL v ++ T)) H → va_D (fun q : Nat => s.heap.size ≤ q) (WX a cB cI cJ cZ cL u ++ (WM g cB cI cJ cZ cL v ++ T)) → va_S (fun q : Nat => s.heap.size ≤ q) s.heap H locs → lv_has ls 4 [(3, .int i), (2, .ref (g 0)), (1, .ref (a 0)), (0, .ref b)] → W p l e room_1 s m #[Value.ref b] below meth c H locs (200 + 9 * (n + 1)) (10000 + 132 * (n + 1)) (lw_Z below #[Value.ref b] s) (F0 m 18 ls [])) : W p l e room_1 s m #[Value.ref b] below meth c H locs (200 + 9 * n) (10000 + 132 * n) (lw_Z below #[Value.ref b] s) (F0 m 2290 ls []) := by
  obtain ⟨hx, hb, hr, hml, hown, hts, hX, hbl, hlocks, hgv⟩ := id C0
  have ht : ∀ w ∈ lw_ok, w.before #[Value.ref b] s = true := fun w h => hts w (List.mem_filter.mp h).1
  have hbA : ¬ (fun q : Nat => s.heap.size ≤ q) b := Nat.not_le.mpr hbl
  have hc0 : 200 + 9 * n + 0 ≤ room_1.cells ∧ 10000 + 132 * n + 0 ≤ room_1.slots := ⟨by show 200 + 9 * n + 0 ≤ 600000; omega, by show 10000 + 132 * n + 0 ≤ 7302249; omega⟩
  refine lv_aload_n hx hb dL_law_2290 rfl (lv_at hl 2 rfl) ?_
  refine lx_anew C0 hN hK hXI hl.1 (Nat.le_of_ble_eq_true rfl) hc0 dL_law_2291 hP hD hS (fun r_1 u_3 H locs hXI hp_2 hP hD hS => ?_)
  refine lv_pop hx hb dL_law_2294 rfl ?_
  refine lv_aload_n hx hb dL_law_2295 rfl (lv_at hl 1 rfl) ?_
  refine lm_anew C0 hN hK hMI hl.1 (Nat.le_of_ble_eq_true rfl) hc0 dL_law_2296 hP hD hS (fun r_4 u_6 H locs hMI hp_5 hP hD hS => ?_)
  refine lv_pop hx hb dL_law_2299 rfl ?_
  refine lv_goto (tgt := 2660) hx hb dL_law_2300 (by decide) ?_
  refine W.widen (k := 200 + 9 * (n + 1)) (n := 10000 + 132 * (n + 1)) (by omega) (by omega) ?_
  refine lv_iinc (v := i + 6) (lv' := [(3, .int (i + 6)), (2, .ref (g 0)), (1, .ref (a 0)), (0, .ref b)]) hx hb dL_law_2660 hl (k := 0) rfl rfl (by decide) rfl (fun ls hl => ?_)
  refine lv_goto (tgt := 18) hx hb dL_law_2663 (by decide) ?_
  have hJ2 : JI (XSf u_3) (MSf u_6) := (by rw [hp_2, hp_5]; exact hJ)
  exact KK _ _ _ _ _ _ _ (i6F hi hn) hXI hMI hJ2 hP hD hS hl
set_option maxHeartbeats 8000000 in
set_option maxRecDepth 100000 in
theorem lw_case_77 {p : Program} {l : Launch} {e : Env} {s : State} {m : MethodId} {below : List Frame} {meth : Method} {c : Code} {b L : Nat} {xs : Nat → Int32} {dC : Nat → ClassId} {dI : Nat → Nat → Nat} {cB cI cJ cZ cL : ClassId} (C0 : lw_At p s m meth c b L xs) (hN : NW s) (hK : va_K (dC, dI) vwCl (tyL cB cI cJ cZ cL) s) {a g adK adV : Nat → Nat} (hV : SW adK adV (fun q : Nat => s.heap.size ≤ q) s s.heap) {n : Nat} {i : Int32} {u : XT} {v : MT} {T : va_W} (hn : n ≤ 511) (hi : Int32.toInt i = 6 * (n : Int)) (hiL : 6 * n + 6 ≤ L) (hXI : XI cB cI cJ cZ cL u T) (hMI : MI v) (hJ : JI (XSf u) (MSf v)) {H : Heap} {locs : List Loc} (hP : va_P (dC, dI) vwCl (WX a cB cI cJ cZ cL u ++ (WM g cB cI cJ cZ cL v ++ T)) H) (hD : va_D (fun q : Nat => s.heap.size ≤ q) (WX a cB cI cJ cZ cL u ++ (WM g cB cI cJ cZ cL v ++ T))) (hS : va_S (fun q : Nat => s.heap.size ≤ q) s.heap H locs) {ls : Array Slot} (hl : lv_has ls 4 [(3, .int i), (2, .ref (g 0)), (1, .ref (a 0)), (0, .ref b)]) (KK : ∀ (i : Int32) (u : XT) (v : MT) (T : va_W) (H : Heap) (locs : List Loc) (ls : Array Slot), Int32.toInt i = 6 * ((n + 1 : Nat) : Int) → XI cB cI cJ cZ cL u T → MI v → JI (XSf u) (MSf v) → va_P (dC, dI) vwCl (WX a cB cI cJ cZ cL u ++ (WM g cB cI cJ cZ cL v ++ T)) H → va_D (fun q : Nat => s.heap.size ≤ q) (WX a cB cI cJ cZ cL u ++ (WM g cB cI cJ cZ cL v ++ T)) → va_S (fun q : Nat => s.heap.size ≤ q) s.heap H locs → lv_has ls 4 [(3, .int i), (2, .ref (g 0)), (1, .ref (a 0)), (0, .ref b)] → W p l e room_1 s m #[Value.ref b] below meth c H locs (200 + 9 * (n + 1)) (10000 + 132 * (n + 1)) (lw_Z below #[Value.ref b] s) (F0 m 18 ls [])) : W p l e room_1 s m #[Value.ref b] below meth c H locs (200 + 9 * n) (10000 + 132 * n) (lw_Z below #[Value.ref b] s) (F0 m 2303 ls []) := by
  obtain ⟨hx, hb, hr, hml, hown, hts, hX, hbl, hlocks, hgv⟩ := id C0
  have ht : ∀ w ∈ lw_ok, w.before #[Value.ref b] s = true := fun w h => hts w (List.mem_filter.mp h).1
  have hbA : ¬ (fun q : Nat => s.heap.size ≤ q) b := Nat.not_le.mpr hbl
  have hc0 : 200 + 9 * n + 0 ≤ room_1.cells ∧ 10000 + 132 * n + 0 ≤ room_1.slots := ⟨by show 200 + 9 * n + 0 ≤ 600000; omega, by show 10000 + 132 * n + 0 ≤ 7302249; omega⟩
  have v1 : vp_in (i + 1) L := ijF hi hn hiL (by decide) (by decide)
  have v2 : vp_in (i + 2) L := ijF hi hn hiL (by decide) (by decide)
  refine lv_aload_n hx hb dL_law_2303 rfl (lv_at hl 2 rfl) ?_
  refine lv_aload_n hx hb dL_law_2304 rfl (lv_at hl 3 rfl) ?_
  refine lv_iload_n hx hb dL_law_2305 rfl (lv_at hl 0 rfl) ?_
  refine lv_iconst (v := 1) hx hb dL_law_2306 (by decide) ?_
  refine lv_iadd hx hb dL_law_2307 ?_
  refine va_sld hx hb hX hbl hbA hS v1 dL_law_2308 ?_
  refine lv_aload_n hx hb dL_law_2309 rfl (lv_at hl 3 rfl) ?_
  refine lv_iload_n hx hb dL_law_2310 rfl (lv_at hl 0 rfl) ?_
  refine lv_iconst (v := 2) hx hb dL_law_2311 (by decide) ?_
  refine lv_iadd hx hb dL_law_2312 ?_
  refine va_sld hx hb hX hbl hbA hS v2 dL_law_2313 ?_
  refine lx_drawn C0 hN hK hXI hl.1 (Nat.le_of_ble_eq_true rfl) hc0 dL_law_2314 hP hD hS (fun r_1 u_3 H locs hXI hp_2 hP hD hS => ?_)
  refine lv_pop hx hb dL_law_2317 rfl ?_
  refine lv_aload_n hx hb dL_law_2318 rfl (lv_at hl 1 rfl) ?_
  refine lv_aload_n hx hb dL_law_2319 rfl (lv_at hl 3 rfl) ?_
  refine lv_iload_n hx hb dL_law_2320 rfl (lv_at hl 0 rfl) ?_
  refine lv_iconst (v := 1) hx hb dL_law_2321 (by decide) ?_
  refine lv_iadd hx hb dL_law_2322 ?_
  refine va_sld hx hb hX hbl hbA hS v1 dL_law_2323 ?_
  refine lv_aload_n hx hb dL_law_2324 rfl (lv_at hl 3 rfl) ?_
  refine lv_iload_n hx hb dL_law_2325 rfl (lv_at hl 0 rfl) ?_
  refine lv_iconst (v := 2) hx hb dL_law_2326 (by decide) ?_
  refine lv_iadd hx hb dL_law_2327 ?_
  refine va_sld hx hb hX hbl hbA hS v2 dL_law_2328 ?_
  refine lm_drawn C0 hN hK hMI hl.1 (Nat.le_of_ble_eq_true rfl) hc0 dL_law_2329 hP hD hS (fun r_4 u_6 H locs hMI hp_5 hP hD hS => ?_)
  refine lv_pop hx hb dL_law_2332 rfl ?_
  refine lv_goto (tgt := 2660) hx hb dL_law_2333 (by decide) ?_
  refine W.widen (k := 200 + 9 * (n + 1)) (n := 10000 + 132 * (n + 1)) (by omega) (by omega) ?_
  refine lv_iinc (v := i + 6) (lv' := [(3, .int (i + 6)), (2, .ref (g 0)), (1, .ref (a 0)), (0, .ref b)]) hx hb dL_law_2660 hl (k := 0) rfl rfl (by decide) rfl (fun ls hl => ?_)
  refine lv_goto (tgt := 18) hx hb dL_law_2663 (by decide) ?_
  have hJ2 : JI (XSf u_3) (MSf u_6) := (by rw [hp_2, hp_5]; exact hJ)
  exact KK _ _ _ _ _ _ _ (i6F hi hn) hXI hMI hJ2 hP hD hS hl
set_option maxHeartbeats 8000000 in
set_option maxRecDepth 100000 in
theorem lw_case_78 {p : Program} {l : Launch} {e : Env} {s : State} {m : MethodId} {below : List Frame} {meth : Method} {c : Code} {b L : Nat} {xs : Nat → Int32} {dC : Nat → ClassId} {dI : Nat → Nat → Nat} {cB cI cJ cZ cL : ClassId} (C0 : lw_At p s m meth c b L xs) (hN : NW s) (hK : va_K (dC, dI) vwCl (tyL cB cI cJ cZ cL) s) {a g adK adV : Nat → Nat} (hV : SW adK adV (fun q : Nat => s.heap.size ≤ q) s s.heap) {n : Nat} {i : Int32} {u : XT} {v : MT} {T : va_W} (hn : n ≤ 511) (hi : Int32.toInt i = 6 * (n : Int)) (hiL : 6 * n + 6 ≤ L) (hXI : XI cB cI cJ cZ cL u T) (hMI : MI v) (hJ : JI (XSf u) (MSf v)) {H : Heap} {locs : List Loc} (hP : va_P (dC, dI) vwCl (WX a cB cI cJ cZ cL u ++ (WM g cB cI cJ cZ cL v ++ T)) H) (hD : va_D (fun q : Nat => s.heap.size ≤ q) (WX a cB cI cJ cZ cL u ++ (WM g cB cI cJ cZ cL v ++ T))) (hS : va_S (fun q : Nat => s.heap.size ≤ q) s.heap H locs) {ls : Array Slot} (hl : lv_has ls 4 [(3, .int i), (2, .ref (g 0)), (1, .ref (a 0)), (0, .ref b)]) (KK : ∀ (i : Int32) (u : XT) (v : MT) (T : va_W) (H : Heap) (locs : List Loc) (ls : Array Slot), Int32.toInt i = 6 * ((n + 1 : Nat) : Int) → XI cB cI cJ cZ cL u T → MI v → JI (XSf u) (MSf v) → va_P (dC, dI) vwCl (WX a cB cI cJ cZ cL u ++ (WM g cB cI cJ cZ cL v ++ T)) H → va_D (fun q : Nat => s.heap.size ≤ q) (WX a cB cI cJ cZ cL u ++ (WM g cB cI cJ cZ cL v ++ T)) → va_S (fun q : Nat => s.heap.size ≤ q) s.heap H locs → lv_has ls 4 [(3, .int i), (2, .ref (g 0)), (1, .ref (a 0)), (0, .ref b)] → W p l e room_1 s m #[Value.ref b] below meth c H locs (200 + 9 * (n + 1)) (10000 + 132 * (n + 1)) (lw_Z below #[Value.ref b] s) (F0 m 18 ls [])) : W p l e room_1 s m #[Value.ref b] below meth c H locs (200 + 9 * n) (10000 + 132 * n) (lw_Z below #[Value.ref b] s) (F0 m 2336 ls []) := by
  obtain ⟨hx, hb, hr, hml, hown, hts, hX, hbl, hlocks, hgv⟩ := id C0
  have ht : ∀ w ∈ lw_ok, w.before #[Value.ref b] s = true := fun w h => hts w (List.mem_filter.mp h).1
  have hbA : ¬ (fun q : Nat => s.heap.size ≤ q) b := Nat.not_le.mpr hbl
  have hc0 : 200 + 9 * n + 0 ≤ room_1.cells ∧ 10000 + 132 * n + 0 ≤ room_1.slots := ⟨by show 200 + 9 * n + 0 ≤ 600000; omega, by show 10000 + 132 * n + 0 ≤ 7302249; omega⟩
  have v1 : vp_in (i + 1) L := ijF hi hn hiL (by decide) (by decide)
  have v2 : vp_in (i + 2) L := ijF hi hn hiL (by decide) (by decide)
  have v3 : vp_in (i + 3) L := ijF hi hn hiL (by decide) (by decide)
  refine lv_aload_n hx hb dL_law_2336 rfl (lv_at hl 2 rfl) ?_
  refine lv_aload_n hx hb dL_law_2337 rfl (lv_at hl 3 rfl) ?_
  refine lv_iload_n hx hb dL_law_2338 rfl (lv_at hl 0 rfl) ?_
  refine lv_iconst (v := 1) hx hb dL_law_2339 (by decide) ?_
  refine lv_iadd hx hb dL_law_2340 ?_
  refine va_sld hx hb hX hbl hbA hS v1 dL_law_2341 ?_
  refine lv_aload_n hx hb dL_law_2342 rfl (lv_at hl 3 rfl) ?_
  refine lv_iload_n hx hb dL_law_2343 rfl (lv_at hl 0 rfl) ?_
  refine lv_iconst (v := 2) hx hb dL_law_2344 (by decide) ?_
  refine lv_iadd hx hb dL_law_2345 ?_
  refine va_sld hx hb hX hbl hbA hS v2 dL_law_2346 ?_
  refine lv_aload_n hx hb dL_law_2347 rfl (lv_at hl 3 rfl) ?_
  refine lv_iload_n hx hb dL_law_2348 rfl (lv_at hl 0 rfl) ?_
  refine lv_iconst (v := 3) hx hb dL_law_2349 (by decide) ?_
  refine lv_iadd hx hb dL_law_2350 ?_
  refine va_sld hx hb hX hbl hbA hS v3 dL_law_2351 ?_
  refine lx_luck C0 hN hK hXI hl.1 (Nat.le_of_ble_eq_true rfl) hc0 dL_law_2352 hP hD hS (fun r_1 u_3 H locs hXI hp_2 hP hD hS => ?_)
  refine lv_pop hx hb dL_law_2355 rfl ?_
  refine lv_aload_n hx hb dL_law_2356 rfl (lv_at hl 1 rfl) ?_
  refine lv_aload_n hx hb dL_law_2357 rfl (lv_at hl 3 rfl) ?_
  refine lv_iload_n hx hb dL_law_2358 rfl (lv_at hl 0 rfl) ?_
  refine lv_iconst (v := 1) hx hb dL_law_2359 (by decide) ?_
  refine lv_iadd hx hb dL_law_2360 ?_
  refine va_sld hx hb hX hbl hbA hS v1 dL_law_2361 ?_
  refine lv_aload_n hx hb dL_law_2362 rfl (lv_at hl 3 rfl) ?_
  refine lv_iload_n hx hb dL_law_2363 rfl (lv_at hl 0 rfl) ?_
  refine lv_iconst (v := 2) hx hb dL_law_2364 (by decide) ?_
  refine lv_iadd hx hb dL_law_2365 ?_
  refine va_sld hx hb hX hbl hbA hS v2 dL_law_2366 ?_
  refine lv_aload_n hx hb dL_law_2367 rfl (lv_at hl 3 rfl) ?_
  refine lv_iload_n hx hb dL_law_2368 rfl (lv_at hl 0 rfl) ?_
  refine lv_iconst (v := 3) hx hb dL_law_2369 (by decide) ?_
  refine lv_iadd hx hb dL_law_2370 ?_
  refine va_sld hx hb hX hbl hbA hS v3 dL_law_2371 ?_
  refine lm_luck C0 hN hK hMI hl.1 (Nat.le_of_ble_eq_true rfl) hc0 dL_law_2372 hP hD hS (fun r_4 u_6 H locs hMI hp_5 hP hD hS => ?_)
  refine lv_pop hx hb dL_law_2375 rfl ?_
  refine lv_goto (tgt := 2660) hx hb dL_law_2376 (by decide) ?_
  refine W.widen (k := 200 + 9 * (n + 1)) (n := 10000 + 132 * (n + 1)) (by omega) (by omega) ?_
  refine lv_iinc (v := i + 6) (lv' := [(3, .int (i + 6)), (2, .ref (g 0)), (1, .ref (a 0)), (0, .ref b)]) hx hb dL_law_2660 hl (k := 0) rfl rfl (by decide) rfl (fun ls hl => ?_)
  refine lv_goto (tgt := 18) hx hb dL_law_2663 (by decide) ?_
  have hJ2 : JI (XSf u_3) (MSf u_6) := (by rw [hp_2, hp_5]; exact hJ)
  exact KK _ _ _ _ _ _ _ (i6F hi hn) hXI hMI hJ2 hP hD hS hl
set_option maxHeartbeats 8000000 in
set_option maxRecDepth 100000 in
theorem lw_case_79 {p : Program} {l : Launch} {e : Env} {s : State} {m : MethodId} {below : List Frame} {meth : Method} {c : Code} {b L : Nat} {xs : Nat → Int32} {dC : Nat → ClassId} {dI : Nat → Nat → Nat} {cB cI cJ cZ cL : ClassId} (C0 : lw_At p s m meth c b L xs) (hN : NW s) (hK : va_K (dC, dI) vwCl (tyL cB cI cJ cZ cL) s) {a g adK adV : Nat → Nat} (hV : SW adK adV (fun q : Nat => s.heap.size ≤ q) s s.heap) {n : Nat} {i : Int32} {u : XT} {v : MT} {T : va_W} (hn : n ≤ 511) (hi : Int32.toInt i = 6 * (n : Int)) (hiL : 6 * n + 6 ≤ L) (hXI : XI cB cI cJ cZ cL u T) (hMI : MI v) (hJ : JI (XSf u) (MSf v)) {H : Heap} {locs : List Loc} (hP : va_P (dC, dI) vwCl (WX a cB cI cJ cZ cL u ++ (WM g cB cI cJ cZ cL v ++ T)) H) (hD : va_D (fun q : Nat => s.heap.size ≤ q) (WX a cB cI cJ cZ cL u ++ (WM g cB cI cJ cZ cL v ++ T))) (hS : va_S (fun q : Nat => s.heap.size ≤ q) s.heap H locs) {ls : Array Slot} (hl : lv_has ls 4 [(3, .int i), (2, .ref (g 0)), (1, .ref (a 0)), (0, .ref b)]) (KK : ∀ (i : Int32) (u : XT) (v : MT) (T : va_W) (H : Heap) (locs : List Loc) (ls : Array Slot), Int32.toInt i = 6 * ((n + 1 : Nat) : Int) → XI cB cI cJ cZ cL u T → MI v → JI (XSf u) (MSf v) → va_P (dC, dI) vwCl (WX a cB cI cJ cZ cL u ++ (WM g cB cI cJ cZ cL v ++ T)) H → va_D (fun q : Nat => s.heap.size ≤ q) (WX a cB cI cJ cZ cL u ++ (WM g cB cI cJ cZ cL v ++ T)) → va_S (fun q : Nat => s.heap.size ≤ q) s.heap H locs → lv_has ls 4 [(3, .int i), (2, .ref (g 0)), (1, .ref (a 0)), (0, .ref b)] → W p l e room_1 s m #[Value.ref b] below meth c H locs (200 + 9 * (n + 1)) (10000 + 132 * (n + 1)) (lw_Z below #[Value.ref b] s) (F0 m 18 ls [])) : W p l e room_1 s m #[Value.ref b] below meth c H locs (200 + 9 * n) (10000 + 132 * n) (lw_Z below #[Value.ref b] s) (F0 m 2379 ls []) := by
  obtain ⟨hx, hb, hr, hml, hown, hts, hX, hbl, hlocks, hgv⟩ := id C0
  have ht : ∀ w ∈ lw_ok, w.before #[Value.ref b] s = true := fun w h => hts w (List.mem_filter.mp h).1
  have hbA : ¬ (fun q : Nat => s.heap.size ≤ q) b := Nat.not_le.mpr hbl
  have hc0 : 200 + 9 * n + 0 ≤ room_1.cells ∧ 10000 + 132 * n + 0 ≤ room_1.slots := ⟨by show 200 + 9 * n + 0 ≤ 600000; omega, by show 10000 + 132 * n + 0 ≤ 7302249; omega⟩
  have v1 : vp_in (i + 1) L := ijF hi hn hiL (by decide) (by decide)
  have v2 : vp_in (i + 2) L := ijF hi hn hiL (by decide) (by decide)
  refine lv_aload_n hx hb dL_law_2379 rfl (lv_at hl 2 rfl) ?_
  refine lv_aload_n hx hb dL_law_2380 rfl (lv_at hl 3 rfl) ?_
  refine lv_iload_n hx hb dL_law_2381 rfl (lv_at hl 0 rfl) ?_
  refine lv_iconst (v := 1) hx hb dL_law_2382 (by decide) ?_
  refine lv_iadd hx hb dL_law_2383 ?_
  refine va_sld hx hb hX hbl hbA hS v1 dL_law_2384 ?_
  refine lv_aload_n hx hb dL_law_2385 rfl (lv_at hl 3 rfl) ?_
  refine lv_iload_n hx hb dL_law_2386 rfl (lv_at hl 0 rfl) ?_
  refine lv_iconst (v := 2) hx hb dL_law_2387 (by decide) ?_
  refine lv_iadd hx hb dL_law_2388 ?_
  refine va_sld hx hb hX hbl hbA hS v2 dL_law_2389 ?_
  refine lx_rate C0 hN hK hXI hl.1 (Nat.le_of_ble_eq_true rfl) hc0 dL_law_2390 hP hD hS (fun r_1 u_3 H locs hXI hp_2 hP hD hS => ?_)
  refine lv_pop hx hb dL_law_2393 rfl ?_
  refine lv_aload_n hx hb dL_law_2394 rfl (lv_at hl 1 rfl) ?_
  refine lv_aload_n hx hb dL_law_2395 rfl (lv_at hl 3 rfl) ?_
  refine lv_iload_n hx hb dL_law_2396 rfl (lv_at hl 0 rfl) ?_
  refine lv_iconst (v := 1) hx hb dL_law_2397 (by decide) ?_
  refine lv_iadd hx hb dL_law_2398 ?_
  refine va_sld hx hb hX hbl hbA hS v1 dL_law_2399 ?_
  refine lv_aload_n hx hb dL_law_2400 rfl (lv_at hl 3 rfl) ?_
  refine lv_iload_n hx hb dL_law_2401 rfl (lv_at hl 0 rfl) ?_
  refine lv_iconst (v := 2) hx hb dL_law_2402 (by decide) ?_
  refine lv_iadd hx hb dL_law_2403 ?_
  refine va_sld hx hb hX hbl hbA hS v2 dL_law_2404 ?_
  refine lm_rate C0 hN hK hMI hl.1 (Nat.le_of_ble_eq_true rfl) hc0 dL_law_2405 hP hD hS (fun r_4 u_6 H locs hMI hp_5 hP hD hS => ?_)
  refine lv_pop hx hb dL_law_2408 rfl ?_
  refine lv_goto (tgt := 2660) hx hb dL_law_2409 (by decide) ?_
  refine W.widen (k := 200 + 9 * (n + 1)) (n := 10000 + 132 * (n + 1)) (by omega) (by omega) ?_
  refine lv_iinc (v := i + 6) (lv' := [(3, .int (i + 6)), (2, .ref (g 0)), (1, .ref (a 0)), (0, .ref b)]) hx hb dL_law_2660 hl (k := 0) rfl rfl (by decide) rfl (fun ls hl => ?_)
  refine lv_goto (tgt := 18) hx hb dL_law_2663 (by decide) ?_
  have hJ2 : JI (XSf u_3) (MSf u_6) := (by rw [hp_2, hp_5]; exact hJ)
  exact KK _ _ _ _ _ _ _ (i6F hi hn) hXI hMI hJ2 hP hD hS hl
set_option maxHeartbeats 8000000 in
set_option maxRecDepth 100000 in
theorem lw_case_80 {p : Program} {l : Launch} {e : Env} {s : State} {m : MethodId} {below : List Frame} {meth : Method} {c : Code} {b L : Nat} {xs : Nat → Int32} {dC : Nat → ClassId} {dI : Nat → Nat → Nat} {cB cI cJ cZ cL : ClassId} (C0 : lw_At p s m meth c b L xs) (hN : NW s) (hK : va_K (dC, dI) vwCl (tyL cB cI cJ cZ cL) s) {a g adK adV : Nat → Nat} (hV : SW adK adV (fun q : Nat => s.heap.size ≤ q) s s.heap) {n : Nat} {i : Int32} {u : XT} {v : MT} {T : va_W} (hn : n ≤ 511) (hi : Int32.toInt i = 6 * (n : Int)) (hiL : 6 * n + 6 ≤ L) (hXI : XI cB cI cJ cZ cL u T) (hMI : MI v) (hJ : JI (XSf u) (MSf v)) {H : Heap} {locs : List Loc} (hP : va_P (dC, dI) vwCl (WX a cB cI cJ cZ cL u ++ (WM g cB cI cJ cZ cL v ++ T)) H) (hD : va_D (fun q : Nat => s.heap.size ≤ q) (WX a cB cI cJ cZ cL u ++ (WM g cB cI cJ cZ cL v ++ T))) (hS : va_S (fun q : Nat => s.heap.size ≤ q) s.heap H locs) {ls : Array Slot} (hl : lv_has ls 4 [(3, .int i), (2, .ref (g 0)), (1, .ref (a 0)), (0, .ref b)]) (KK : ∀ (i : Int32) (u : XT) (v : MT) (T : va_W) (H : Heap) (locs : List Loc) (ls : Array Slot), Int32.toInt i = 6 * ((n + 1 : Nat) : Int) → XI cB cI cJ cZ cL u T → MI v → JI (XSf u) (MSf v) → va_P (dC, dI) vwCl (WX a cB cI cJ cZ cL u ++ (WM g cB cI cJ cZ cL v ++ T)) H → va_D (fun q : Nat => s.heap.size ≤ q) (WX a cB cI cJ cZ cL u ++ (WM g cB cI cJ cZ cL v ++ T)) → va_S (fun q : Nat => s.heap.size ≤ q) s.heap H locs → lv_has ls 4 [(3, .int i), (2, .ref (g 0)), (1, .ref (a 0)), (0, .ref b)] → W p l e room_1 s m #[Value.ref b] below meth c H locs (200 + 9 * (n + 1)) (10000 + 132 * (n + 1)) (lw_Z below #[Value.ref b] s) (F0 m 18 ls [])) : W p l e room_1 s m #[Value.ref b] below meth c H locs (200 + 9 * n) (10000 + 132 * n) (lw_Z below #[Value.ref b] s) (F0 m 2412 ls []) := by
  obtain ⟨hx, hb, hr, hml, hown, hts, hX, hbl, hlocks, hgv⟩ := id C0
  have ht : ∀ w ∈ lw_ok, w.before #[Value.ref b] s = true := fun w h => hts w (List.mem_filter.mp h).1
  have hbA : ¬ (fun q : Nat => s.heap.size ≤ q) b := Nat.not_le.mpr hbl
  have hc0 : 200 + 9 * n + 0 ≤ room_1.cells ∧ 10000 + 132 * n + 0 ≤ room_1.slots := ⟨by show 200 + 9 * n + 0 ≤ 600000; omega, by show 10000 + 132 * n + 0 ≤ 7302249; omega⟩
  have v1 : vp_in (i + 1) L := ijF hi hn hiL (by decide) (by decide)
  refine lv_aload_n hx hb dL_law_2412 rfl (lv_at hl 2 rfl) ?_
  refine lv_aload_n hx hb dL_law_2413 rfl (lv_at hl 3 rfl) ?_
  refine lv_iload_n hx hb dL_law_2414 rfl (lv_at hl 0 rfl) ?_
  refine lv_iconst (v := 1) hx hb dL_law_2415 (by decide) ?_
  refine lv_iadd hx hb dL_law_2416 ?_
  refine va_sld hx hb hX hbl hbA hS v1 dL_law_2417 ?_
  refine lx_count C0 hN hK hXI hl.1 (Nat.le_of_ble_eq_true rfl) hc0 dL_law_2418 hP hD hS (fun r_1 u_3 H locs hXI hp_2 hP hD hS => ?_)
  refine lv_pop hx hb dL_law_2421 rfl ?_
  refine lv_aload_n hx hb dL_law_2422 rfl (lv_at hl 1 rfl) ?_
  refine lv_aload_n hx hb dL_law_2423 rfl (lv_at hl 3 rfl) ?_
  refine lv_iload_n hx hb dL_law_2424 rfl (lv_at hl 0 rfl) ?_
  refine lv_iconst (v := 1) hx hb dL_law_2425 (by decide) ?_
  refine lv_iadd hx hb dL_law_2426 ?_
  refine va_sld hx hb hX hbl hbA hS v1 dL_law_2427 ?_
  refine lm_count C0 hN hK hMI hl.1 (Nat.le_of_ble_eq_true rfl) hc0 dL_law_2428 hP hD hS (fun r_4 u_6 H locs hMI hp_5 hP hD hS => ?_)
  refine lv_pop hx hb dL_law_2431 rfl ?_
  refine lv_goto (tgt := 2660) hx hb dL_law_2432 (by decide) ?_
  refine W.widen (k := 200 + 9 * (n + 1)) (n := 10000 + 132 * (n + 1)) (by omega) (by omega) ?_
  refine lv_iinc (v := i + 6) (lv' := [(3, .int (i + 6)), (2, .ref (g 0)), (1, .ref (a 0)), (0, .ref b)]) hx hb dL_law_2660 hl (k := 0) rfl rfl (by decide) rfl (fun ls hl => ?_)
  refine lv_goto (tgt := 18) hx hb dL_law_2663 (by decide) ?_
  have hJ2 : JI (XSf u_3) (MSf u_6) := (by rw [hp_2, hp_5]; exact hJ)
  exact KK _ _ _ _ _ _ _ (i6F hi hn) hXI hMI hJ2 hP hD hS hl
set_option maxHeartbeats 8000000 in
set_option maxRecDepth 100000 in
theorem lw_case_81 {p : Program} {l : Launch} {e : Env} {s : State} {m : MethodId} {below : List Frame} {meth : Method} {c : Code} {b L : Nat} {xs : Nat → Int32} {dC : Nat → ClassId} {dI : Nat → Nat → Nat} {cB cI cJ cZ cL : ClassId} (C0 : lw_At p s m meth c b L xs) (hN : NW s) (hK : va_K (dC, dI) vwCl (tyL cB cI cJ cZ cL) s) {a g adK adV : Nat → Nat} (hV : SW adK adV (fun q : Nat => s.heap.size ≤ q) s s.heap) {n : Nat} {i : Int32} {u : XT} {v : MT} {T : va_W} (hn : n ≤ 511) (hi : Int32.toInt i = 6 * (n : Int)) (hiL : 6 * n + 6 ≤ L) (hXI : XI cB cI cJ cZ cL u T) (hMI : MI v) (hJ : JI (XSf u) (MSf v)) {H : Heap} {locs : List Loc} (hP : va_P (dC, dI) vwCl (WX a cB cI cJ cZ cL u ++ (WM g cB cI cJ cZ cL v ++ T)) H) (hD : va_D (fun q : Nat => s.heap.size ≤ q) (WX a cB cI cJ cZ cL u ++ (WM g cB cI cJ cZ cL v ++ T))) (hS : va_S (fun q : Nat => s.heap.size ≤ q) s.heap H locs) {ls : Array Slot} (hl : lv_has ls 4 [(3, .int i), (2, .ref (g 0)), (1, .ref (a 0)), (0, .ref b)]) (KK : ∀ (i : Int32) (u : XT) (v : MT) (T : va_W) (H : Heap) (locs : List Loc) (ls : Array Slot), Int32.toInt i = 6 * ((n + 1 : Nat) : Int) → XI cB cI cJ cZ cL u T → MI v → JI (XSf u) (MSf v) → va_P (dC, dI) vwCl (WX a cB cI cJ cZ cL u ++ (WM g cB cI cJ cZ cL v ++ T)) H → va_D (fun q : Nat => s.heap.size ≤ q) (WX a cB cI cJ cZ cL u ++ (WM g cB cI cJ cZ cL v ++ T)) → va_S (fun q : Nat => s.heap.size ≤ q) s.heap H locs → lv_has ls 4 [(3, .int i), (2, .ref (g 0)), (1, .ref (a 0)), (0, .ref b)] → W p l e room_1 s m #[Value.ref b] below meth c H locs (200 + 9 * (n + 1)) (10000 + 132 * (n + 1)) (lw_Z below #[Value.ref b] s) (F0 m 18 ls [])) : W p l e room_1 s m #[Value.ref b] below meth c H locs (200 + 9 * n) (10000 + 132 * n) (lw_Z below #[Value.ref b] s) (F0 m 2435 ls []) := by
  obtain ⟨hx, hb, hr, hml, hown, hts, hX, hbl, hlocks, hgv⟩ := id C0
  have ht : ∀ w ∈ lw_ok, w.before #[Value.ref b] s = true := fun w h => hts w (List.mem_filter.mp h).1
  have hbA : ¬ (fun q : Nat => s.heap.size ≤ q) b := Nat.not_le.mpr hbl
  have hc0 : 200 + 9 * n + 0 ≤ room_1.cells ∧ 10000 + 132 * n + 0 ≤ room_1.slots := ⟨by show 200 + 9 * n + 0 ≤ 600000; omega, by show 10000 + 132 * n + 0 ≤ 7302249; omega⟩
  have hc9 : 200 + 9 * n + 9 ≤ room_1.cells ∧ 10000 + 132 * n + 132 ≤ room_1.slots := ⟨by show 200 + 9 * n + 9 ≤ 600000; omega, by show 10000 + 132 * n + 132 ≤ 7302249; omega⟩
  have v1 : vp_in (i + 1) L := ijF hi hn hiL (by decide) (by decide)
  refine lv_aload_n hx hb dL_law_2435 rfl (lv_at hl 2 rfl) ?_
  refine lv_aload_n hx hb dL_law_2436 rfl (lv_at hl 3 rfl) ?_
  refine lv_iload_n hx hb dL_law_2437 rfl (lv_at hl 0 rfl) ?_
  refine lv_iconst (v := 1) hx hb dL_law_2438 (by decide) ?_
  refine lv_iadd hx hb dL_law_2439 ?_
  refine va_sld hx hb hX hbl hbA hS v1 dL_law_2440 ?_
  refine lx_image C0 hN hK hXI hl.1 (Nat.le_of_ble_eq_true rfl) hc9 dL_law_2441 hP hD hS (fun r_1 u_3 T H locs hXI hp_2 hP hD hS => ?_)
  refine lv_aload_n hx hb dL_law_2444 rfl (lv_at hl 1 rfl) ?_
  refine lv_aload_n hx hb dL_law_2445 rfl (lv_at hl 3 rfl) ?_
  refine lv_iload_n hx hb dL_law_2446 rfl (lv_at hl 0 rfl) ?_
  refine lv_iconst (v := 1) hx hb dL_law_2447 (by decide) ?_
  refine lv_iadd hx hb dL_law_2448 ?_
  refine va_sld hx hb hX hbl hbA hS v1 dL_law_2449 ?_
  refine lm_image C0 hN hK hMI hl.1 (Nat.le_of_ble_eq_true rfl) hc9 dL_law_2450 hP hD hS (fun r_4 u_6 H locs hMI hp_5 hP hD hS => ?_)
  refine lv_icmp_eq (tgt := 2660) hx hb dL_law_2453 (by decide) (fun _ => ?_) (fun c9 => absurd (PImg_fn hp_2.2.2.1 hp_5.2.2.1) c9)
  refine W.widen (k := 200 + 9 * (n + 1)) (n := 10000 + 132 * (n + 1)) (by omega) (by omega) ?_
  refine lv_iinc (v := i + 6) (lv' := [(3, .int (i + 6)), (2, .ref (g 0)), (1, .ref (a 0)), (0, .ref b)]) hx hb dL_law_2660 hl (k := 0) rfl rfl (by decide) rfl (fun ls hl => ?_)
  refine lv_goto (tgt := 18) hx hb dL_law_2663 (by decide) ?_
  have hJ2 : JI (XSf u_3) (MSf u_6) := ⟨by rw [hp_2.1, hp_2.2.1, hp_5.1, hp_5.2.1]; exact hJ.1, KIR_image hJ.2 hp_2.2.2.2 hp_5.2.2.2⟩
  exact KK _ _ _ _ _ _ _ (i6F hi hn) hXI hMI hJ2 hP hD hS hl
set_option maxHeartbeats 8000000 in
set_option maxRecDepth 100000 in
theorem lw_case_82 {p : Program} {l : Launch} {e : Env} {s : State} {m : MethodId} {below : List Frame} {meth : Method} {c : Code} {b L : Nat} {xs : Nat → Int32} {dC : Nat → ClassId} {dI : Nat → Nat → Nat} {cB cI cJ cZ cL : ClassId} (C0 : lw_At p s m meth c b L xs) (hN : NW s) (hK : va_K (dC, dI) vwCl (tyL cB cI cJ cZ cL) s) {a g adK adV : Nat → Nat} (hV : SW adK adV (fun q : Nat => s.heap.size ≤ q) s s.heap) {n : Nat} {i : Int32} {u : XT} {v : MT} {T : va_W} (hn : n ≤ 511) (hi : Int32.toInt i = 6 * (n : Int)) (hiL : 6 * n + 6 ≤ L) (hXI : XI cB cI cJ cZ cL u T) (hMI : MI v) (hJ : JI (XSf u) (MSf v)) {H : Heap} {locs : List Loc} (hP : va_P (dC, dI) vwCl (WX a cB cI cJ cZ cL u ++ (WM g cB cI cJ cZ cL v ++ T)) H) (hD : va_D (fun q : Nat => s.heap.size ≤ q) (WX a cB cI cJ cZ cL u ++ (WM g cB cI cJ cZ cL v ++ T))) (hS : va_S (fun q : Nat => s.heap.size ≤ q) s.heap H locs) {ls : Array Slot} (hl : lv_has ls 4 [(3, .int i), (2, .ref (g 0)), (1, .ref (a 0)), (0, .ref b)]) (KK : ∀ (i : Int32) (u : XT) (v : MT) (T : va_W) (H : Heap) (locs : List Loc) (ls : Array Slot), Int32.toInt i = 6 * ((n + 1 : Nat) : Int) → XI cB cI cJ cZ cL u T → MI v → JI (XSf u) (MSf v) → va_P (dC, dI) vwCl (WX a cB cI cJ cZ cL u ++ (WM g cB cI cJ cZ cL v ++ T)) H → va_D (fun q : Nat => s.heap.size ≤ q) (WX a cB cI cJ cZ cL u ++ (WM g cB cI cJ cZ cL v ++ T)) → va_S (fun q : Nat => s.heap.size ≤ q) s.heap H locs → lv_has ls 4 [(3, .int i), (2, .ref (g 0)), (1, .ref (a 0)), (0, .ref b)] → W p l e room_1 s m #[Value.ref b] below meth c H locs (200 + 9 * (n + 1)) (10000 + 132 * (n + 1)) (lw_Z below #[Value.ref b] s) (F0 m 18 ls [])) : W p l e room_1 s m #[Value.ref b] below meth c H locs (200 + 9 * n) (10000 + 132 * n) (lw_Z below #[Value.ref b] s) (F0 m 2458 ls []) := by
  obtain ⟨hx, hb, hr, hml, hown, hts, hX, hbl, hlocks, hgv⟩ := id C0
  have ht : ∀ w ∈ lw_ok, w.before #[Value.ref b] s = true := fun w h => hts w (List.mem_filter.mp h).1
  have hbA : ¬ (fun q : Nat => s.heap.size ≤ q) b := Nat.not_le.mpr hbl
  have hc0 : 200 + 9 * n + 0 ≤ room_1.cells ∧ 10000 + 132 * n + 0 ≤ room_1.slots := ⟨by show 200 + 9 * n + 0 ≤ 600000; omega, by show 10000 + 132 * n + 0 ≤ 7302249; omega⟩
  have v1 : vp_in (i + 1) L := ijF hi hn hiL (by decide) (by decide)
  refine lv_aload_n hx hb dL_law_2458 rfl (lv_at hl 2 rfl) ?_
  refine lv_aload_n hx hb dL_law_2459 rfl (lv_at hl 3 rfl) ?_
  refine lv_iload_n hx hb dL_law_2460 rfl (lv_at hl 0 rfl) ?_
  refine lv_iconst (v := 1) hx hb dL_law_2461 (by decide) ?_
  refine lv_iadd hx hb dL_law_2462 ?_
  refine va_sld hx hb hX hbl hbA hS v1 dL_law_2463 ?_
  refine lx_back C0 hN hK hXI hl.1 (Nat.le_of_ble_eq_true rfl) hc0 dL_law_2464 hP hD hS (fun r_1 u_3 T H locs hXI hp_2 hP hD hS => ?_)
  refine lv_pop hx hb dL_law_2467 rfl ?_
  refine lv_aload_n hx hb dL_law_2468 rfl (lv_at hl 1 rfl) ?_
  refine lv_aload_n hx hb dL_law_2469 rfl (lv_at hl 3 rfl) ?_
  refine lv_iload_n hx hb dL_law_2470 rfl (lv_at hl 0 rfl) ?_
  refine lv_iconst (v := 1) hx hb dL_law_2471 (by decide) ?_
  refine lv_iadd hx hb dL_law_2472 ?_
  refine va_sld hx hb hX hbl hbA hS v1 dL_law_2473 ?_
  refine lm_back C0 hN hK hMI hl.1 (Nat.le_of_ble_eq_true rfl) hc0 dL_law_2474 hP hD hS (fun r_4 u_6 H locs hMI hp_5 hP hD hS => ?_)
  refine lv_pop hx hb dL_law_2477 rfl ?_
  refine lv_goto (tgt := 2660) hx hb dL_law_2478 (by decide) ?_
  refine W.widen (k := 200 + 9 * (n + 1)) (n := 10000 + 132 * (n + 1)) (by omega) (by omega) ?_
  refine lv_iinc (v := i + 6) (lv' := [(3, .int (i + 6)), (2, .ref (g 0)), (1, .ref (a 0)), (0, .ref b)]) hx hb dL_law_2660 hl (k := 0) rfl rfl (by decide) rfl (fun ls hl => ?_)
  refine lv_goto (tgt := 18) hx hb dL_law_2663 (by decide) ?_
  have hJ2 : JI (XSf u_3) (MSf u_6) := (by rw [hp_2.1, hp_5.1]; exact hJ)
  exact KK _ _ _ _ _ _ _ (i6F hi hn) hXI hMI hJ2 hP hD hS hl
set_option maxHeartbeats 8000000 in
set_option maxRecDepth 100000 in
theorem lw_case_83 {p : Program} {l : Launch} {e : Env} {s : State} {m : MethodId} {below : List Frame} {meth : Method} {c : Code} {b L : Nat} {xs : Nat → Int32} {dC : Nat → ClassId} {dI : Nat → Nat → Nat} {cB cI cJ cZ cL : ClassId} (C0 : lw_At p s m meth c b L xs) (hN : NW s) (hK : va_K (dC, dI) vwCl (tyL cB cI cJ cZ cL) s) {a g adK adV : Nat → Nat} (hV : SW adK adV (fun q : Nat => s.heap.size ≤ q) s s.heap) {n : Nat} {i : Int32} {u : XT} {v : MT} {T : va_W} (hn : n ≤ 511) (hi : Int32.toInt i = 6 * (n : Int)) (hiL : 6 * n + 6 ≤ L) (hXI : XI cB cI cJ cZ cL u T) (hMI : MI v) (hJ : JI (XSf u) (MSf v)) {H : Heap} {locs : List Loc} (hP : va_P (dC, dI) vwCl (WX a cB cI cJ cZ cL u ++ (WM g cB cI cJ cZ cL v ++ T)) H) (hD : va_D (fun q : Nat => s.heap.size ≤ q) (WX a cB cI cJ cZ cL u ++ (WM g cB cI cJ cZ cL v ++ T))) (hS : va_S (fun q : Nat => s.heap.size ≤ q) s.heap H locs) {ls : Array Slot} (hl : lv_has ls 4 [(3, .int i), (2, .ref (g 0)), (1, .ref (a 0)), (0, .ref b)]) (KK : ∀ (i : Int32) (u : XT) (v : MT) (T : va_W) (H : Heap) (locs : List Loc) (ls : Array Slot), Int32.toInt i = 6 * ((n + 1 : Nat) : Int) → XI cB cI cJ cZ cL u T → MI v → JI (XSf u) (MSf v) → va_P (dC, dI) vwCl (WX a cB cI cJ cZ cL u ++ (WM g cB cI cJ cZ cL v ++ T)) H → va_D (fun q : Nat => s.heap.size ≤ q) (WX a cB cI cJ cZ cL u ++ (WM g cB cI cJ cZ cL v ++ T)) → va_S (fun q : Nat => s.heap.size ≤ q) s.heap H locs → lv_has ls 4 [(3, .int i), (2, .ref (g 0)), (1, .ref (a 0)), (0, .ref b)] → W p l e room_1 s m #[Value.ref b] below meth c H locs (200 + 9 * (n + 1)) (10000 + 132 * (n + 1)) (lw_Z below #[Value.ref b] s) (F0 m 18 ls [])) : W p l e room_1 s m #[Value.ref b] below meth c H locs (200 + 9 * n) (10000 + 132 * n) (lw_Z below #[Value.ref b] s) (F0 m 2481 ls []) := by
  obtain ⟨hx, hb, hr, hml, hown, hts, hX, hbl, hlocks, hgv⟩ := id C0
  have ht : ∀ w ∈ lw_ok, w.before #[Value.ref b] s = true := fun w h => hts w (List.mem_filter.mp h).1
  have hbA : ¬ (fun q : Nat => s.heap.size ≤ q) b := Nat.not_le.mpr hbl
  have hc0 : 200 + 9 * n + 0 ≤ room_1.cells ∧ 10000 + 132 * n + 0 ≤ room_1.slots := ⟨by show 200 + 9 * n + 0 ≤ 600000; omega, by show 10000 + 132 * n + 0 ≤ 7302249; omega⟩
  have v1 : vp_in (i + 1) L := ijF hi hn hiL (by decide) (by decide)
  have v2 : vp_in (i + 2) L := ijF hi hn hiL (by decide) (by decide)
  have v3 : vp_in (i + 3) L := ijF hi hn hiL (by decide) (by decide)
  refine lv_aload_n hx hb dL_law_2481 rfl (lv_at hl 2 rfl) ?_
  refine lv_aload_n hx hb dL_law_2482 rfl (lv_at hl 3 rfl) ?_
  refine lv_iload_n hx hb dL_law_2483 rfl (lv_at hl 0 rfl) ?_
  refine lv_iconst (v := 1) hx hb dL_law_2484 (by decide) ?_
  refine lv_iadd hx hb dL_law_2485 ?_
  refine va_sld hx hb hX hbl hbA hS v1 dL_law_2486 ?_
  refine lv_aload_n hx hb dL_law_2487 rfl (lv_at hl 3 rfl) ?_
  refine lv_iload_n hx hb dL_law_2488 rfl (lv_at hl 0 rfl) ?_
  refine lv_iconst (v := 2) hx hb dL_law_2489 (by decide) ?_
  refine lv_iadd hx hb dL_law_2490 ?_
  refine va_sld hx hb hX hbl hbA hS v2 dL_law_2491 ?_
  refine lv_aload_n hx hb dL_law_2492 rfl (lv_at hl 3 rfl) ?_
  refine lv_iload_n hx hb dL_law_2493 rfl (lv_at hl 0 rfl) ?_
  refine lv_iconst (v := 3) hx hb dL_law_2494 (by decide) ?_
  refine lv_iadd hx hb dL_law_2495 ?_
  refine va_sld hx hb hX hbl hbA hS v3 dL_law_2496 ?_
  refine lx_row C0 hN hK hXI hl.1 (Nat.le_of_ble_eq_true rfl) hc0 dL_law_2497 hP hD hS (fun r_1 u_3 H locs hXI hp_2 hP hD hS => ?_)
  refine lv_pop hx hb dL_law_2500 rfl ?_
  refine lv_aload_n hx hb dL_law_2501 rfl (lv_at hl 1 rfl) ?_
  refine lv_aload_n hx hb dL_law_2502 rfl (lv_at hl 3 rfl) ?_
  refine lv_iload_n hx hb dL_law_2503 rfl (lv_at hl 0 rfl) ?_
  refine lv_iconst (v := 1) hx hb dL_law_2504 (by decide) ?_
  refine lv_iadd hx hb dL_law_2505 ?_
  refine va_sld hx hb hX hbl hbA hS v1 dL_law_2506 ?_
  refine lv_aload_n hx hb dL_law_2507 rfl (lv_at hl 3 rfl) ?_
  refine lv_iload_n hx hb dL_law_2508 rfl (lv_at hl 0 rfl) ?_
  refine lv_iconst (v := 2) hx hb dL_law_2509 (by decide) ?_
  refine lv_iadd hx hb dL_law_2510 ?_
  refine va_sld hx hb hX hbl hbA hS v2 dL_law_2511 ?_
  refine lv_aload_n hx hb dL_law_2512 rfl (lv_at hl 3 rfl) ?_
  refine lv_iload_n hx hb dL_law_2513 rfl (lv_at hl 0 rfl) ?_
  refine lv_iconst (v := 3) hx hb dL_law_2514 (by decide) ?_
  refine lv_iadd hx hb dL_law_2515 ?_
  refine va_sld hx hb hX hbl hbA hS v3 dL_law_2516 ?_
  refine lm_row C0 hN hK hMI hl.1 (Nat.le_of_ble_eq_true rfl) hc0 dL_law_2517 hP hD hS (fun r_4 u_6 H locs hMI hp_5 hP hD hS => ?_)
  refine lv_pop hx hb dL_law_2520 rfl ?_
  refine lv_goto (tgt := 2660) hx hb dL_law_2521 (by decide) ?_
  refine W.widen (k := 200 + 9 * (n + 1)) (n := 10000 + 132 * (n + 1)) (by omega) (by omega) ?_
  refine lv_iinc (v := i + 6) (lv' := [(3, .int (i + 6)), (2, .ref (g 0)), (1, .ref (a 0)), (0, .ref b)]) hx hb dL_law_2660 hl (k := 0) rfl rfl (by decide) rfl (fun ls hl => ?_)
  refine lv_goto (tgt := 18) hx hb dL_law_2663 (by decide) ?_
  have hJ2 : JI (XSf u_3) (MSf u_6) := ⟨SLR_row hJ.1 hp_2.1 hp_5.1 hp_2.2.1 hp_2.2.2.1 hp_5.2.1 hp_5.2.2.1, by rw [hp_2.2.2.2, hp_5.2.2.2]; exact hJ.2⟩
  exact KK _ _ _ _ _ _ _ (i6F hi hn) hXI hMI hJ2 hP hD hS hl
set_option maxHeartbeats 8000000 in
set_option maxRecDepth 100000 in
theorem lw_case_84 {p : Program} {l : Launch} {e : Env} {s : State} {m : MethodId} {below : List Frame} {meth : Method} {c : Code} {b L : Nat} {xs : Nat → Int32} {dC : Nat → ClassId} {dI : Nat → Nat → Nat} {cB cI cJ cZ cL : ClassId} (C0 : lw_At p s m meth c b L xs) (hN : NW s) (hK : va_K (dC, dI) vwCl (tyL cB cI cJ cZ cL) s) {a g adK adV : Nat → Nat} (hV : SW adK adV (fun q : Nat => s.heap.size ≤ q) s s.heap) {n : Nat} {i : Int32} {u : XT} {v : MT} {T : va_W} (hn : n ≤ 511) (hi : Int32.toInt i = 6 * (n : Int)) (hiL : 6 * n + 6 ≤ L) (hXI : XI cB cI cJ cZ cL u T) (hMI : MI v) (hJ : JI (XSf u) (MSf v)) {H : Heap} {locs : List Loc} (hP : va_P (dC, dI) vwCl (WX a cB cI cJ cZ cL u ++ (WM g cB cI cJ cZ cL v ++ T)) H) (hD : va_D (fun q : Nat => s.heap.size ≤ q) (WX a cB cI cJ cZ cL u ++ (WM g cB cI cJ cZ cL v ++ T))) (hS : va_S (fun q : Nat => s.heap.size ≤ q) s.heap H locs) {ls : Array Slot} (hl : lv_has ls 4 [(3, .int i), (2, .ref (g 0)), (1, .ref (a 0)), (0, .ref b)]) (KK : ∀ (i : Int32) (u : XT) (v : MT) (T : va_W) (H : Heap) (locs : List Loc) (ls : Array Slot), Int32.toInt i = 6 * ((n + 1 : Nat) : Int) → XI cB cI cJ cZ cL u T → MI v → JI (XSf u) (MSf v) → va_P (dC, dI) vwCl (WX a cB cI cJ cZ cL u ++ (WM g cB cI cJ cZ cL v ++ T)) H → va_D (fun q : Nat => s.heap.size ≤ q) (WX a cB cI cJ cZ cL u ++ (WM g cB cI cJ cZ cL v ++ T)) → va_S (fun q : Nat => s.heap.size ≤ q) s.heap H locs → lv_has ls 4 [(3, .int i), (2, .ref (g 0)), (1, .ref (a 0)), (0, .ref b)] → W p l e room_1 s m #[Value.ref b] below meth c H locs (200 + 9 * (n + 1)) (10000 + 132 * (n + 1)) (lw_Z below #[Value.ref b] s) (F0 m 18 ls [])) : W p l e room_1 s m #[Value.ref b] below meth c H locs (200 + 9 * n) (10000 + 132 * n) (lw_Z below #[Value.ref b] s) (F0 m 2524 ls []) := by
  obtain ⟨hx, hb, hr, hml, hown, hts, hX, hbl, hlocks, hgv⟩ := id C0
  have ht : ∀ w ∈ lw_ok, w.before #[Value.ref b] s = true := fun w h => hts w (List.mem_filter.mp h).1
  have hbA : ¬ (fun q : Nat => s.heap.size ≤ q) b := Nat.not_le.mpr hbl
  have hc0 : 200 + 9 * n + 0 ≤ room_1.cells ∧ 10000 + 132 * n + 0 ≤ room_1.slots := ⟨by show 200 + 9 * n + 0 ≤ 600000; omega, by show 10000 + 132 * n + 0 ≤ 7302249; omega⟩
  have v1 : vp_in (i + 1) L := ijF hi hn hiL (by decide) (by decide)
  have v2 : vp_in (i + 2) L := ijF hi hn hiL (by decide) (by decide)
  have v3 : vp_in (i + 3) L := ijF hi hn hiL (by decide) (by decide)
  have v4 : vp_in (i + 4) L := ijF hi hn hiL (by decide) (by decide)
  refine lv_aload_n hx hb dL_law_2524 rfl (lv_at hl 2 rfl) ?_
  refine lv_aload_n hx hb dL_law_2525 rfl (lv_at hl 3 rfl) ?_
  refine lv_iload_n hx hb dL_law_2526 rfl (lv_at hl 0 rfl) ?_
  refine lv_iconst (v := 1) hx hb dL_law_2527 (by decide) ?_
  refine lv_iadd hx hb dL_law_2528 ?_
  refine va_sld hx hb hX hbl hbA hS v1 dL_law_2529 ?_
  refine lv_aload_n hx hb dL_law_2530 rfl (lv_at hl 3 rfl) ?_
  refine lv_iload_n hx hb dL_law_2531 rfl (lv_at hl 0 rfl) ?_
  refine lv_iconst (v := 2) hx hb dL_law_2532 (by decide) ?_
  refine lv_iadd hx hb dL_law_2533 ?_
  refine va_sld hx hb hX hbl hbA hS v2 dL_law_2534 ?_
  refine lv_aload_n hx hb dL_law_2535 rfl (lv_at hl 3 rfl) ?_
  refine lv_iload_n hx hb dL_law_2536 rfl (lv_at hl 0 rfl) ?_
  refine lv_iconst (v := 3) hx hb dL_law_2537 (by decide) ?_
  refine lv_iadd hx hb dL_law_2538 ?_
  refine va_sld hx hb hX hbl hbA hS v3 dL_law_2539 ?_
  refine lv_i2l (v := (Int32.toInt64 (xs (Int32.toNatClampNeg (i + 3))))) hx hb dL_law_2540 (by first | rfl | decide) ?_
  refine lv_bipush (v := 32) hx hb dL_law_2541 (by decide) ?_
  refine lv_lshl (v := ((Int32.toInt64 (xs (Int32.toNatClampNeg (i + 3)))) <<< (Int32.toInt64 32 &&& 63))) hx hb dL_law_2543 rfl ?_
  refine lv_aload_n hx hb dL_law_2544 rfl (lv_at hl 3 rfl) ?_
  refine lv_iload_n hx hb dL_law_2545 rfl (lv_at hl 0 rfl) ?_
  refine lv_iconst (v := 4) hx hb dL_law_2546 (by decide) ?_
  refine lv_iadd hx hb dL_law_2547 ?_
  refine va_sld hx hb hX hbl hbA hS v4 dL_law_2548 ?_
  refine lv_i2l (v := (Int32.toInt64 (xs (Int32.toNatClampNeg (i + 4))))) hx hb dL_law_2549 (by first | rfl | decide) ?_
  refine lv_ldc2 hx hb hown (ht _ w_2020) dL_law_2550 ?_
  refine lv_land hx hb dL_law_2553 ?_
  refine lv_lor hx hb dL_law_2554 ?_
  refine lx_write C0 hN hK hXI hl.1 (Nat.le_of_ble_eq_true rfl) hc0 dL_law_2555 hP hD hS (fun r_1 u_3 H locs hXI hp_2 hP hD hS => ?_)
  refine lv_pop hx hb dL_law_2558 rfl ?_
  refine lv_aload_n hx hb dL_law_2559 rfl (lv_at hl 1 rfl) ?_
  refine lv_aload_n hx hb dL_law_2560 rfl (lv_at hl 3 rfl) ?_
  refine lv_iload_n hx hb dL_law_2561 rfl (lv_at hl 0 rfl) ?_
  refine lv_iconst (v := 1) hx hb dL_law_2562 (by decide) ?_
  refine lv_iadd hx hb dL_law_2563 ?_
  refine va_sld hx hb hX hbl hbA hS v1 dL_law_2564 ?_
  refine lv_aload_n hx hb dL_law_2565 rfl (lv_at hl 3 rfl) ?_
  refine lv_iload_n hx hb dL_law_2566 rfl (lv_at hl 0 rfl) ?_
  refine lv_iconst (v := 2) hx hb dL_law_2567 (by decide) ?_
  refine lv_iadd hx hb dL_law_2568 ?_
  refine va_sld hx hb hX hbl hbA hS v2 dL_law_2569 ?_
  refine lv_aload_n hx hb dL_law_2570 rfl (lv_at hl 3 rfl) ?_
  refine lv_iload_n hx hb dL_law_2571 rfl (lv_at hl 0 rfl) ?_
  refine lv_iconst (v := 3) hx hb dL_law_2572 (by decide) ?_
  refine lv_iadd hx hb dL_law_2573 ?_
  refine va_sld hx hb hX hbl hbA hS v3 dL_law_2574 ?_
  refine lv_i2l (v := (Int32.toInt64 (xs (Int32.toNatClampNeg (i + 3))))) hx hb dL_law_2575 (by first | rfl | decide) ?_
  refine lv_bipush (v := 32) hx hb dL_law_2576 (by decide) ?_
  refine lv_lshl (v := ((Int32.toInt64 (xs (Int32.toNatClampNeg (i + 3)))) <<< (Int32.toInt64 32 &&& 63))) hx hb dL_law_2578 rfl ?_
  refine lv_aload_n hx hb dL_law_2579 rfl (lv_at hl 3 rfl) ?_
  refine lv_iload_n hx hb dL_law_2580 rfl (lv_at hl 0 rfl) ?_
  refine lv_iconst (v := 4) hx hb dL_law_2581 (by decide) ?_
  refine lv_iadd hx hb dL_law_2582 ?_
  refine va_sld hx hb hX hbl hbA hS v4 dL_law_2583 ?_
  refine lv_i2l (v := (Int32.toInt64 (xs (Int32.toNatClampNeg (i + 4))))) hx hb dL_law_2584 (by first | rfl | decide) ?_
  refine lv_ldc2 hx hb hown (ht _ w_2020) dL_law_2585 ?_
  refine lv_land hx hb dL_law_2588 ?_
  refine lv_lor hx hb dL_law_2589 ?_
  refine lm_write C0 hN hK hMI hl.1 (Nat.le_of_ble_eq_true rfl) hc0 dL_law_2590 hP hD hS (fun r_4 u_6 H locs hMI hp_5 hP hD hS => ?_)
  refine lv_pop hx hb dL_law_2593 rfl ?_
  refine lv_goto (tgt := 2660) hx hb dL_law_2594 (by decide) ?_
  refine W.widen (k := 200 + 9 * (n + 1)) (n := 10000 + 132 * (n + 1)) (by omega) (by omega) ?_
  refine lv_iinc (v := i + 6) (lv' := [(3, .int (i + 6)), (2, .ref (g 0)), (1, .ref (a 0)), (0, .ref b)]) hx hb dL_law_2660 hl (k := 0) rfl rfl (by decide) rfl (fun ls hl => ?_)
  refine lv_goto (tgt := 18) hx hb dL_law_2663 (by decide) ?_
  have hJ2 : JI (XSf u_3) (MSf u_6) := (by rw [hp_2.1, hp_5.1]; exact hJ)
  exact KK _ _ _ _ _ _ _ (i6F hi hn) hXI hMI hJ2 hP hD hS hl
set_option maxHeartbeats 8000000 in
set_option maxRecDepth 100000 in
theorem lw_case_85 {p : Program} {l : Launch} {e : Env} {s : State} {m : MethodId} {below : List Frame} {meth : Method} {c : Code} {b L : Nat} {xs : Nat → Int32} {dC : Nat → ClassId} {dI : Nat → Nat → Nat} {cB cI cJ cZ cL : ClassId} (C0 : lw_At p s m meth c b L xs) (hN : NW s) (hK : va_K (dC, dI) vwCl (tyL cB cI cJ cZ cL) s) {a g adK adV : Nat → Nat} (hV : SW adK adV (fun q : Nat => s.heap.size ≤ q) s s.heap) {n : Nat} {i : Int32} {u : XT} {v : MT} {T : va_W} (hn : n ≤ 511) (hi : Int32.toInt i = 6 * (n : Int)) (hiL : 6 * n + 6 ≤ L) (hXI : XI cB cI cJ cZ cL u T) (hMI : MI v) (hJ : JI (XSf u) (MSf v)) {H : Heap} {locs : List Loc} (hP : va_P (dC, dI) vwCl (WX a cB cI cJ cZ cL u ++ (WM g cB cI cJ cZ cL v ++ T)) H) (hD : va_D (fun q : Nat => s.heap.size ≤ q) (WX a cB cI cJ cZ cL u ++ (WM g cB cI cJ cZ cL v ++ T))) (hS : va_S (fun q : Nat => s.heap.size ≤ q) s.heap H locs) {ls : Array Slot} (hl : lv_has ls 4 [(3, .int i), (2, .ref (g 0)), (1, .ref (a 0)), (0, .ref b)]) (KK : ∀ (i : Int32) (u : XT) (v : MT) (T : va_W) (H : Heap) (locs : List Loc) (ls : Array Slot), Int32.toInt i = 6 * ((n + 1 : Nat) : Int) → XI cB cI cJ cZ cL u T → MI v → JI (XSf u) (MSf v) → va_P (dC, dI) vwCl (WX a cB cI cJ cZ cL u ++ (WM g cB cI cJ cZ cL v ++ T)) H → va_D (fun q : Nat => s.heap.size ≤ q) (WX a cB cI cJ cZ cL u ++ (WM g cB cI cJ cZ cL v ++ T)) → va_S (fun q : Nat => s.heap.size ≤ q) s.heap H locs → lv_has ls 4 [(3, .int i), (2, .ref (g 0)), (1, .ref (a 0)), (0, .ref b)] → W p l e room_1 s m #[Value.ref b] below meth c H locs (200 + 9 * (n + 1)) (10000 + 132 * (n + 1)) (lw_Z below #[Value.ref b] s) (F0 m 18 ls [])) : W p l e room_1 s m #[Value.ref b] below meth c H locs (200 + 9 * n) (10000 + 132 * n) (lw_Z below #[Value.ref b] s) (F0 m 2597 ls []) := by
  obtain ⟨hx, hb, hr, hml, hown, hts, hX, hbl, hlocks, hgv⟩ := id C0
  have ht : ∀ w ∈ lw_ok, w.before #[Value.ref b] s = true := fun w h => hts w (List.mem_filter.mp h).1
  have hbA : ¬ (fun q : Nat => s.heap.size ≤ q) b := Nat.not_le.mpr hbl
  have hc0 : 200 + 9 * n + 0 ≤ room_1.cells ∧ 10000 + 132 * n + 0 ≤ room_1.slots := ⟨by show 200 + 9 * n + 0 ≤ 600000; omega, by show 10000 + 132 * n + 0 ≤ 7302249; omega⟩
  have v1 : vp_in (i + 1) L := ijF hi hn hiL (by decide) (by decide)
  have v2 : vp_in (i + 2) L := ijF hi hn hiL (by decide) (by decide)
  have v3 : vp_in (i + 3) L := ijF hi hn hiL (by decide) (by decide)
  have v4 : vp_in (i + 4) L := ijF hi hn hiL (by decide) (by decide)
  have v5 : vp_in (i + 5) L := ijF hi hn hiL (by decide) (by decide)
  refine lv_aload_n hx hb dL_law_2597 rfl (lv_at hl 2 rfl) ?_
  refine lv_aload_n hx hb dL_law_2598 rfl (lv_at hl 3 rfl) ?_
  refine lv_iload_n hx hb dL_law_2599 rfl (lv_at hl 0 rfl) ?_
  refine lv_iconst (v := 1) hx hb dL_law_2600 (by decide) ?_
  refine lv_iadd hx hb dL_law_2601 ?_
  refine va_sld hx hb hX hbl hbA hS v1 dL_law_2602 ?_
  refine lv_aload_n hx hb dL_law_2603 rfl (lv_at hl 3 rfl) ?_
  refine lv_iload_n hx hb dL_law_2604 rfl (lv_at hl 0 rfl) ?_
  refine lv_iconst (v := 2) hx hb dL_law_2605 (by decide) ?_
  refine lv_iadd hx hb dL_law_2606 ?_
  refine va_sld hx hb hX hbl hbA hS v2 dL_law_2607 ?_
  refine lv_aload_n hx hb dL_law_2608 rfl (lv_at hl 3 rfl) ?_
  refine lv_iload_n hx hb dL_law_2609 rfl (lv_at hl 0 rfl) ?_
  refine lv_iconst (v := 3) hx hb dL_law_2610 (by decide) ?_
  refine lv_iadd hx hb dL_law_2611 ?_
  refine va_sld hx hb hX hbl hbA hS v3 dL_law_2612 ?_
  refine lv_aload_n hx hb dL_law_2613 rfl (lv_at hl 3 rfl) ?_
  refine lv_iload_n hx hb dL_law_2614 rfl (lv_at hl 0 rfl) ?_
  refine lv_iconst (v := 4) hx hb dL_law_2615 (by decide) ?_
  refine lv_iadd hx hb dL_law_2616 ?_
  refine va_sld hx hb hX hbl hbA hS v4 dL_law_2617 ?_
  refine lv_aload_n hx hb dL_law_2618 rfl (lv_at hl 3 rfl) ?_
  refine lv_iload_n hx hb dL_law_2619 rfl (lv_at hl 0 rfl) ?_
  refine lv_iconst (v := 5) hx hb dL_law_2620 (by decide) ?_
  refine lv_iadd hx hb dL_law_2621 ?_
  refine va_sld hx hb hX hbl hbA hS v5 dL_law_2622 ?_
  refine lx_paste C0 hN hK hXI hl.1 (Nat.le_of_ble_eq_true rfl) hc0 dL_law_2623 hP hD hS (fun r_1 u_3 H locs hXI hp_2 hP hD hS => ?_)
  refine lv_pop hx hb dL_law_2626 rfl ?_
  refine lv_aload_n hx hb dL_law_2627 rfl (lv_at hl 1 rfl) ?_
  refine lv_aload_n hx hb dL_law_2628 rfl (lv_at hl 3 rfl) ?_
  refine lv_iload_n hx hb dL_law_2629 rfl (lv_at hl 0 rfl) ?_
  refine lv_iconst (v := 1) hx hb dL_law_2630 (by decide) ?_
  refine lv_iadd hx hb dL_law_2631 ?_
  refine va_sld hx hb hX hbl hbA hS v1 dL_law_2632 ?_
  refine lv_aload_n hx hb dL_law_2633 rfl (lv_at hl 3 rfl) ?_
  refine lv_iload_n hx hb dL_law_2634 rfl (lv_at hl 0 rfl) ?_
  refine lv_iconst (v := 2) hx hb dL_law_2635 (by decide) ?_
  refine lv_iadd hx hb dL_law_2636 ?_
  refine va_sld hx hb hX hbl hbA hS v2 dL_law_2637 ?_
  refine lv_aload_n hx hb dL_law_2638 rfl (lv_at hl 3 rfl) ?_
  refine lv_iload_n hx hb dL_law_2639 rfl (lv_at hl 0 rfl) ?_
  refine lv_iconst (v := 3) hx hb dL_law_2640 (by decide) ?_
  refine lv_iadd hx hb dL_law_2641 ?_
  refine va_sld hx hb hX hbl hbA hS v3 dL_law_2642 ?_
  refine lv_aload_n hx hb dL_law_2643 rfl (lv_at hl 3 rfl) ?_
  refine lv_iload_n hx hb dL_law_2644 rfl (lv_at hl 0 rfl) ?_
  refine lv_iconst (v := 4) hx hb dL_law_2645 (by decide) ?_
  refine lv_iadd hx hb dL_law_2646 ?_
  refine va_sld hx hb hX hbl hbA hS v4 dL_law_2647 ?_
  refine lv_aload_n hx hb dL_law_2648 rfl (lv_at hl 3 rfl) ?_
  refine lv_iload_n hx hb dL_law_2649 rfl (lv_at hl 0 rfl) ?_
  refine lv_iconst (v := 5) hx hb dL_law_2650 (by decide) ?_
  refine lv_iadd hx hb dL_law_2651 ?_
  refine va_sld hx hb hX hbl hbA hS v5 dL_law_2652 ?_
  refine lm_paste C0 hN hK hMI hl.1 (Nat.le_of_ble_eq_true rfl) hc0 dL_law_2653 hP hD hS (fun r_4 u_6 H locs hMI hp_5 hP hD hS => ?_)
  refine lv_pop hx hb dL_law_2656 rfl ?_
  refine lv_goto (tgt := 2660) hx hb dL_law_2657 (by decide) ?_
  refine W.widen (k := 200 + 9 * (n + 1)) (n := 10000 + 132 * (n + 1)) (by omega) (by omega) ?_
  refine lv_iinc (v := i + 6) (lv' := [(3, .int (i + 6)), (2, .ref (g 0)), (1, .ref (a 0)), (0, .ref b)]) hx hb dL_law_2660 hl (k := 0) rfl rfl (by decide) rfl (fun ls hl => ?_)
  refine lv_goto (tgt := 18) hx hb dL_law_2663 (by decide) ?_
  have hJ2 : JI (XSf u_3) (MSf u_6) := (by rw [hp_2.1, hp_5.1]; exact hJ)
  exact KK _ _ _ _ _ _ _ (i6F hi hn) hXI hMI hJ2 hP hD hS hl
