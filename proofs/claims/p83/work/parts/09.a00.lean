theorem ijF {i j : Int32} {n L : Nat} (hi : Int32.toInt i = 6 * (n : Int)) (hn : n ≤ 511) (hiL : 6 * n + 6 ≤ L) (h0 : 0 ≤ Int32.toInt j) (h5 : Int32.toInt j ≤ 5) : vp_in (i + j) L := by
  have h := iaddF (z := i + j) (x := i) (y := j) rfl (by omega)
  exact vp_in_iff.mpr (by omega)
theorem i6F {i : Int32} {n : Nat} (hi : Int32.toInt i = 6 * (n : Int)) (hn : n ≤ 511) : Int32.toInt (i + 6) = 6 * ((n + 1 : Nat) : Int) := by
  have h := iaddF (z := i + 6) (x := i) (y := 6) rfl
  simp only [T6] at h
  omega
theorem slF {L : Nat} (h : L ≤ 3072) : Int32.toInt (Int32.ofNat L) = (L : Int) := nI_toInt (by omega)
set_option maxHeartbeats 8000000 in
set_option maxRecDepth 100000 in
theorem lw_case_0 {p : Program} {l : Launch} {e : Env} {s : State} {m : MethodId} {below : List Frame} {meth : Method} {c : Code} {b L : Nat} {xs : Nat → Int32} {dC : Nat → ClassId} {dI : Nat → Nat → Nat} {cB cI cJ cZ cL : ClassId} (C0 : lw_At p s m meth c b L xs) (hN : NW s) (hK : va_K (dC, dI) vwCl (tyL cB cI cJ cZ cL) s) {a g adK adV : Nat → Nat} (hV : SW adK adV (fun q : Nat => s.heap.size ≤ q) s s.heap) {n : Nat} {i : Int32} {u : XT} {v : MT} {T : va_W} (hn : n ≤ 511) (hi : Int32.toInt i = 6 * (n : Int)) (hiL : 6 * n + 6 ≤ L) (hXI : XI cB cI cJ cZ cL u T) (hMI : MI v) (hJ : JI (XSf u) (MSf v)) {H : Heap} {locs : List Loc} (hP : va_P (dC, dI) vwCl (WX a cB cI cJ cZ cL u ++ (WM g cB cI cJ cZ cL v ++ T)) H) (hD : va_D (fun q : Nat => s.heap.size ≤ q) (WX a cB cI cJ cZ cL u ++ (WM g cB cI cJ cZ cL v ++ T))) (hS : va_S (fun q : Nat => s.heap.size ≤ q) s.heap H locs) {ls : Array Slot} (hl : lv_has ls 4 [(3, .int i), (2, .ref (g 0)), (1, .ref (a 0)), (0, .ref b)]) (KK : ∀ (i : Int32) (u : XT) (v : MT) (T : va_W) (H : Heap) (locs : List Loc) (ls : Array Slot), Int32.toInt i = 6 * ((n + 1 : Nat) : Int) → XI cB cI cJ cZ cL u T → MI v → JI (XSf u) (MSf v) → va_P (dC, dI) vwCl (WX a cB cI cJ cZ cL u ++ (WM g cB cI cJ cZ cL v ++ T)) H → va_D (fun q : Nat => s.heap.size ≤ q) (WX a cB cI cJ cZ cL u ++ (WM g cB cI cJ cZ cL v ++ T)) → va_S (fun q : Nat => s.heap.size ≤ q) s.heap H locs → lv_has ls 4 [(3, .int i), (2, .ref (g 0)), (1, .ref (a 0)), (0, .ref b)] → W p l e room_1 s m #[Value.ref b] below meth c H locs (200 + 9 * (n + 1)) (10000 + 132 * (n + 1)) (lw_Z below #[Value.ref b] s) (F0 m 18 ls [])) : W p l e room_1 s m #[Value.ref b] below meth c H locs (200 + 9 * n) (10000 + 132 * n) (lw_Z below #[Value.ref b] s) (F0 m 392 ls []) := by
  obtain ⟨hx, hb, hr, hml, hown, hts, hX, hbl, hlocks, hgv⟩ := id C0
  have ht : ∀ w ∈ lw_ok, w.before #[Value.ref b] s = true := fun w h => hts w (List.mem_filter.mp h).1
  have hbA : ¬ (fun q : Nat => s.heap.size ≤ q) b := Nat.not_le.mpr hbl
  have hc0 : 200 + 9 * n + 0 ≤ room_1.cells ∧ 10000 + 132 * n + 0 ≤ room_1.slots := ⟨by show 200 + 9 * n + 0 ≤ 600000; omega, by show 10000 + 132 * n + 0 ≤ 7302249; omega⟩
  have v1 : vp_in (i + 1) L := ijF hi hn hiL (by decide) (by decide)
  have v2 : vp_in (i + 2) L := ijF hi hn hiL (by decide) (by decide)
  have v3 : vp_in (i + 3) L := ijF hi hn hiL (by decide) (by decide)
  have v4 : vp_in (i + 4) L := ijF hi hn hiL (by decide) (by decide)
  have v5 : vp_in (i + 5) L := ijF hi hn hiL (by decide) (by decide)
  refine lv_aload_n hx hb dL_law_392 rfl (lv_at hl 2 rfl) ?_
  refine lv_aload_n hx hb dL_law_393 rfl (lv_at hl 3 rfl) ?_
  refine lv_iload_n hx hb dL_law_394 rfl (lv_at hl 0 rfl) ?_
  refine lv_iconst (v := 1) hx hb dL_law_395 (by decide) ?_
  refine lv_iadd hx hb dL_law_396 ?_
  refine va_sld hx hb hX hbl hbA hS v1 dL_law_397 ?_
  refine lv_aload_n hx hb dL_law_398 rfl (lv_at hl 3 rfl) ?_
  refine lv_iload_n hx hb dL_law_399 rfl (lv_at hl 0 rfl) ?_
  refine lv_iconst (v := 2) hx hb dL_law_400 (by decide) ?_
  refine lv_iadd hx hb dL_law_401 ?_
  refine va_sld hx hb hX hbl hbA hS v2 dL_law_402 ?_
  refine lv_aload_n hx hb dL_law_403 rfl (lv_at hl 3 rfl) ?_
  refine lv_iload_n hx hb dL_law_404 rfl (lv_at hl 0 rfl) ?_
  refine lv_iconst (v := 3) hx hb dL_law_405 (by decide) ?_
  refine lv_iadd hx hb dL_law_406 ?_
  refine va_sld hx hb hX hbl hbA hS v3 dL_law_407 ?_
  refine lv_aload_n hx hb dL_law_408 rfl (lv_at hl 3 rfl) ?_
  refine lv_iload_n hx hb dL_law_409 rfl (lv_at hl 0 rfl) ?_
  refine lv_iconst (v := 4) hx hb dL_law_410 (by decide) ?_
  refine lv_iadd hx hb dL_law_411 ?_
  refine va_sld hx hb hX hbl hbA hS v4 dL_law_412 ?_
  refine lv_aload_n hx hb dL_law_413 rfl (lv_at hl 3 rfl) ?_
  refine lv_iload_n hx hb dL_law_414 rfl (lv_at hl 0 rfl) ?_
  refine lv_iconst (v := 5) hx hb dL_law_415 (by decide) ?_
  refine lv_iadd hx hb dL_law_416 ?_
  refine va_sld hx hb hX hbl hbA hS v5 dL_law_417 ?_
  refine lx_feed C0 hN hK hXI hl.1 (Nat.le_of_ble_eq_true rfl) hc0 dL_law_418 hP hD hS (fun r_1 u_3 H locs hXI hp_2 hP hD hS => ?_)
  refine lv_pop hx hb dL_law_421 rfl ?_
  refine lv_aload_n hx hb dL_law_422 rfl (lv_at hl 1 rfl) ?_
  refine lv_aload_n hx hb dL_law_423 rfl (lv_at hl 3 rfl) ?_
  refine lv_iload_n hx hb dL_law_424 rfl (lv_at hl 0 rfl) ?_
  refine lv_iconst (v := 1) hx hb dL_law_425 (by decide) ?_
  refine lv_iadd hx hb dL_law_426 ?_
  refine va_sld hx hb hX hbl hbA hS v1 dL_law_427 ?_
  refine lv_aload_n hx hb dL_law_428 rfl (lv_at hl 3 rfl) ?_
  refine lv_iload_n hx hb dL_law_429 rfl (lv_at hl 0 rfl) ?_
  refine lv_iconst (v := 2) hx hb dL_law_430 (by decide) ?_
  refine lv_iadd hx hb dL_law_431 ?_
  refine va_sld hx hb hX hbl hbA hS v2 dL_law_432 ?_
  refine lv_aload_n hx hb dL_law_433 rfl (lv_at hl 3 rfl) ?_
  refine lv_iload_n hx hb dL_law_434 rfl (lv_at hl 0 rfl) ?_
  refine lv_iconst (v := 3) hx hb dL_law_435 (by decide) ?_
  refine lv_iadd hx hb dL_law_436 ?_
  refine va_sld hx hb hX hbl hbA hS v3 dL_law_437 ?_
  refine lv_aload_n hx hb dL_law_438 rfl (lv_at hl 3 rfl) ?_
  refine lv_iload_n hx hb dL_law_439 rfl (lv_at hl 0 rfl) ?_
  refine lv_iconst (v := 4) hx hb dL_law_440 (by decide) ?_
  refine lv_iadd hx hb dL_law_441 ?_
  refine va_sld hx hb hX hbl hbA hS v4 dL_law_442 ?_
  refine lv_aload_n hx hb dL_law_443 rfl (lv_at hl 3 rfl) ?_
  refine lv_iload_n hx hb dL_law_444 rfl (lv_at hl 0 rfl) ?_
  refine lv_iconst (v := 5) hx hb dL_law_445 (by decide) ?_
  refine lv_iadd hx hb dL_law_446 ?_
  refine va_sld hx hb hX hbl hbA hS v5 dL_law_447 ?_
  refine lm_feed C0 hN hK hMI hl.1 (Nat.le_of_ble_eq_true rfl) hc0 dL_law_448 hP hD hS (fun r_4 u_6 H locs hMI hp_5 hP hD hS => ?_)
  refine lv_pop hx hb dL_law_451 rfl ?_
  refine lv_goto (tgt := 2660) hx hb dL_law_452 (by decide) ?_
  refine W.widen (k := 200 + 9 * (n + 1)) (n := 10000 + 132 * (n + 1)) (by omega) (by omega) ?_
  refine lv_iinc (v := i + 6) (lv' := [(3, .int (i + 6)), (2, .ref (g 0)), (1, .ref (a 0)), (0, .ref b)]) hx hb dL_law_2660 hl (k := 0) rfl rfl (by decide) rfl (fun ls hl => ?_)
  refine lv_goto (tgt := 18) hx hb dL_law_2663 (by decide) ?_
  have hJ2 : JI (XSf u_3) (MSf u_6) := (by rw [hp_2, hp_5]; exact hJ)
  exact KK _ _ _ _ _ _ _ (i6F hi hn) hXI hMI hJ2 hP hD hS hl
set_option maxHeartbeats 8000000 in
set_option maxRecDepth 100000 in
theorem lw_case_1 {p : Program} {l : Launch} {e : Env} {s : State} {m : MethodId} {below : List Frame} {meth : Method} {c : Code} {b L : Nat} {xs : Nat → Int32} {dC : Nat → ClassId} {dI : Nat → Nat → Nat} {cB cI cJ cZ cL : ClassId} (C0 : lw_At p s m meth c b L xs) (hN : NW s) (hK : va_K (dC, dI) vwCl (tyL cB cI cJ cZ cL) s) {a g adK adV : Nat → Nat} (hV : SW adK adV (fun q : Nat => s.heap.size ≤ q) s s.heap) {n : Nat} {i : Int32} {u : XT} {v : MT} {T : va_W} (hn : n ≤ 511) (hi : Int32.toInt i = 6 * (n : Int)) (hiL : 6 * n + 6 ≤ L) (hXI : XI cB cI cJ cZ cL u T) (hMI : MI v) (hJ : JI (XSf u) (MSf v)) {H : Heap} {locs : List Loc} (hP : va_P (dC, dI) vwCl (WX a cB cI cJ cZ cL u ++ (WM g cB cI cJ cZ cL v ++ T)) H) (hD : va_D (fun q : Nat => s.heap.size ≤ q) (WX a cB cI cJ cZ cL u ++ (WM g cB cI cJ cZ cL v ++ T))) (hS : va_S (fun q : Nat => s.heap.size ≤ q) s.heap H locs) {ls : Array Slot} (hl : lv_has ls 4 [(3, .int i), (2, .ref (g 0)), (1, .ref (a 0)), (0, .ref b)]) (KK : ∀ (i : Int32) (u : XT) (v : MT) (T : va_W) (H : Heap) (locs : List Loc) (ls : Array Slot), Int32.toInt i = 6 * ((n + 1 : Nat) : Int) → XI cB cI cJ cZ cL u T → MI v → JI (XSf u) (MSf v) → va_P (dC, dI) vwCl (WX a cB cI cJ cZ cL u ++ (WM g cB cI cJ cZ cL v ++ T)) H → va_D (fun q : Nat => s.heap.size ≤ q) (WX a cB cI cJ cZ cL u ++ (WM g cB cI cJ cZ cL v ++ T)) → va_S (fun q : Nat => s.heap.size ≤ q) s.heap H locs → lv_has ls 4 [(3, .int i), (2, .ref (g 0)), (1, .ref (a 0)), (0, .ref b)] → W p l e room_1 s m #[Value.ref b] below meth c H locs (200 + 9 * (n + 1)) (10000 + 132 * (n + 1)) (lw_Z below #[Value.ref b] s) (F0 m 18 ls [])) : W p l e room_1 s m #[Value.ref b] below meth c H locs (200 + 9 * n) (10000 + 132 * n) (lw_Z below #[Value.ref b] s) (F0 m 455 ls []) := by
  obtain ⟨hx, hb, hr, hml, hown, hts, hX, hbl, hlocks, hgv⟩ := id C0
  have ht : ∀ w ∈ lw_ok, w.before #[Value.ref b] s = true := fun w h => hts w (List.mem_filter.mp h).1
  have hbA : ¬ (fun q : Nat => s.heap.size ≤ q) b := Nat.not_le.mpr hbl
  have hc0 : 200 + 9 * n + 0 ≤ room_1.cells ∧ 10000 + 132 * n + 0 ≤ room_1.slots := ⟨by show 200 + 9 * n + 0 ≤ 600000; omega, by show 10000 + 132 * n + 0 ≤ 7302249; omega⟩
  have v1 : vp_in (i + 1) L := ijF hi hn hiL (by decide) (by decide)
  refine lv_aload_n hx hb dL_law_455 rfl (lv_at hl 2 rfl) ?_
  refine lv_aload_n hx hb dL_law_456 rfl (lv_at hl 3 rfl) ?_
  refine lv_iload_n hx hb dL_law_457 rfl (lv_at hl 0 rfl) ?_
  refine lv_iconst (v := 1) hx hb dL_law_458 (by decide) ?_
  refine lv_iadd hx hb dL_law_459 ?_
  refine va_sld hx hb hX hbl hbA hS v1 dL_law_460 ?_
  refine lx_end C0 hN hK hXI hl.1 (Nat.le_of_ble_eq_true rfl) hc0 dL_law_461 hP hD hS (fun r_1 u_3 H locs hXI hp_2 hP hD hS => ?_)
  refine lv_pop hx hb dL_law_464 rfl ?_
  refine lv_aload_n hx hb dL_law_465 rfl (lv_at hl 1 rfl) ?_
  refine lv_aload_n hx hb dL_law_466 rfl (lv_at hl 3 rfl) ?_
  refine lv_iload_n hx hb dL_law_467 rfl (lv_at hl 0 rfl) ?_
  refine lv_iconst (v := 1) hx hb dL_law_468 (by decide) ?_
  refine lv_iadd hx hb dL_law_469 ?_
  refine va_sld hx hb hX hbl hbA hS v1 dL_law_470 ?_
  refine lm_end C0 hN hK hMI hl.1 (Nat.le_of_ble_eq_true rfl) hc0 dL_law_471 hP hD hS (fun r_4 u_6 H locs hMI hp_5 hP hD hS => ?_)
  refine lv_pop hx hb dL_law_474 rfl ?_
  refine lv_goto (tgt := 2660) hx hb dL_law_475 (by decide) ?_
  refine W.widen (k := 200 + 9 * (n + 1)) (n := 10000 + 132 * (n + 1)) (by omega) (by omega) ?_
  refine lv_iinc (v := i + 6) (lv' := [(3, .int (i + 6)), (2, .ref (g 0)), (1, .ref (a 0)), (0, .ref b)]) hx hb dL_law_2660 hl (k := 0) rfl rfl (by decide) rfl (fun ls hl => ?_)
  refine lv_goto (tgt := 18) hx hb dL_law_2663 (by decide) ?_
  have hJ2 : JI (XSf u_3) (MSf u_6) := (by rw [hp_2, hp_5]; exact hJ)
  exact KK _ _ _ _ _ _ _ (i6F hi hn) hXI hMI hJ2 hP hD hS hl
set_option maxHeartbeats 8000000 in
set_option maxRecDepth 100000 in
theorem lw_case_2 {p : Program} {l : Launch} {e : Env} {s : State} {m : MethodId} {below : List Frame} {meth : Method} {c : Code} {b L : Nat} {xs : Nat → Int32} {dC : Nat → ClassId} {dI : Nat → Nat → Nat} {cB cI cJ cZ cL : ClassId} (C0 : lw_At p s m meth c b L xs) (hN : NW s) (hK : va_K (dC, dI) vwCl (tyL cB cI cJ cZ cL) s) {a g adK adV : Nat → Nat} (hV : SW adK adV (fun q : Nat => s.heap.size ≤ q) s s.heap) {n : Nat} {i : Int32} {u : XT} {v : MT} {T : va_W} (hn : n ≤ 511) (hi : Int32.toInt i = 6 * (n : Int)) (hiL : 6 * n + 6 ≤ L) (hXI : XI cB cI cJ cZ cL u T) (hMI : MI v) (hJ : JI (XSf u) (MSf v)) {H : Heap} {locs : List Loc} (hP : va_P (dC, dI) vwCl (WX a cB cI cJ cZ cL u ++ (WM g cB cI cJ cZ cL v ++ T)) H) (hD : va_D (fun q : Nat => s.heap.size ≤ q) (WX a cB cI cJ cZ cL u ++ (WM g cB cI cJ cZ cL v ++ T))) (hS : va_S (fun q : Nat => s.heap.size ≤ q) s.heap H locs) {ls : Array Slot} (hl : lv_has ls 4 [(3, .int i), (2, .ref (g 0)), (1, .ref (a 0)), (0, .ref b)]) (KK : ∀ (i : Int32) (u : XT) (v : MT) (T : va_W) (H : Heap) (locs : List Loc) (ls : Array Slot), Int32.toInt i = 6 * ((n + 1 : Nat) : Int) → XI cB cI cJ cZ cL u T → MI v → JI (XSf u) (MSf v) → va_P (dC, dI) vwCl (WX a cB cI cJ cZ cL u ++ (WM g cB cI cJ cZ cL v ++ T)) H → va_D (fun q : Nat => s.heap.size ≤ q) (WX a cB cI cJ cZ cL u ++ (WM g cB cI cJ cZ cL v ++ T)) → va_S (fun q : Nat => s.heap.size ≤ q) s.heap H locs → lv_has ls 4 [(3, .int i), (2, .ref (g 0)), (1, .ref (a 0)), (0, .ref b)] → W p l e room_1 s m #[Value.ref b] below meth c H locs (200 + 9 * (n + 1)) (10000 + 132 * (n + 1)) (lw_Z below #[Value.ref b] s) (F0 m 18 ls [])) : W p l e room_1 s m #[Value.ref b] below meth c H locs (200 + 9 * n) (10000 + 132 * n) (lw_Z below #[Value.ref b] s) (F0 m 478 ls []) := by
  obtain ⟨hx, hb, hr, hml, hown, hts, hX, hbl, hlocks, hgv⟩ := id C0
  have ht : ∀ w ∈ lw_ok, w.before #[Value.ref b] s = true := fun w h => hts w (List.mem_filter.mp h).1
  have hbA : ¬ (fun q : Nat => s.heap.size ≤ q) b := Nat.not_le.mpr hbl
  have hc0 : 200 + 9 * n + 0 ≤ room_1.cells ∧ 10000 + 132 * n + 0 ≤ room_1.slots := ⟨by show 200 + 9 * n + 0 ≤ 600000; omega, by show 10000 + 132 * n + 0 ≤ 7302249; omega⟩
  refine lv_aload_n hx hb dL_law_478 rfl (lv_at hl 2 rfl) ?_
  refine lx_wire C0 hN hK hV hXI hl.1 (Nat.le_of_ble_eq_true rfl) hc0 dL_law_479 hP hD hS (fun r_1 u_3 H locs hXI hp_2 hP hD hS => ?_)
  refine lv_pop hx hb dL_law_482 rfl ?_
  refine lv_aload_n hx hb dL_law_483 rfl (lv_at hl 1 rfl) ?_
  refine lm_wire C0 hN hK hMI hl.1 (Nat.le_of_ble_eq_true rfl) hc0 dL_law_484 hP hD hS (fun r_4 u_6 H locs hMI hp_5 hP hD hS => ?_)
  refine lv_pop hx hb dL_law_487 rfl ?_
  refine lv_goto (tgt := 2660) hx hb dL_law_488 (by decide) ?_
  refine W.widen (k := 200 + 9 * (n + 1)) (n := 10000 + 132 * (n + 1)) (by omega) (by omega) ?_
  refine lv_iinc (v := i + 6) (lv' := [(3, .int (i + 6)), (2, .ref (g 0)), (1, .ref (a 0)), (0, .ref b)]) hx hb dL_law_2660 hl (k := 0) rfl rfl (by decide) rfl (fun ls hl => ?_)
  refine lv_goto (tgt := 18) hx hb dL_law_2663 (by decide) ?_
  have hJ2 : JI (XSf u_3) (MSf u_6) := (by rw [hp_2, hp_5]; exact hJ)
  exact KK _ _ _ _ _ _ _ (i6F hi hn) hXI hMI hJ2 hP hD hS hl
set_option maxHeartbeats 8000000 in
set_option maxRecDepth 100000 in
theorem lw_case_3 {p : Program} {l : Launch} {e : Env} {s : State} {m : MethodId} {below : List Frame} {meth : Method} {c : Code} {b L : Nat} {xs : Nat → Int32} {dC : Nat → ClassId} {dI : Nat → Nat → Nat} {cB cI cJ cZ cL : ClassId} (C0 : lw_At p s m meth c b L xs) (hN : NW s) (hK : va_K (dC, dI) vwCl (tyL cB cI cJ cZ cL) s) {a g adK adV : Nat → Nat} (hV : SW adK adV (fun q : Nat => s.heap.size ≤ q) s s.heap) {n : Nat} {i : Int32} {u : XT} {v : MT} {T : va_W} (hn : n ≤ 511) (hi : Int32.toInt i = 6 * (n : Int)) (hiL : 6 * n + 6 ≤ L) (hXI : XI cB cI cJ cZ cL u T) (hMI : MI v) (hJ : JI (XSf u) (MSf v)) {H : Heap} {locs : List Loc} (hP : va_P (dC, dI) vwCl (WX a cB cI cJ cZ cL u ++ (WM g cB cI cJ cZ cL v ++ T)) H) (hD : va_D (fun q : Nat => s.heap.size ≤ q) (WX a cB cI cJ cZ cL u ++ (WM g cB cI cJ cZ cL v ++ T))) (hS : va_S (fun q : Nat => s.heap.size ≤ q) s.heap H locs) {ls : Array Slot} (hl : lv_has ls 4 [(3, .int i), (2, .ref (g 0)), (1, .ref (a 0)), (0, .ref b)]) (KK : ∀ (i : Int32) (u : XT) (v : MT) (T : va_W) (H : Heap) (locs : List Loc) (ls : Array Slot), Int32.toInt i = 6 * ((n + 1 : Nat) : Int) → XI cB cI cJ cZ cL u T → MI v → JI (XSf u) (MSf v) → va_P (dC, dI) vwCl (WX a cB cI cJ cZ cL u ++ (WM g cB cI cJ cZ cL v ++ T)) H → va_D (fun q : Nat => s.heap.size ≤ q) (WX a cB cI cJ cZ cL u ++ (WM g cB cI cJ cZ cL v ++ T)) → va_S (fun q : Nat => s.heap.size ≤ q) s.heap H locs → lv_has ls 4 [(3, .int i), (2, .ref (g 0)), (1, .ref (a 0)), (0, .ref b)] → W p l e room_1 s m #[Value.ref b] below meth c H locs (200 + 9 * (n + 1)) (10000 + 132 * (n + 1)) (lw_Z below #[Value.ref b] s) (F0 m 18 ls [])) : W p l e room_1 s m #[Value.ref b] below meth c H locs (200 + 9 * n) (10000 + 132 * n) (lw_Z below #[Value.ref b] s) (F0 m 491 ls []) := by
  obtain ⟨hx, hb, hr, hml, hown, hts, hX, hbl, hlocks, hgv⟩ := id C0
  have ht : ∀ w ∈ lw_ok, w.before #[Value.ref b] s = true := fun w h => hts w (List.mem_filter.mp h).1
  have hbA : ¬ (fun q : Nat => s.heap.size ≤ q) b := Nat.not_le.mpr hbl
  have hc0 : 200 + 9 * n + 0 ≤ room_1.cells ∧ 10000 + 132 * n + 0 ≤ room_1.slots := ⟨by show 200 + 9 * n + 0 ≤ 600000; omega, by show 10000 + 132 * n + 0 ≤ 7302249; omega⟩
  have v1 : vp_in (i + 1) L := ijF hi hn hiL (by decide) (by decide)
  refine lv_aload_n hx hb dL_law_491 rfl (lv_at hl 2 rfl) ?_
  refine lv_aload_n hx hb dL_law_492 rfl (lv_at hl 3 rfl) ?_
  refine lv_iload_n hx hb dL_law_493 rfl (lv_at hl 0 rfl) ?_
  refine lv_iconst (v := 1) hx hb dL_law_494 (by decide) ?_
  refine lv_iadd hx hb dL_law_495 ?_
  refine va_sld hx hb hX hbl hbA hS v1 dL_law_496 ?_
  refine lx_fault C0 hN hK hXI hl.1 (Nat.le_of_ble_eq_true rfl) hc0 dL_law_497 hP hD hS (fun r_1 u_3 H locs hXI hp_2 hP hD hS => ?_)
  refine lv_pop hx hb dL_law_500 rfl ?_
  refine lv_aload_n hx hb dL_law_501 rfl (lv_at hl 1 rfl) ?_
  refine lv_aload_n hx hb dL_law_502 rfl (lv_at hl 3 rfl) ?_
  refine lv_iload_n hx hb dL_law_503 rfl (lv_at hl 0 rfl) ?_
  refine lv_iconst (v := 1) hx hb dL_law_504 (by decide) ?_
  refine lv_iadd hx hb dL_law_505 ?_
  refine va_sld hx hb hX hbl hbA hS v1 dL_law_506 ?_
  refine lm_fault C0 hN hK hMI hl.1 (Nat.le_of_ble_eq_true rfl) hc0 dL_law_507 hP hD hS (fun r_4 u_6 H locs hMI hp_5 hP hD hS => ?_)
  refine lv_pop hx hb dL_law_510 rfl ?_
  refine lv_goto (tgt := 2660) hx hb dL_law_511 (by decide) ?_
  refine W.widen (k := 200 + 9 * (n + 1)) (n := 10000 + 132 * (n + 1)) (by omega) (by omega) ?_
  refine lv_iinc (v := i + 6) (lv' := [(3, .int (i + 6)), (2, .ref (g 0)), (1, .ref (a 0)), (0, .ref b)]) hx hb dL_law_2660 hl (k := 0) rfl rfl (by decide) rfl (fun ls hl => ?_)
  refine lv_goto (tgt := 18) hx hb dL_law_2663 (by decide) ?_
  have hJ2 : JI (XSf u_3) (MSf u_6) := (by rw [hp_2, hp_5]; exact hJ)
  exact KK _ _ _ _ _ _ _ (i6F hi hn) hXI hMI hJ2 hP hD hS hl
set_option maxHeartbeats 8000000 in
set_option maxRecDepth 100000 in
theorem lw_case_4 {p : Program} {l : Launch} {e : Env} {s : State} {m : MethodId} {below : List Frame} {meth : Method} {c : Code} {b L : Nat} {xs : Nat → Int32} {dC : Nat → ClassId} {dI : Nat → Nat → Nat} {cB cI cJ cZ cL : ClassId} (C0 : lw_At p s m meth c b L xs) (hN : NW s) (hK : va_K (dC, dI) vwCl (tyL cB cI cJ cZ cL) s) {a g adK adV : Nat → Nat} (hV : SW adK adV (fun q : Nat => s.heap.size ≤ q) s s.heap) {n : Nat} {i : Int32} {u : XT} {v : MT} {T : va_W} (hn : n ≤ 511) (hi : Int32.toInt i = 6 * (n : Int)) (hiL : 6 * n + 6 ≤ L) (hXI : XI cB cI cJ cZ cL u T) (hMI : MI v) (hJ : JI (XSf u) (MSf v)) {H : Heap} {locs : List Loc} (hP : va_P (dC, dI) vwCl (WX a cB cI cJ cZ cL u ++ (WM g cB cI cJ cZ cL v ++ T)) H) (hD : va_D (fun q : Nat => s.heap.size ≤ q) (WX a cB cI cJ cZ cL u ++ (WM g cB cI cJ cZ cL v ++ T))) (hS : va_S (fun q : Nat => s.heap.size ≤ q) s.heap H locs) {ls : Array Slot} (hl : lv_has ls 4 [(3, .int i), (2, .ref (g 0)), (1, .ref (a 0)), (0, .ref b)]) (KK : ∀ (i : Int32) (u : XT) (v : MT) (T : va_W) (H : Heap) (locs : List Loc) (ls : Array Slot), Int32.toInt i = 6 * ((n + 1 : Nat) : Int) → XI cB cI cJ cZ cL u T → MI v → JI (XSf u) (MSf v) → va_P (dC, dI) vwCl (WX a cB cI cJ cZ cL u ++ (WM g cB cI cJ cZ cL v ++ T)) H → va_D (fun q : Nat => s.heap.size ≤ q) (WX a cB cI cJ cZ cL u ++ (WM g cB cI cJ cZ cL v ++ T)) → va_S (fun q : Nat => s.heap.size ≤ q) s.heap H locs → lv_has ls 4 [(3, .int i), (2, .ref (g 0)), (1, .ref (a 0)), (0, .ref b)] → W p l e room_1 s m #[Value.ref b] below meth c H locs (200 + 9 * (n + 1)) (10000 + 132 * (n + 1)) (lw_Z below #[Value.ref b] s) (F0 m 18 ls [])) : W p l e room_1 s m #[Value.ref b] below meth c H locs (200 + 9 * n) (10000 + 132 * n) (lw_Z below #[Value.ref b] s) (F0 m 514 ls []) := by
  obtain ⟨hx, hb, hr, hml, hown, hts, hX, hbl, hlocks, hgv⟩ := id C0
  have ht : ∀ w ∈ lw_ok, w.before #[Value.ref b] s = true := fun w h => hts w (List.mem_filter.mp h).1
  have hbA : ¬ (fun q : Nat => s.heap.size ≤ q) b := Nat.not_le.mpr hbl
  have hc0 : 200 + 9 * n + 0 ≤ room_1.cells ∧ 10000 + 132 * n + 0 ≤ room_1.slots := ⟨by show 200 + 9 * n + 0 ≤ 600000; omega, by show 10000 + 132 * n + 0 ≤ 7302249; omega⟩
  have v1 : vp_in (i + 1) L := ijF hi hn hiL (by decide) (by decide)
  have v2 : vp_in (i + 2) L := ijF hi hn hiL (by decide) (by decide)
  refine lv_aload_n hx hb dL_law_514 rfl (lv_at hl 2 rfl) ?_
  refine lv_aload_n hx hb dL_law_515 rfl (lv_at hl 3 rfl) ?_
  refine lv_iload_n hx hb dL_law_516 rfl (lv_at hl 0 rfl) ?_
  refine lv_iconst (v := 1) hx hb dL_law_517 (by decide) ?_
  refine lv_iadd hx hb dL_law_518 ?_
  refine va_sld hx hb hX hbl hbA hS v1 dL_law_519 ?_
  refine lv_aload_n hx hb dL_law_520 rfl (lv_at hl 3 rfl) ?_
  refine lv_iload_n hx hb dL_law_521 rfl (lv_at hl 0 rfl) ?_
  refine lv_iconst (v := 2) hx hb dL_law_522 (by decide) ?_
  refine lv_iadd hx hb dL_law_523 ?_
  refine va_sld hx hb hX hbl hbA hS v2 dL_law_524 ?_
  refine lx_span C0 hN hK hXI hl.1 (Nat.le_of_ble_eq_true rfl) hc0 dL_law_525 hP hD hS (fun r_1 u_3 H locs hXI hp_2 hP hD hS => ?_)
  refine lv_pop hx hb dL_law_528 rfl ?_
  refine lv_aload_n hx hb dL_law_529 rfl (lv_at hl 1 rfl) ?_
  refine lv_aload_n hx hb dL_law_530 rfl (lv_at hl 3 rfl) ?_
  refine lv_iload_n hx hb dL_law_531 rfl (lv_at hl 0 rfl) ?_
  refine lv_iconst (v := 1) hx hb dL_law_532 (by decide) ?_
  refine lv_iadd hx hb dL_law_533 ?_
  refine va_sld hx hb hX hbl hbA hS v1 dL_law_534 ?_
  refine lv_aload_n hx hb dL_law_535 rfl (lv_at hl 3 rfl) ?_
  refine lv_iload_n hx hb dL_law_536 rfl (lv_at hl 0 rfl) ?_
  refine lv_iconst (v := 2) hx hb dL_law_537 (by decide) ?_
  refine lv_iadd hx hb dL_law_538 ?_
  refine va_sld hx hb hX hbl hbA hS v2 dL_law_539 ?_
  refine lm_span C0 hN hK hMI hl.1 (Nat.le_of_ble_eq_true rfl) hc0 dL_law_540 hP hD hS (fun r_4 u_6 H locs hMI hp_5 hP hD hS => ?_)
  refine lv_pop hx hb dL_law_543 rfl ?_
  refine lv_goto (tgt := 2660) hx hb dL_law_544 (by decide) ?_
  refine W.widen (k := 200 + 9 * (n + 1)) (n := 10000 + 132 * (n + 1)) (by omega) (by omega) ?_
  refine lv_iinc (v := i + 6) (lv' := [(3, .int (i + 6)), (2, .ref (g 0)), (1, .ref (a 0)), (0, .ref b)]) hx hb dL_law_2660 hl (k := 0) rfl rfl (by decide) rfl (fun ls hl => ?_)
  refine lv_goto (tgt := 18) hx hb dL_law_2663 (by decide) ?_
  have hJ2 : JI (XSf u_3) (MSf u_6) := (by rw [hp_2, hp_5]; exact hJ)
  exact KK _ _ _ _ _ _ _ (i6F hi hn) hXI hMI hJ2 hP hD hS hl
set_option maxHeartbeats 8000000 in
set_option maxRecDepth 100000 in
theorem lw_case_5 {p : Program} {l : Launch} {e : Env} {s : State} {m : MethodId} {below : List Frame} {meth : Method} {c : Code} {b L : Nat} {xs : Nat → Int32} {dC : Nat → ClassId} {dI : Nat → Nat → Nat} {cB cI cJ cZ cL : ClassId} (C0 : lw_At p s m meth c b L xs) (hN : NW s) (hK : va_K (dC, dI) vwCl (tyL cB cI cJ cZ cL) s) {a g adK adV : Nat → Nat} (hV : SW adK adV (fun q : Nat => s.heap.size ≤ q) s s.heap) {n : Nat} {i : Int32} {u : XT} {v : MT} {T : va_W} (hn : n ≤ 511) (hi : Int32.toInt i = 6 * (n : Int)) (hiL : 6 * n + 6 ≤ L) (hXI : XI cB cI cJ cZ cL u T) (hMI : MI v) (hJ : JI (XSf u) (MSf v)) {H : Heap} {locs : List Loc} (hP : va_P (dC, dI) vwCl (WX a cB cI cJ cZ cL u ++ (WM g cB cI cJ cZ cL v ++ T)) H) (hD : va_D (fun q : Nat => s.heap.size ≤ q) (WX a cB cI cJ cZ cL u ++ (WM g cB cI cJ cZ cL v ++ T))) (hS : va_S (fun q : Nat => s.heap.size ≤ q) s.heap H locs) {ls : Array Slot} (hl : lv_has ls 4 [(3, .int i), (2, .ref (g 0)), (1, .ref (a 0)), (0, .ref b)]) (KK : ∀ (i : Int32) (u : XT) (v : MT) (T : va_W) (H : Heap) (locs : List Loc) (ls : Array Slot), Int32.toInt i = 6 * ((n + 1 : Nat) : Int) → XI cB cI cJ cZ cL u T → MI v → JI (XSf u) (MSf v) → va_P (dC, dI) vwCl (WX a cB cI cJ cZ cL u ++ (WM g cB cI cJ cZ cL v ++ T)) H → va_D (fun q : Nat => s.heap.size ≤ q) (WX a cB cI cJ cZ cL u ++ (WM g cB cI cJ cZ cL v ++ T)) → va_S (fun q : Nat => s.heap.size ≤ q) s.heap H locs → lv_has ls 4 [(3, .int i), (2, .ref (g 0)), (1, .ref (a 0)), (0, .ref b)] → W p l e room_1 s m #[Value.ref b] below meth c H locs (200 + 9 * (n + 1)) (10000 + 132 * (n + 1)) (lw_Z below #[Value.ref b] s) (F0 m 18 ls [])) : W p l e room_1 s m #[Value.ref b] below meth c H locs (200 + 9 * n) (10000 + 132 * n) (lw_Z below #[Value.ref b] s) (F0 m 547 ls []) := by
  obtain ⟨hx, hb, hr, hml, hown, hts, hX, hbl, hlocks, hgv⟩ := id C0
  have ht : ∀ w ∈ lw_ok, w.before #[Value.ref b] s = true := fun w h => hts w (List.mem_filter.mp h).1
  have hbA : ¬ (fun q : Nat => s.heap.size ≤ q) b := Nat.not_le.mpr hbl
  have hc0 : 200 + 9 * n + 0 ≤ room_1.cells ∧ 10000 + 132 * n + 0 ≤ room_1.slots := ⟨by show 200 + 9 * n + 0 ≤ 600000; omega, by show 10000 + 132 * n + 0 ≤ 7302249; omega⟩
  refine lv_aload_n hx hb dL_law_547 rfl (lv_at hl 2 rfl) ?_
  refine lx_stations C0 hN hK hXI hl.1 (Nat.le_of_ble_eq_true rfl) hc0 dL_law_548 hP hD hS (fun r_1 u_3 H locs hXI hp_2 hP hD hS => ?_)
  refine lv_pop hx hb dL_law_551 rfl ?_
  refine lv_aload_n hx hb dL_law_552 rfl (lv_at hl 1 rfl) ?_
  refine lm_stations C0 hN hK hMI hl.1 (Nat.le_of_ble_eq_true rfl) hc0 dL_law_553 hP hD hS (fun r_4 u_6 H locs hMI hp_5 hP hD hS => ?_)
  refine lv_pop hx hb dL_law_556 rfl ?_
  refine lv_goto (tgt := 2660) hx hb dL_law_557 (by decide) ?_
  refine W.widen (k := 200 + 9 * (n + 1)) (n := 10000 + 132 * (n + 1)) (by omega) (by omega) ?_
  refine lv_iinc (v := i + 6) (lv' := [(3, .int (i + 6)), (2, .ref (g 0)), (1, .ref (a 0)), (0, .ref b)]) hx hb dL_law_2660 hl (k := 0) rfl rfl (by decide) rfl (fun ls hl => ?_)
  refine lv_goto (tgt := 18) hx hb dL_law_2663 (by decide) ?_
  have hJ2 : JI (XSf u_3) (MSf u_6) := (by rw [hp_2, hp_5]; exact hJ)
  exact KK _ _ _ _ _ _ _ (i6F hi hn) hXI hMI hJ2 hP hD hS hl
set_option maxHeartbeats 8000000 in
set_option maxRecDepth 100000 in
theorem lw_case_6 {p : Program} {l : Launch} {e : Env} {s : State} {m : MethodId} {below : List Frame} {meth : Method} {c : Code} {b L : Nat} {xs : Nat → Int32} {dC : Nat → ClassId} {dI : Nat → Nat → Nat} {cB cI cJ cZ cL : ClassId} (C0 : lw_At p s m meth c b L xs) (hN : NW s) (hK : va_K (dC, dI) vwCl (tyL cB cI cJ cZ cL) s) {a g adK adV : Nat → Nat} (hV : SW adK adV (fun q : Nat => s.heap.size ≤ q) s s.heap) {n : Nat} {i : Int32} {u : XT} {v : MT} {T : va_W} (hn : n ≤ 511) (hi : Int32.toInt i = 6 * (n : Int)) (hiL : 6 * n + 6 ≤ L) (hXI : XI cB cI cJ cZ cL u T) (hMI : MI v) (hJ : JI (XSf u) (MSf v)) {H : Heap} {locs : List Loc} (hP : va_P (dC, dI) vwCl (WX a cB cI cJ cZ cL u ++ (WM g cB cI cJ cZ cL v ++ T)) H) (hD : va_D (fun q : Nat => s.heap.size ≤ q) (WX a cB cI cJ cZ cL u ++ (WM g cB cI cJ cZ cL v ++ T))) (hS : va_S (fun q : Nat => s.heap.size ≤ q) s.heap H locs) {ls : Array Slot} (hl : lv_has ls 4 [(3, .int i), (2, .ref (g 0)), (1, .ref (a 0)), (0, .ref b)]) (KK : ∀ (i : Int32) (u : XT) (v : MT) (T : va_W) (H : Heap) (locs : List Loc) (ls : Array Slot), Int32.toInt i = 6 * ((n + 1 : Nat) : Int) → XI cB cI cJ cZ cL u T → MI v → JI (XSf u) (MSf v) → va_P (dC, dI) vwCl (WX a cB cI cJ cZ cL u ++ (WM g cB cI cJ cZ cL v ++ T)) H → va_D (fun q : Nat => s.heap.size ≤ q) (WX a cB cI cJ cZ cL u ++ (WM g cB cI cJ cZ cL v ++ T)) → va_S (fun q : Nat => s.heap.size ≤ q) s.heap H locs → lv_has ls 4 [(3, .int i), (2, .ref (g 0)), (1, .ref (a 0)), (0, .ref b)] → W p l e room_1 s m #[Value.ref b] below meth c H locs (200 + 9 * (n + 1)) (10000 + 132 * (n + 1)) (lw_Z below #[Value.ref b] s) (F0 m 18 ls [])) : W p l e room_1 s m #[Value.ref b] below meth c H locs (200 + 9 * n) (10000 + 132 * n) (lw_Z below #[Value.ref b] s) (F0 m 560 ls []) := by
  obtain ⟨hx, hb, hr, hml, hown, hts, hX, hbl, hlocks, hgv⟩ := id C0
  have ht : ∀ w ∈ lw_ok, w.before #[Value.ref b] s = true := fun w h => hts w (List.mem_filter.mp h).1
  have hbA : ¬ (fun q : Nat => s.heap.size ≤ q) b := Nat.not_le.mpr hbl
  have hc0 : 200 + 9 * n + 0 ≤ room_1.cells ∧ 10000 + 132 * n + 0 ≤ room_1.slots := ⟨by show 200 + 9 * n + 0 ≤ 600000; omega, by show 10000 + 132 * n + 0 ≤ 7302249; omega⟩
  refine lv_aload_n hx hb dL_law_560 rfl (lv_at hl 2 rfl) ?_
  refine lx_wets C0 hN hK hXI hl.1 (Nat.le_of_ble_eq_true rfl) hc0 dL_law_561 hP hD hS (fun r_1 u_3 H locs hXI hp_2 hP hD hS => ?_)
  refine lv_pop hx hb dL_law_564 rfl ?_
  refine lv_aload_n hx hb dL_law_565 rfl (lv_at hl 1 rfl) ?_
  refine lm_wets C0 hN hK hMI hl.1 (Nat.le_of_ble_eq_true rfl) hc0 dL_law_566 hP hD hS (fun r_4 u_6 H locs hMI hp_5 hP hD hS => ?_)
  refine lv_pop hx hb dL_law_569 rfl ?_
  refine lv_goto (tgt := 2660) hx hb dL_law_570 (by decide) ?_
  refine W.widen (k := 200 + 9 * (n + 1)) (n := 10000 + 132 * (n + 1)) (by omega) (by omega) ?_
  refine lv_iinc (v := i + 6) (lv' := [(3, .int (i + 6)), (2, .ref (g 0)), (1, .ref (a 0)), (0, .ref b)]) hx hb dL_law_2660 hl (k := 0) rfl rfl (by decide) rfl (fun ls hl => ?_)
  refine lv_goto (tgt := 18) hx hb dL_law_2663 (by decide) ?_
  have hJ2 : JI (XSf u_3) (MSf u_6) := (by rw [hp_2, hp_5]; exact hJ)
  exact KK _ _ _ _ _ _ _ (i6F hi hn) hXI hMI hJ2 hP hD hS hl
set_option maxHeartbeats 8000000 in
set_option maxRecDepth 100000 in
theorem lw_case_7 {p : Program} {l : Launch} {e : Env} {s : State} {m : MethodId} {below : List Frame} {meth : Method} {c : Code} {b L : Nat} {xs : Nat → Int32} {dC : Nat → ClassId} {dI : Nat → Nat → Nat} {cB cI cJ cZ cL : ClassId} (C0 : lw_At p s m meth c b L xs) (hN : NW s) (hK : va_K (dC, dI) vwCl (tyL cB cI cJ cZ cL) s) {a g adK adV : Nat → Nat} (hV : SW adK adV (fun q : Nat => s.heap.size ≤ q) s s.heap) {n : Nat} {i : Int32} {u : XT} {v : MT} {T : va_W} (hn : n ≤ 511) (hi : Int32.toInt i = 6 * (n : Int)) (hiL : 6 * n + 6 ≤ L) (hXI : XI cB cI cJ cZ cL u T) (hMI : MI v) (hJ : JI (XSf u) (MSf v)) {H : Heap} {locs : List Loc} (hP : va_P (dC, dI) vwCl (WX a cB cI cJ cZ cL u ++ (WM g cB cI cJ cZ cL v ++ T)) H) (hD : va_D (fun q : Nat => s.heap.size ≤ q) (WX a cB cI cJ cZ cL u ++ (WM g cB cI cJ cZ cL v ++ T))) (hS : va_S (fun q : Nat => s.heap.size ≤ q) s.heap H locs) {ls : Array Slot} (hl : lv_has ls 4 [(3, .int i), (2, .ref (g 0)), (1, .ref (a 0)), (0, .ref b)]) (KK : ∀ (i : Int32) (u : XT) (v : MT) (T : va_W) (H : Heap) (locs : List Loc) (ls : Array Slot), Int32.toInt i = 6 * ((n + 1 : Nat) : Int) → XI cB cI cJ cZ cL u T → MI v → JI (XSf u) (MSf v) → va_P (dC, dI) vwCl (WX a cB cI cJ cZ cL u ++ (WM g cB cI cJ cZ cL v ++ T)) H → va_D (fun q : Nat => s.heap.size ≤ q) (WX a cB cI cJ cZ cL u ++ (WM g cB cI cJ cZ cL v ++ T)) → va_S (fun q : Nat => s.heap.size ≤ q) s.heap H locs → lv_has ls 4 [(3, .int i), (2, .ref (g 0)), (1, .ref (a 0)), (0, .ref b)] → W p l e room_1 s m #[Value.ref b] below meth c H locs (200 + 9 * (n + 1)) (10000 + 132 * (n + 1)) (lw_Z below #[Value.ref b] s) (F0 m 18 ls [])) : W p l e room_1 s m #[Value.ref b] below meth c H locs (200 + 9 * n) (10000 + 132 * n) (lw_Z below #[Value.ref b] s) (F0 m 573 ls []) := by
  obtain ⟨hx, hb, hr, hml, hown, hts, hX, hbl, hlocks, hgv⟩ := id C0
  have ht : ∀ w ∈ lw_ok, w.before #[Value.ref b] s = true := fun w h => hts w (List.mem_filter.mp h).1
  have hbA : ¬ (fun q : Nat => s.heap.size ≤ q) b := Nat.not_le.mpr hbl
  have hc0 : 200 + 9 * n + 0 ≤ room_1.cells ∧ 10000 + 132 * n + 0 ≤ room_1.slots := ⟨by show 200 + 9 * n + 0 ≤ 600000; omega, by show 10000 + 132 * n + 0 ≤ 7302249; omega⟩
  have v1 : vp_in (i + 1) L := ijF hi hn hiL (by decide) (by decide)
  have v2 : vp_in (i + 2) L := ijF hi hn hiL (by decide) (by decide)
  refine lv_aload_n hx hb dL_law_573 rfl (lv_at hl 2 rfl) ?_
  refine lv_aload_n hx hb dL_law_574 rfl (lv_at hl 3 rfl) ?_
  refine lv_iload_n hx hb dL_law_575 rfl (lv_at hl 0 rfl) ?_
  refine lv_iconst (v := 1) hx hb dL_law_576 (by decide) ?_
  refine lv_iadd hx hb dL_law_577 ?_
  refine va_sld hx hb hX hbl hbA hS v1 dL_law_578 ?_
  refine lv_aload_n hx hb dL_law_579 rfl (lv_at hl 3 rfl) ?_
  refine lv_iload_n hx hb dL_law_580 rfl (lv_at hl 0 rfl) ?_
  refine lv_iconst (v := 2) hx hb dL_law_581 (by decide) ?_
  refine lv_iadd hx hb dL_law_582 ?_
  refine va_sld hx hb hX hbl hbA hS v2 dL_law_583 ?_
  refine lx_leak C0 hN hK hXI hl.1 (Nat.le_of_ble_eq_true rfl) hc0 dL_law_584 hP hD hS (fun r_1 u_3 H locs hXI hp_2 hP hD hS => ?_)
  refine lv_pop hx hb dL_law_587 rfl ?_
  refine lv_aload_n hx hb dL_law_588 rfl (lv_at hl 1 rfl) ?_
  refine lv_aload_n hx hb dL_law_589 rfl (lv_at hl 3 rfl) ?_
  refine lv_iload_n hx hb dL_law_590 rfl (lv_at hl 0 rfl) ?_
  refine lv_iconst (v := 1) hx hb dL_law_591 (by decide) ?_
  refine lv_iadd hx hb dL_law_592 ?_
  refine va_sld hx hb hX hbl hbA hS v1 dL_law_593 ?_
  refine lv_aload_n hx hb dL_law_594 rfl (lv_at hl 3 rfl) ?_
  refine lv_iload_n hx hb dL_law_595 rfl (lv_at hl 0 rfl) ?_
  refine lv_iconst (v := 2) hx hb dL_law_596 (by decide) ?_
  refine lv_iadd hx hb dL_law_597 ?_
  refine va_sld hx hb hX hbl hbA hS v2 dL_law_598 ?_
  refine lm_leak C0 hN hK hMI hl.1 (Nat.le_of_ble_eq_true rfl) hc0 dL_law_599 hP hD hS (fun r_4 u_6 H locs hMI hp_5 hP hD hS => ?_)
  refine lv_pop hx hb dL_law_602 rfl ?_
  refine lv_goto (tgt := 2660) hx hb dL_law_603 (by decide) ?_
  refine W.widen (k := 200 + 9 * (n + 1)) (n := 10000 + 132 * (n + 1)) (by omega) (by omega) ?_
  refine lv_iinc (v := i + 6) (lv' := [(3, .int (i + 6)), (2, .ref (g 0)), (1, .ref (a 0)), (0, .ref b)]) hx hb dL_law_2660 hl (k := 0) rfl rfl (by decide) rfl (fun ls hl => ?_)
  refine lv_goto (tgt := 18) hx hb dL_law_2663 (by decide) ?_
  have hJ2 : JI (XSf u_3) (MSf u_6) := (by rw [hp_2, hp_5]; exact hJ)
  exact KK _ _ _ _ _ _ _ (i6F hi hn) hXI hMI hJ2 hP hD hS hl
set_option maxHeartbeats 8000000 in
set_option maxRecDepth 100000 in
theorem lw_case_8 {p : Program} {l : Launch} {e : Env} {s : State} {m : MethodId} {below : List Frame} {meth : Method} {c : Code} {b L : Nat} {xs : Nat → Int32} {dC : Nat → ClassId} {dI : Nat → Nat → Nat} {cB cI cJ cZ cL : ClassId} (C0 : lw_At p s m meth c b L xs) (hN : NW s) (hK : va_K (dC, dI) vwCl (tyL cB cI cJ cZ cL) s) {a g adK adV : Nat → Nat} (hV : SW adK adV (fun q : Nat => s.heap.size ≤ q) s s.heap) {n : Nat} {i : Int32} {u : XT} {v : MT} {T : va_W} (hn : n ≤ 511) (hi : Int32.toInt i = 6 * (n : Int)) (hiL : 6 * n + 6 ≤ L) (hXI : XI cB cI cJ cZ cL u T) (hMI : MI v) (hJ : JI (XSf u) (MSf v)) {H : Heap} {locs : List Loc} (hP : va_P (dC, dI) vwCl (WX a cB cI cJ cZ cL u ++ (WM g cB cI cJ cZ cL v ++ T)) H) (hD : va_D (fun q : Nat => s.heap.size ≤ q) (WX a cB cI cJ cZ cL u ++ (WM g cB cI cJ cZ cL v ++ T))) (hS : va_S (fun q : Nat => s.heap.size ≤ q) s.heap H locs) {ls : Array Slot} (hl : lv_has ls 4 [(3, .int i), (2, .ref (g 0)), (1, .ref (a 0)), (0, .ref b)]) (KK : ∀ (i : Int32) (u : XT) (v : MT) (T : va_W) (H : Heap) (locs : List Loc) (ls : Array Slot), Int32.toInt i = 6 * ((n + 1 : Nat) : Int) → XI cB cI cJ cZ cL u T → MI v → JI (XSf u) (MSf v) → va_P (dC, dI) vwCl (WX a cB cI cJ cZ cL u ++ (WM g cB cI cJ cZ cL v ++ T)) H → va_D (fun q : Nat => s.heap.size ≤ q) (WX a cB cI cJ cZ cL u ++ (WM g cB cI cJ cZ cL v ++ T)) → va_S (fun q : Nat => s.heap.size ≤ q) s.heap H locs → lv_has ls 4 [(3, .int i), (2, .ref (g 0)), (1, .ref (a 0)), (0, .ref b)] → W p l e room_1 s m #[Value.ref b] below meth c H locs (200 + 9 * (n + 1)) (10000 + 132 * (n + 1)) (lw_Z below #[Value.ref b] s) (F0 m 18 ls [])) : W p l e room_1 s m #[Value.ref b] below meth c H locs (200 + 9 * n) (10000 + 132 * n) (lw_Z below #[Value.ref b] s) (F0 m 606 ls []) := by
  obtain ⟨hx, hb, hr, hml, hown, hts, hX, hbl, hlocks, hgv⟩ := id C0
  have ht : ∀ w ∈ lw_ok, w.before #[Value.ref b] s = true := fun w h => hts w (List.mem_filter.mp h).1
  have hbA : ¬ (fun q : Nat => s.heap.size ≤ q) b := Nat.not_le.mpr hbl
  have hc0 : 200 + 9 * n + 0 ≤ room_1.cells ∧ 10000 + 132 * n + 0 ≤ room_1.slots := ⟨by show 200 + 9 * n + 0 ≤ 600000; omega, by show 10000 + 132 * n + 0 ≤ 7302249; omega⟩
  have v1 : vp_in (i + 1) L := ijF hi hn hiL (by decide) (by decide)
  refine lv_aload_n hx hb dL_law_606 rfl (lv_at hl 2 rfl) ?_
  refine lv_aload_n hx hb dL_law_607 rfl (lv_at hl 3 rfl) ?_
  refine lv_iload_n hx hb dL_law_608 rfl (lv_at hl 0 rfl) ?_
  refine lv_iconst (v := 1) hx hb dL_law_609 (by decide) ?_
  refine lv_iadd hx hb dL_law_610 ?_
  refine va_sld hx hb hX hbl hbA hS v1 dL_law_611 ?_
  refine lx_joined C0 hN hK hXI hl.1 (Nat.le_of_ble_eq_true rfl) hc0 dL_law_612 hP hD hS (fun r_1 u_3 H locs hXI hp_2 hP hD hS => ?_)
  refine lv_pop hx hb dL_law_615 rfl ?_
  refine lv_aload_n hx hb dL_law_616 rfl (lv_at hl 1 rfl) ?_
  refine lv_aload_n hx hb dL_law_617 rfl (lv_at hl 3 rfl) ?_
  refine lv_iload_n hx hb dL_law_618 rfl (lv_at hl 0 rfl) ?_
  refine lv_iconst (v := 1) hx hb dL_law_619 (by decide) ?_
  refine lv_iadd hx hb dL_law_620 ?_
  refine va_sld hx hb hX hbl hbA hS v1 dL_law_621 ?_
  refine lm_joined C0 hN hK hMI hl.1 (Nat.le_of_ble_eq_true rfl) hc0 dL_law_622 hP hD hS (fun r_4 u_6 H locs hMI hp_5 hP hD hS => ?_)
  refine lv_pop hx hb dL_law_625 rfl ?_
  refine lv_goto (tgt := 2660) hx hb dL_law_626 (by decide) ?_
  refine W.widen (k := 200 + 9 * (n + 1)) (n := 10000 + 132 * (n + 1)) (by omega) (by omega) ?_
  refine lv_iinc (v := i + 6) (lv' := [(3, .int (i + 6)), (2, .ref (g 0)), (1, .ref (a 0)), (0, .ref b)]) hx hb dL_law_2660 hl (k := 0) rfl rfl (by decide) rfl (fun ls hl => ?_)
  refine lv_goto (tgt := 18) hx hb dL_law_2663 (by decide) ?_
  have hJ2 : JI (XSf u_3) (MSf u_6) := (by rw [hp_2, hp_5]; exact hJ)
  exact KK _ _ _ _ _ _ _ (i6F hi hn) hXI hMI hJ2 hP hD hS hl
set_option maxHeartbeats 8000000 in
set_option maxRecDepth 100000 in
theorem lw_case_9 {p : Program} {l : Launch} {e : Env} {s : State} {m : MethodId} {below : List Frame} {meth : Method} {c : Code} {b L : Nat} {xs : Nat → Int32} {dC : Nat → ClassId} {dI : Nat → Nat → Nat} {cB cI cJ cZ cL : ClassId} (C0 : lw_At p s m meth c b L xs) (hN : NW s) (hK : va_K (dC, dI) vwCl (tyL cB cI cJ cZ cL) s) {a g adK adV : Nat → Nat} (hV : SW adK adV (fun q : Nat => s.heap.size ≤ q) s s.heap) {n : Nat} {i : Int32} {u : XT} {v : MT} {T : va_W} (hn : n ≤ 511) (hi : Int32.toInt i = 6 * (n : Int)) (hiL : 6 * n + 6 ≤ L) (hXI : XI cB cI cJ cZ cL u T) (hMI : MI v) (hJ : JI (XSf u) (MSf v)) {H : Heap} {locs : List Loc} (hP : va_P (dC, dI) vwCl (WX a cB cI cJ cZ cL u ++ (WM g cB cI cJ cZ cL v ++ T)) H) (hD : va_D (fun q : Nat => s.heap.size ≤ q) (WX a cB cI cJ cZ cL u ++ (WM g cB cI cJ cZ cL v ++ T))) (hS : va_S (fun q : Nat => s.heap.size ≤ q) s.heap H locs) {ls : Array Slot} (hl : lv_has ls 4 [(3, .int i), (2, .ref (g 0)), (1, .ref (a 0)), (0, .ref b)]) (KK : ∀ (i : Int32) (u : XT) (v : MT) (T : va_W) (H : Heap) (locs : List Loc) (ls : Array Slot), Int32.toInt i = 6 * ((n + 1 : Nat) : Int) → XI cB cI cJ cZ cL u T → MI v → JI (XSf u) (MSf v) → va_P (dC, dI) vwCl (WX a cB cI cJ cZ cL u ++ (WM g cB cI cJ cZ cL v ++ T)) H → va_D (fun q : Nat => s.heap.size ≤ q) (WX a cB cI cJ cZ cL u ++ (WM g cB cI cJ cZ cL v ++ T)) → va_S (fun q : Nat => s.heap.size ≤ q) s.heap H locs → lv_has ls 4 [(3, .int i), (2, .ref (g 0)), (1, .ref (a 0)), (0, .ref b)] → W p l e room_1 s m #[Value.ref b] below meth c H locs (200 + 9 * (n + 1)) (10000 + 132 * (n + 1)) (lw_Z below #[Value.ref b] s) (F0 m 18 ls [])) : W p l e room_1 s m #[Value.ref b] below meth c H locs (200 + 9 * n) (10000 + 132 * n) (lw_Z below #[Value.ref b] s) (F0 m 629 ls []) := by
  obtain ⟨hx, hb, hr, hml, hown, hts, hX, hbl, hlocks, hgv⟩ := id C0
  have ht : ∀ w ∈ lw_ok, w.before #[Value.ref b] s = true := fun w h => hts w (List.mem_filter.mp h).1
  have hbA : ¬ (fun q : Nat => s.heap.size ≤ q) b := Nat.not_le.mpr hbl
  have hc0 : 200 + 9 * n + 0 ≤ room_1.cells ∧ 10000 + 132 * n + 0 ≤ room_1.slots := ⟨by show 200 + 9 * n + 0 ≤ 600000; omega, by show 10000 + 132 * n + 0 ≤ 7302249; omega⟩
  have v1 : vp_in (i + 1) L := ijF hi hn hiL (by decide) (by decide)
  have v2 : vp_in (i + 2) L := ijF hi hn hiL (by decide) (by decide)
  refine lv_aload_n hx hb dL_law_629 rfl (lv_at hl 2 rfl) ?_
  refine lv_aload_n hx hb dL_law_630 rfl (lv_at hl 3 rfl) ?_
  refine lv_iload_n hx hb dL_law_631 rfl (lv_at hl 0 rfl) ?_
  refine lv_iconst (v := 1) hx hb dL_law_632 (by decide) ?_
  refine lv_iadd hx hb dL_law_633 ?_
  refine va_sld hx hb hX hbl hbA hS v1 dL_law_634 ?_
  refine lv_aload_n hx hb dL_law_635 rfl (lv_at hl 3 rfl) ?_
  refine lv_iload_n hx hb dL_law_636 rfl (lv_at hl 0 rfl) ?_
  refine lv_iconst (v := 2) hx hb dL_law_637 (by decide) ?_
  refine lv_iadd hx hb dL_law_638 ?_
  refine va_sld hx hb hX hbl hbA hS v2 dL_law_639 ?_
  refine lx_ohms C0 hN hK hXI hl.1 (Nat.le_of_ble_eq_true rfl) hc0 dL_law_640 hP hD hS (fun r_1 u_3 H locs hXI hp_2 hP hD hS => ?_)
  refine lv_pop2_2 hx hb dL_law_643 rfl ?_
  refine lv_aload_n hx hb dL_law_644 rfl (lv_at hl 1 rfl) ?_
  refine lv_aload_n hx hb dL_law_645 rfl (lv_at hl 3 rfl) ?_
  refine lv_iload_n hx hb dL_law_646 rfl (lv_at hl 0 rfl) ?_
  refine lv_iconst (v := 1) hx hb dL_law_647 (by decide) ?_
  refine lv_iadd hx hb dL_law_648 ?_
  refine va_sld hx hb hX hbl hbA hS v1 dL_law_649 ?_
  refine lv_aload_n hx hb dL_law_650 rfl (lv_at hl 3 rfl) ?_
  refine lv_iload_n hx hb dL_law_651 rfl (lv_at hl 0 rfl) ?_
  refine lv_iconst (v := 2) hx hb dL_law_652 (by decide) ?_
  refine lv_iadd hx hb dL_law_653 ?_
  refine va_sld hx hb hX hbl hbA hS v2 dL_law_654 ?_
  refine lm_ohms C0 hN hK hMI hl.1 (Nat.le_of_ble_eq_true rfl) hc0 dL_law_655 hP hD hS (fun r_4 u_6 H locs hMI hp_5 hP hD hS => ?_)
  refine lv_pop2_2 hx hb dL_law_658 rfl ?_
  refine lv_goto (tgt := 2660) hx hb dL_law_659 (by decide) ?_
  refine W.widen (k := 200 + 9 * (n + 1)) (n := 10000 + 132 * (n + 1)) (by omega) (by omega) ?_
  refine lv_iinc (v := i + 6) (lv' := [(3, .int (i + 6)), (2, .ref (g 0)), (1, .ref (a 0)), (0, .ref b)]) hx hb dL_law_2660 hl (k := 0) rfl rfl (by decide) rfl (fun ls hl => ?_)
  refine lv_goto (tgt := 18) hx hb dL_law_2663 (by decide) ?_
  have hJ2 : JI (XSf u_3) (MSf u_6) := (by rw [hp_2, hp_5]; exact hJ)
  exact KK _ _ _ _ _ _ _ (i6F hi hn) hXI hMI hJ2 hP hD hS hl
set_option maxHeartbeats 8000000 in
set_option maxRecDepth 100000 in
theorem lw_case_10 {p : Program} {l : Launch} {e : Env} {s : State} {m : MethodId} {below : List Frame} {meth : Method} {c : Code} {b L : Nat} {xs : Nat → Int32} {dC : Nat → ClassId} {dI : Nat → Nat → Nat} {cB cI cJ cZ cL : ClassId} (C0 : lw_At p s m meth c b L xs) (hN : NW s) (hK : va_K (dC, dI) vwCl (tyL cB cI cJ cZ cL) s) {a g adK adV : Nat → Nat} (hV : SW adK adV (fun q : Nat => s.heap.size ≤ q) s s.heap) {n : Nat} {i : Int32} {u : XT} {v : MT} {T : va_W} (hn : n ≤ 511) (hi : Int32.toInt i = 6 * (n : Int)) (hiL : 6 * n + 6 ≤ L) (hXI : XI cB cI cJ cZ cL u T) (hMI : MI v) (hJ : JI (XSf u) (MSf v)) {H : Heap} {locs : List Loc} (hP : va_P (dC, dI) vwCl (WX a cB cI cJ cZ cL u ++ (WM g cB cI cJ cZ cL v ++ T)) H) (hD : va_D (fun q : Nat => s.heap.size ≤ q) (WX a cB cI cJ cZ cL u ++ (WM g cB cI cJ cZ cL v ++ T))) (hS : va_S (fun q : Nat => s.heap.size ≤ q) s.heap H locs) {ls : Array Slot} (hl : lv_has ls 4 [(3, .int i), (2, .ref (g 0)), (1, .ref (a 0)), (0, .ref b)]) (KK : ∀ (i : Int32) (u : XT) (v : MT) (T : va_W) (H : Heap) (locs : List Loc) (ls : Array Slot), Int32.toInt i = 6 * ((n + 1 : Nat) : Int) → XI cB cI cJ cZ cL u T → MI v → JI (XSf u) (MSf v) → va_P (dC, dI) vwCl (WX a cB cI cJ cZ cL u ++ (WM g cB cI cJ cZ cL v ++ T)) H → va_D (fun q : Nat => s.heap.size ≤ q) (WX a cB cI cJ cZ cL u ++ (WM g cB cI cJ cZ cL v ++ T)) → va_S (fun q : Nat => s.heap.size ≤ q) s.heap H locs → lv_has ls 4 [(3, .int i), (2, .ref (g 0)), (1, .ref (a 0)), (0, .ref b)] → W p l e room_1 s m #[Value.ref b] below meth c H locs (200 + 9 * (n + 1)) (10000 + 132 * (n + 1)) (lw_Z below #[Value.ref b] s) (F0 m 18 ls [])) : W p l e room_1 s m #[Value.ref b] below meth c H locs (200 + 9 * n) (10000 + 132 * n) (lw_Z below #[Value.ref b] s) (F0 m 662 ls []) := by
  obtain ⟨hx, hb, hr, hml, hown, hts, hX, hbl, hlocks, hgv⟩ := id C0
  have ht : ∀ w ∈ lw_ok, w.before #[Value.ref b] s = true := fun w h => hts w (List.mem_filter.mp h).1
  have hbA : ¬ (fun q : Nat => s.heap.size ≤ q) b := Nat.not_le.mpr hbl
  have hc0 : 200 + 9 * n + 0 ≤ room_1.cells ∧ 10000 + 132 * n + 0 ≤ room_1.slots := ⟨by show 200 + 9 * n + 0 ≤ 600000; omega, by show 10000 + 132 * n + 0 ≤ 7302249; omega⟩
  have v1 : vp_in (i + 1) L := ijF hi hn hiL (by decide) (by decide)
  have v2 : vp_in (i + 2) L := ijF hi hn hiL (by decide) (by decide)
  refine lv_aload_n hx hb dL_law_662 rfl (lv_at hl 2 rfl) ?_
  refine lv_aload_n hx hb dL_law_663 rfl (lv_at hl 3 rfl) ?_
  refine lv_iload_n hx hb dL_law_664 rfl (lv_at hl 0 rfl) ?_
  refine lv_iconst (v := 1) hx hb dL_law_665 (by decide) ?_
  refine lv_iadd hx hb dL_law_666 ?_
  refine va_sld hx hb hX hbl hbA hS v1 dL_law_667 ?_
  refine lv_aload_n hx hb dL_law_668 rfl (lv_at hl 3 rfl) ?_
  refine lv_iload_n hx hb dL_law_669 rfl (lv_at hl 0 rfl) ?_
  refine lv_iconst (v := 2) hx hb dL_law_670 (by decide) ?_
  refine lv_iadd hx hb dL_law_671 ?_
  refine va_sld hx hb hX hbl hbA hS v2 dL_law_672 ?_
  refine lx_amps C0 hN hK hXI hl.1 (Nat.le_of_ble_eq_true rfl) hc0 dL_law_673 hP hD hS (fun r_1 u_3 H locs hXI hp_2 hP hD hS => ?_)
  refine lv_pop2_2 hx hb dL_law_676 rfl ?_
  refine lv_aload_n hx hb dL_law_677 rfl (lv_at hl 1 rfl) ?_
  refine lv_aload_n hx hb dL_law_678 rfl (lv_at hl 3 rfl) ?_
  refine lv_iload_n hx hb dL_law_679 rfl (lv_at hl 0 rfl) ?_
  refine lv_iconst (v := 1) hx hb dL_law_680 (by decide) ?_
  refine lv_iadd hx hb dL_law_681 ?_
  refine va_sld hx hb hX hbl hbA hS v1 dL_law_682 ?_
  refine lv_aload_n hx hb dL_law_683 rfl (lv_at hl 3 rfl) ?_
  refine lv_iload_n hx hb dL_law_684 rfl (lv_at hl 0 rfl) ?_
  refine lv_iconst (v := 2) hx hb dL_law_685 (by decide) ?_
  refine lv_iadd hx hb dL_law_686 ?_
  refine va_sld hx hb hX hbl hbA hS v2 dL_law_687 ?_
  refine lm_amps C0 hN hK hMI hl.1 (Nat.le_of_ble_eq_true rfl) hc0 dL_law_688 hP hD hS (fun r_4 u_6 H locs hMI hp_5 hP hD hS => ?_)
  refine lv_pop2_2 hx hb dL_law_691 rfl ?_
  refine lv_goto (tgt := 2660) hx hb dL_law_692 (by decide) ?_
  refine W.widen (k := 200 + 9 * (n + 1)) (n := 10000 + 132 * (n + 1)) (by omega) (by omega) ?_
  refine lv_iinc (v := i + 6) (lv' := [(3, .int (i + 6)), (2, .ref (g 0)), (1, .ref (a 0)), (0, .ref b)]) hx hb dL_law_2660 hl (k := 0) rfl rfl (by decide) rfl (fun ls hl => ?_)
  refine lv_goto (tgt := 18) hx hb dL_law_2663 (by decide) ?_
  have hJ2 : JI (XSf u_3) (MSf u_6) := (by rw [hp_2, hp_5]; exact hJ)
  exact KK _ _ _ _ _ _ _ (i6F hi hn) hXI hMI hJ2 hP hD hS hl
set_option maxHeartbeats 8000000 in
set_option maxRecDepth 100000 in
theorem lw_case_11 {p : Program} {l : Launch} {e : Env} {s : State} {m : MethodId} {below : List Frame} {meth : Method} {c : Code} {b L : Nat} {xs : Nat → Int32} {dC : Nat → ClassId} {dI : Nat → Nat → Nat} {cB cI cJ cZ cL : ClassId} (C0 : lw_At p s m meth c b L xs) (hN : NW s) (hK : va_K (dC, dI) vwCl (tyL cB cI cJ cZ cL) s) {a g adK adV : Nat → Nat} (hV : SW adK adV (fun q : Nat => s.heap.size ≤ q) s s.heap) {n : Nat} {i : Int32} {u : XT} {v : MT} {T : va_W} (hn : n ≤ 511) (hi : Int32.toInt i = 6 * (n : Int)) (hiL : 6 * n + 6 ≤ L) (hXI : XI cB cI cJ cZ cL u T) (hMI : MI v) (hJ : JI (XSf u) (MSf v)) {H : Heap} {locs : List Loc} (hP : va_P (dC, dI) vwCl (WX a cB cI cJ cZ cL u ++ (WM g cB cI cJ cZ cL v ++ T)) H) (hD : va_D (fun q : Nat => s.heap.size ≤ q) (WX a cB cI cJ cZ cL u ++ (WM g cB cI cJ cZ cL v ++ T))) (hS : va_S (fun q : Nat => s.heap.size ≤ q) s.heap H locs) {ls : Array Slot} (hl : lv_has ls 4 [(3, .int i), (2, .ref (g 0)), (1, .ref (a 0)), (0, .ref b)]) (KK : ∀ (i : Int32) (u : XT) (v : MT) (T : va_W) (H : Heap) (locs : List Loc) (ls : Array Slot), Int32.toInt i = 6 * ((n + 1 : Nat) : Int) → XI cB cI cJ cZ cL u T → MI v → JI (XSf u) (MSf v) → va_P (dC, dI) vwCl (WX a cB cI cJ cZ cL u ++ (WM g cB cI cJ cZ cL v ++ T)) H → va_D (fun q : Nat => s.heap.size ≤ q) (WX a cB cI cJ cZ cL u ++ (WM g cB cI cJ cZ cL v ++ T)) → va_S (fun q : Nat => s.heap.size ≤ q) s.heap H locs → lv_has ls 4 [(3, .int i), (2, .ref (g 0)), (1, .ref (a 0)), (0, .ref b)] → W p l e room_1 s m #[Value.ref b] below meth c H locs (200 + 9 * (n + 1)) (10000 + 132 * (n + 1)) (lw_Z below #[Value.ref b] s) (F0 m 18 ls [])) : W p l e room_1 s m #[Value.ref b] below meth c H locs (200 + 9 * n) (10000 + 132 * n) (lw_Z below #[Value.ref b] s) (F0 m 695 ls []) := by
  obtain ⟨hx, hb, hr, hml, hown, hts, hX, hbl, hlocks, hgv⟩ := id C0
  have ht : ∀ w ∈ lw_ok, w.before #[Value.ref b] s = true := fun w h => hts w (List.mem_filter.mp h).1
  have hbA : ¬ (fun q : Nat => s.heap.size ≤ q) b := Nat.not_le.mpr hbl
  have hc0 : 200 + 9 * n + 0 ≤ room_1.cells ∧ 10000 + 132 * n + 0 ≤ room_1.slots := ⟨by show 200 + 9 * n + 0 ≤ 600000; omega, by show 10000 + 132 * n + 0 ≤ 7302249; omega⟩
  have v1 : vp_in (i + 1) L := ijF hi hn hiL (by decide) (by decide)
  have v2 : vp_in (i + 2) L := ijF hi hn hiL (by decide) (by decide)
  have v3 : vp_in (i + 3) L := ijF hi hn hiL (by decide) (by decide)
  refine lv_aload_n hx hb dL_law_695 rfl (lv_at hl 2 rfl) ?_
  refine lv_aload_n hx hb dL_law_696 rfl (lv_at hl 3 rfl) ?_
  refine lv_iload_n hx hb dL_law_697 rfl (lv_at hl 0 rfl) ?_
  refine lv_iconst (v := 1) hx hb dL_law_698 (by decide) ?_
  refine lv_iadd hx hb dL_law_699 ?_
  refine va_sld hx hb hX hbl hbA hS v1 dL_law_700 ?_
  refine lv_aload_n hx hb dL_law_701 rfl (lv_at hl 3 rfl) ?_
  refine lv_iload_n hx hb dL_law_702 rfl (lv_at hl 0 rfl) ?_
  refine lv_iconst (v := 2) hx hb dL_law_703 (by decide) ?_
  refine lv_iadd hx hb dL_law_704 ?_
  refine va_sld hx hb hX hbl hbA hS v2 dL_law_705 ?_
  refine lv_aload_n hx hb dL_law_706 rfl (lv_at hl 3 rfl) ?_
  refine lv_iload_n hx hb dL_law_707 rfl (lv_at hl 0 rfl) ?_
  refine lv_iconst (v := 3) hx hb dL_law_708 (by decide) ?_
  refine lv_iadd hx hb dL_law_709 ?_
  refine va_sld hx hb hX hbl hbA hS v3 dL_law_710 ?_
  refine lx_volts C0 hN hK hXI hl.1 (Nat.le_of_ble_eq_true rfl) hc0 dL_law_711 hP hD hS (fun r_1 u_3 H locs hXI hp_2 hP hD hS => ?_)
  refine lv_pop2_2 hx hb dL_law_714 rfl ?_
  refine lv_aload_n hx hb dL_law_715 rfl (lv_at hl 1 rfl) ?_
  refine lv_aload_n hx hb dL_law_716 rfl (lv_at hl 3 rfl) ?_
  refine lv_iload_n hx hb dL_law_717 rfl (lv_at hl 0 rfl) ?_
  refine lv_iconst (v := 1) hx hb dL_law_718 (by decide) ?_
  refine lv_iadd hx hb dL_law_719 ?_
  refine va_sld hx hb hX hbl hbA hS v1 dL_law_720 ?_
  refine lv_aload_n hx hb dL_law_721 rfl (lv_at hl 3 rfl) ?_
  refine lv_iload_n hx hb dL_law_722 rfl (lv_at hl 0 rfl) ?_
  refine lv_iconst (v := 2) hx hb dL_law_723 (by decide) ?_
  refine lv_iadd hx hb dL_law_724 ?_
  refine va_sld hx hb hX hbl hbA hS v2 dL_law_725 ?_
  refine lv_aload_n hx hb dL_law_726 rfl (lv_at hl 3 rfl) ?_
  refine lv_iload_n hx hb dL_law_727 rfl (lv_at hl 0 rfl) ?_
  refine lv_iconst (v := 3) hx hb dL_law_728 (by decide) ?_
  refine lv_iadd hx hb dL_law_729 ?_
  refine va_sld hx hb hX hbl hbA hS v3 dL_law_730 ?_
  refine lm_volts C0 hN hK hMI hl.1 (Nat.le_of_ble_eq_true rfl) hc0 dL_law_731 hP hD hS (fun r_4 u_6 H locs hMI hp_5 hP hD hS => ?_)
  refine lv_pop2_2 hx hb dL_law_734 rfl ?_
  refine lv_goto (tgt := 2660) hx hb dL_law_735 (by decide) ?_
  refine W.widen (k := 200 + 9 * (n + 1)) (n := 10000 + 132 * (n + 1)) (by omega) (by omega) ?_
  refine lv_iinc (v := i + 6) (lv' := [(3, .int (i + 6)), (2, .ref (g 0)), (1, .ref (a 0)), (0, .ref b)]) hx hb dL_law_2660 hl (k := 0) rfl rfl (by decide) rfl (fun ls hl => ?_)
  refine lv_goto (tgt := 18) hx hb dL_law_2663 (by decide) ?_
  have hJ2 : JI (XSf u_3) (MSf u_6) := (by rw [hp_2, hp_5]; exact hJ)
  exact KK _ _ _ _ _ _ _ (i6F hi hn) hXI hMI hJ2 hP hD hS hl
set_option maxHeartbeats 8000000 in
set_option maxRecDepth 100000 in
theorem lw_case_12 {p : Program} {l : Launch} {e : Env} {s : State} {m : MethodId} {below : List Frame} {meth : Method} {c : Code} {b L : Nat} {xs : Nat → Int32} {dC : Nat → ClassId} {dI : Nat → Nat → Nat} {cB cI cJ cZ cL : ClassId} (C0 : lw_At p s m meth c b L xs) (hN : NW s) (hK : va_K (dC, dI) vwCl (tyL cB cI cJ cZ cL) s) {a g adK adV : Nat → Nat} (hV : SW adK adV (fun q : Nat => s.heap.size ≤ q) s s.heap) {n : Nat} {i : Int32} {u : XT} {v : MT} {T : va_W} (hn : n ≤ 511) (hi : Int32.toInt i = 6 * (n : Int)) (hiL : 6 * n + 6 ≤ L) (hXI : XI cB cI cJ cZ cL u T) (hMI : MI v) (hJ : JI (XSf u) (MSf v)) {H : Heap} {locs : List Loc} (hP : va_P (dC, dI) vwCl (WX a cB cI cJ cZ cL u ++ (WM g cB cI cJ cZ cL v ++ T)) H) (hD : va_D (fun q : Nat => s.heap.size ≤ q) (WX a cB cI cJ cZ cL u ++ (WM g cB cI cJ cZ cL v ++ T))) (hS : va_S (fun q : Nat => s.heap.size ≤ q) s.heap H locs) {ls : Array Slot} (hl : lv_has ls 4 [(3, .int i), (2, .ref (g 0)), (1, .ref (a 0)), (0, .ref b)]) (KK : ∀ (i : Int32) (u : XT) (v : MT) (T : va_W) (H : Heap) (locs : List Loc) (ls : Array Slot), Int32.toInt i = 6 * ((n + 1 : Nat) : Int) → XI cB cI cJ cZ cL u T → MI v → JI (XSf u) (MSf v) → va_P (dC, dI) vwCl (WX a cB cI cJ cZ cL u ++ (WM g cB cI cJ cZ cL v ++ T)) H → va_D (fun q : Nat => s.heap.size ≤ q) (WX a cB cI cJ cZ cL u ++ (WM g cB cI cJ cZ cL v ++ T)) → va_S (fun q : Nat => s.heap.size ≤ q) s.heap H locs → lv_has ls 4 [(3, .int i), (2, .ref (g 0)), (1, .ref (a 0)), (0, .ref b)] → W p l e room_1 s m #[Value.ref b] below meth c H locs (200 + 9 * (n + 1)) (10000 + 132 * (n + 1)) (lw_Z below #[Value.ref b] s) (F0 m 18 ls [])) : W p l e room_1 s m #[Value.ref b] below meth c H locs (200 + 9 * n) (10000 + 132 * n) (lw_Z below #[Value.ref b] s) (F0 m 738 ls []) := by
  obtain ⟨hx, hb, hr, hml, hown, hts, hX, hbl, hlocks, hgv⟩ := id C0
  have ht : ∀ w ∈ lw_ok, w.before #[Value.ref b] s = true := fun w h => hts w (List.mem_filter.mp h).1
  have hbA : ¬ (fun q : Nat => s.heap.size ≤ q) b := Nat.not_le.mpr hbl
  have hc0 : 200 + 9 * n + 0 ≤ room_1.cells ∧ 10000 + 132 * n + 0 ≤ room_1.slots := ⟨by show 200 + 9 * n + 0 ≤ 600000; omega, by show 10000 + 132 * n + 0 ≤ 7302249; omega⟩
  have v1 : vp_in (i + 1) L := ijF hi hn hiL (by decide) (by decide)
  have v2 : vp_in (i + 2) L := ijF hi hn hiL (by decide) (by decide)
  refine lv_aload_n hx hb dL_law_738 rfl (lv_at hl 2 rfl) ?_
  refine lv_aload_n hx hb dL_law_739 rfl (lv_at hl 3 rfl) ?_
  refine lv_iload_n hx hb dL_law_740 rfl (lv_at hl 0 rfl) ?_
  refine lv_iconst (v := 1) hx hb dL_law_741 (by decide) ?_
  refine lv_iadd hx hb dL_law_742 ?_
  refine va_sld hx hb hX hbl hbA hS v1 dL_law_743 ?_
  refine lv_aload_n hx hb dL_law_744 rfl (lv_at hl 3 rfl) ?_
  refine lv_iload_n hx hb dL_law_745 rfl (lv_at hl 0 rfl) ?_
  refine lv_iconst (v := 2) hx hb dL_law_746 (by decide) ?_
  refine lv_iadd hx hb dL_law_747 ?_
  refine va_sld hx hb hX hbl hbA hS v2 dL_law_748 ?_
  refine lx_whole C0 hN hK hXI hl.1 (Nat.le_of_ble_eq_true rfl) hc0 dL_law_749 hP hD hS (fun r_1 u_3 H locs hXI hp_2 hP hD hS => ?_)
  refine lv_pop hx hb dL_law_752 rfl ?_
  refine lv_aload_n hx hb dL_law_753 rfl (lv_at hl 1 rfl) ?_
  refine lv_aload_n hx hb dL_law_754 rfl (lv_at hl 3 rfl) ?_
  refine lv_iload_n hx hb dL_law_755 rfl (lv_at hl 0 rfl) ?_
  refine lv_iconst (v := 1) hx hb dL_law_756 (by decide) ?_
  refine lv_iadd hx hb dL_law_757 ?_
  refine va_sld hx hb hX hbl hbA hS v1 dL_law_758 ?_
  refine lv_aload_n hx hb dL_law_759 rfl (lv_at hl 3 rfl) ?_
  refine lv_iload_n hx hb dL_law_760 rfl (lv_at hl 0 rfl) ?_
  refine lv_iconst (v := 2) hx hb dL_law_761 (by decide) ?_
  refine lv_iadd hx hb dL_law_762 ?_
  refine va_sld hx hb hX hbl hbA hS v2 dL_law_763 ?_
  refine lm_whole C0 hN hK hMI hl.1 (Nat.le_of_ble_eq_true rfl) hc0 dL_law_764 hP hD hS (fun r_4 u_6 H locs hMI hp_5 hP hD hS => ?_)
  refine lv_pop hx hb dL_law_767 rfl ?_
  refine lv_goto (tgt := 2660) hx hb dL_law_768 (by decide) ?_
  refine W.widen (k := 200 + 9 * (n + 1)) (n := 10000 + 132 * (n + 1)) (by omega) (by omega) ?_
  refine lv_iinc (v := i + 6) (lv' := [(3, .int (i + 6)), (2, .ref (g 0)), (1, .ref (a 0)), (0, .ref b)]) hx hb dL_law_2660 hl (k := 0) rfl rfl (by decide) rfl (fun ls hl => ?_)
  refine lv_goto (tgt := 18) hx hb dL_law_2663 (by decide) ?_
  have hJ2 : JI (XSf u_3) (MSf u_6) := (by rw [hp_2, hp_5]; exact hJ)
  exact KK _ _ _ _ _ _ _ (i6F hi hn) hXI hMI hJ2 hP hD hS hl
set_option maxHeartbeats 8000000 in
set_option maxRecDepth 100000 in
theorem lw_case_13 {p : Program} {l : Launch} {e : Env} {s : State} {m : MethodId} {below : List Frame} {meth : Method} {c : Code} {b L : Nat} {xs : Nat → Int32} {dC : Nat → ClassId} {dI : Nat → Nat → Nat} {cB cI cJ cZ cL : ClassId} (C0 : lw_At p s m meth c b L xs) (hN : NW s) (hK : va_K (dC, dI) vwCl (tyL cB cI cJ cZ cL) s) {a g adK adV : Nat → Nat} (hV : SW adK adV (fun q : Nat => s.heap.size ≤ q) s s.heap) {n : Nat} {i : Int32} {u : XT} {v : MT} {T : va_W} (hn : n ≤ 511) (hi : Int32.toInt i = 6 * (n : Int)) (hiL : 6 * n + 6 ≤ L) (hXI : XI cB cI cJ cZ cL u T) (hMI : MI v) (hJ : JI (XSf u) (MSf v)) {H : Heap} {locs : List Loc} (hP : va_P (dC, dI) vwCl (WX a cB cI cJ cZ cL u ++ (WM g cB cI cJ cZ cL v ++ T)) H) (hD : va_D (fun q : Nat => s.heap.size ≤ q) (WX a cB cI cJ cZ cL u ++ (WM g cB cI cJ cZ cL v ++ T))) (hS : va_S (fun q : Nat => s.heap.size ≤ q) s.heap H locs) {ls : Array Slot} (hl : lv_has ls 4 [(3, .int i), (2, .ref (g 0)), (1, .ref (a 0)), (0, .ref b)]) (KK : ∀ (i : Int32) (u : XT) (v : MT) (T : va_W) (H : Heap) (locs : List Loc) (ls : Array Slot), Int32.toInt i = 6 * ((n + 1 : Nat) : Int) → XI cB cI cJ cZ cL u T → MI v → JI (XSf u) (MSf v) → va_P (dC, dI) vwCl (WX a cB cI cJ cZ cL u ++ (WM g cB cI cJ cZ cL v ++ T)) H → va_D (fun q : Nat => s.heap.size ≤ q) (WX a cB cI cJ cZ cL u ++ (WM g cB cI cJ cZ cL v ++ T)) → va_S (fun q : Nat => s.heap.size ≤ q) s.heap H locs → lv_has ls 4 [(3, .int i), (2, .ref (g 0)), (1, .ref (a 0)), (0, .ref b)] → W p l e room_1 s m #[Value.ref b] below meth c H locs (200 + 9 * (n + 1)) (10000 + 132 * (n + 1)) (lw_Z below #[Value.ref b] s) (F0 m 18 ls [])) : W p l e room_1 s m #[Value.ref b] below meth c H locs (200 + 9 * n) (10000 + 132 * n) (lw_Z below #[Value.ref b] s) (F0 m 771 ls []) := by
  obtain ⟨hx, hb, hr, hml, hown, hts, hX, hbl, hlocks, hgv⟩ := id C0
  have ht : ∀ w ∈ lw_ok, w.before #[Value.ref b] s = true := fun w h => hts w (List.mem_filter.mp h).1
  have hbA : ¬ (fun q : Nat => s.heap.size ≤ q) b := Nat.not_le.mpr hbl
  have hc0 : 200 + 9 * n + 0 ≤ room_1.cells ∧ 10000 + 132 * n + 0 ≤ room_1.slots := ⟨by show 200 + 9 * n + 0 ≤ 600000; omega, by show 10000 + 132 * n + 0 ≤ 7302249; omega⟩
  have v1 : vp_in (i + 1) L := ijF hi hn hiL (by decide) (by decide)
  have v2 : vp_in (i + 2) L := ijF hi hn hiL (by decide) (by decide)
  have v3 : vp_in (i + 3) L := ijF hi hn hiL (by decide) (by decide)
  refine lv_aload_n hx hb dL_law_771 rfl (lv_at hl 2 rfl) ?_
  refine lv_aload_n hx hb dL_law_772 rfl (lv_at hl 3 rfl) ?_
  refine lv_iload_n hx hb dL_law_773 rfl (lv_at hl 0 rfl) ?_
  refine lv_iconst (v := 1) hx hb dL_law_774 (by decide) ?_
  refine lv_iadd hx hb dL_law_775 ?_
  refine va_sld hx hb hX hbl hbA hS v1 dL_law_776 ?_
  refine lv_aload_n hx hb dL_law_777 rfl (lv_at hl 3 rfl) ?_
  refine lv_iload_n hx hb dL_law_778 rfl (lv_at hl 0 rfl) ?_
  refine lv_iconst (v := 2) hx hb dL_law_779 (by decide) ?_
  refine lv_iadd hx hb dL_law_780 ?_
  refine va_sld hx hb hX hbl hbA hS v2 dL_law_781 ?_
  refine lv_aload_n hx hb dL_law_782 rfl (lv_at hl 3 rfl) ?_
  refine lv_iload_n hx hb dL_law_783 rfl (lv_at hl 0 rfl) ?_
  refine lv_iconst (v := 3) hx hb dL_law_784 (by decide) ?_
  refine lv_iadd hx hb dL_law_785 ?_
  refine va_sld hx hb hX hbl hbA hS v3 dL_law_786 ?_
  refine lx_falls C0 hN hK hXI hl.1 (Nat.le_of_ble_eq_true rfl) hc0 dL_law_787 hP hD hS (fun r_1 u_3 H locs hXI hp_2 hP hD hS => ?_)
  refine lv_pop2_2 hx hb dL_law_790 rfl ?_
  refine lv_aload_n hx hb dL_law_791 rfl (lv_at hl 1 rfl) ?_
  refine lv_aload_n hx hb dL_law_792 rfl (lv_at hl 3 rfl) ?_
  refine lv_iload_n hx hb dL_law_793 rfl (lv_at hl 0 rfl) ?_
  refine lv_iconst (v := 1) hx hb dL_law_794 (by decide) ?_
  refine lv_iadd hx hb dL_law_795 ?_
  refine va_sld hx hb hX hbl hbA hS v1 dL_law_796 ?_
  refine lv_aload_n hx hb dL_law_797 rfl (lv_at hl 3 rfl) ?_
  refine lv_iload_n hx hb dL_law_798 rfl (lv_at hl 0 rfl) ?_
  refine lv_iconst (v := 2) hx hb dL_law_799 (by decide) ?_
  refine lv_iadd hx hb dL_law_800 ?_
  refine va_sld hx hb hX hbl hbA hS v2 dL_law_801 ?_
  refine lv_aload_n hx hb dL_law_802 rfl (lv_at hl 3 rfl) ?_
  refine lv_iload_n hx hb dL_law_803 rfl (lv_at hl 0 rfl) ?_
  refine lv_iconst (v := 3) hx hb dL_law_804 (by decide) ?_
  refine lv_iadd hx hb dL_law_805 ?_
  refine va_sld hx hb hX hbl hbA hS v3 dL_law_806 ?_
  refine lm_falls C0 hN hK hMI hl.1 (Nat.le_of_ble_eq_true rfl) hc0 dL_law_807 hP hD hS (fun r_4 u_6 H locs hMI hp_5 hP hD hS => ?_)
  refine lv_pop2_2 hx hb dL_law_810 rfl ?_
  refine lv_goto (tgt := 2660) hx hb dL_law_811 (by decide) ?_
  refine W.widen (k := 200 + 9 * (n + 1)) (n := 10000 + 132 * (n + 1)) (by omega) (by omega) ?_
  refine lv_iinc (v := i + 6) (lv' := [(3, .int (i + 6)), (2, .ref (g 0)), (1, .ref (a 0)), (0, .ref b)]) hx hb dL_law_2660 hl (k := 0) rfl rfl (by decide) rfl (fun ls hl => ?_)
  refine lv_goto (tgt := 18) hx hb dL_law_2663 (by decide) ?_
  have hJ2 : JI (XSf u_3) (MSf u_6) := (by rw [hp_2, hp_5]; exact hJ)
  exact KK _ _ _ _ _ _ _ (i6F hi hn) hXI hMI hJ2 hP hD hS hl
set_option maxHeartbeats 8000000 in
set_option maxRecDepth 100000 in
theorem lw_case_14 {p : Program} {l : Launch} {e : Env} {s : State} {m : MethodId} {below : List Frame} {meth : Method} {c : Code} {b L : Nat} {xs : Nat → Int32} {dC : Nat → ClassId} {dI : Nat → Nat → Nat} {cB cI cJ cZ cL : ClassId} (C0 : lw_At p s m meth c b L xs) (hN : NW s) (hK : va_K (dC, dI) vwCl (tyL cB cI cJ cZ cL) s) {a g adK adV : Nat → Nat} (hV : SW adK adV (fun q : Nat => s.heap.size ≤ q) s s.heap) {n : Nat} {i : Int32} {u : XT} {v : MT} {T : va_W} (hn : n ≤ 511) (hi : Int32.toInt i = 6 * (n : Int)) (hiL : 6 * n + 6 ≤ L) (hXI : XI cB cI cJ cZ cL u T) (hMI : MI v) (hJ : JI (XSf u) (MSf v)) {H : Heap} {locs : List Loc} (hP : va_P (dC, dI) vwCl (WX a cB cI cJ cZ cL u ++ (WM g cB cI cJ cZ cL v ++ T)) H) (hD : va_D (fun q : Nat => s.heap.size ≤ q) (WX a cB cI cJ cZ cL u ++ (WM g cB cI cJ cZ cL v ++ T))) (hS : va_S (fun q : Nat => s.heap.size ≤ q) s.heap H locs) {ls : Array Slot} (hl : lv_has ls 4 [(3, .int i), (2, .ref (g 0)), (1, .ref (a 0)), (0, .ref b)]) (KK : ∀ (i : Int32) (u : XT) (v : MT) (T : va_W) (H : Heap) (locs : List Loc) (ls : Array Slot), Int32.toInt i = 6 * ((n + 1 : Nat) : Int) → XI cB cI cJ cZ cL u T → MI v → JI (XSf u) (MSf v) → va_P (dC, dI) vwCl (WX a cB cI cJ cZ cL u ++ (WM g cB cI cJ cZ cL v ++ T)) H → va_D (fun q : Nat => s.heap.size ≤ q) (WX a cB cI cJ cZ cL u ++ (WM g cB cI cJ cZ cL v ++ T)) → va_S (fun q : Nat => s.heap.size ≤ q) s.heap H locs → lv_has ls 4 [(3, .int i), (2, .ref (g 0)), (1, .ref (a 0)), (0, .ref b)] → W p l e room_1 s m #[Value.ref b] below meth c H locs (200 + 9 * (n + 1)) (10000 + 132 * (n + 1)) (lw_Z below #[Value.ref b] s) (F0 m 18 ls [])) : W p l e room_1 s m #[Value.ref b] below meth c H locs (200 + 9 * n) (10000 + 132 * n) (lw_Z below #[Value.ref b] s) (F0 m 814 ls []) := by
  obtain ⟨hx, hb, hr, hml, hown, hts, hX, hbl, hlocks, hgv⟩ := id C0
  have ht : ∀ w ∈ lw_ok, w.before #[Value.ref b] s = true := fun w h => hts w (List.mem_filter.mp h).1
  have hbA : ¬ (fun q : Nat => s.heap.size ≤ q) b := Nat.not_le.mpr hbl
  have hc0 : 200 + 9 * n + 0 ≤ room_1.cells ∧ 10000 + 132 * n + 0 ≤ room_1.slots := ⟨by show 200 + 9 * n + 0 ≤ 600000; omega, by show 10000 + 132 * n + 0 ≤ 7302249; omega⟩
  have v1 : vp_in (i + 1) L := ijF hi hn hiL (by decide) (by decide)
  have v2 : vp_in (i + 2) L := ijF hi hn hiL (by decide) (by decide)
  have v3 : vp_in (i + 3) L := ijF hi hn hiL (by decide) (by decide)
  refine lv_aload_n hx hb dL_law_814 rfl (lv_at hl 2 rfl) ?_
  refine lv_aload_n hx hb dL_law_815 rfl (lv_at hl 3 rfl) ?_
  refine lv_iload_n hx hb dL_law_816 rfl (lv_at hl 0 rfl) ?_
  refine lv_iconst (v := 1) hx hb dL_law_817 (by decide) ?_
  refine lv_iadd hx hb dL_law_818 ?_
  refine va_sld hx hb hX hbl hbA hS v1 dL_law_819 ?_
  refine lv_aload_n hx hb dL_law_820 rfl (lv_at hl 3 rfl) ?_
  refine lv_iload_n hx hb dL_law_821 rfl (lv_at hl 0 rfl) ?_
  refine lv_iconst (v := 2) hx hb dL_law_822 (by decide) ?_
  refine lv_iadd hx hb dL_law_823 ?_
  refine va_sld hx hb hX hbl hbA hS v2 dL_law_824 ?_
  refine lv_aload_n hx hb dL_law_825 rfl (lv_at hl 3 rfl) ?_
  refine lv_iload_n hx hb dL_law_826 rfl (lv_at hl 0 rfl) ?_
  refine lv_iconst (v := 3) hx hb dL_law_827 (by decide) ?_
  refine lv_iadd hx hb dL_law_828 ?_
  refine va_sld hx hb hX hbl hbA hS v3 dL_law_829 ?_
  refine lx_earth C0 hN hK hXI hl.1 (Nat.le_of_ble_eq_true rfl) hc0 dL_law_830 hP hD hS (fun r_1 u_3 H locs hXI hp_2 hP hD hS => ?_)
  refine lv_pop2_2 hx hb dL_law_833 rfl ?_
  refine lv_aload_n hx hb dL_law_834 rfl (lv_at hl 1 rfl) ?_
  refine lv_aload_n hx hb dL_law_835 rfl (lv_at hl 3 rfl) ?_
  refine lv_iload_n hx hb dL_law_836 rfl (lv_at hl 0 rfl) ?_
  refine lv_iconst (v := 1) hx hb dL_law_837 (by decide) ?_
  refine lv_iadd hx hb dL_law_838 ?_
  refine va_sld hx hb hX hbl hbA hS v1 dL_law_839 ?_
  refine lv_aload_n hx hb dL_law_840 rfl (lv_at hl 3 rfl) ?_
  refine lv_iload_n hx hb dL_law_841 rfl (lv_at hl 0 rfl) ?_
  refine lv_iconst (v := 2) hx hb dL_law_842 (by decide) ?_
  refine lv_iadd hx hb dL_law_843 ?_
  refine va_sld hx hb hX hbl hbA hS v2 dL_law_844 ?_
  refine lv_aload_n hx hb dL_law_845 rfl (lv_at hl 3 rfl) ?_
  refine lv_iload_n hx hb dL_law_846 rfl (lv_at hl 0 rfl) ?_
  refine lv_iconst (v := 3) hx hb dL_law_847 (by decide) ?_
  refine lv_iadd hx hb dL_law_848 ?_
  refine va_sld hx hb hX hbl hbA hS v3 dL_law_849 ?_
  refine lm_earth C0 hN hK hMI hl.1 (Nat.le_of_ble_eq_true rfl) hc0 dL_law_850 hP hD hS (fun r_4 u_6 H locs hMI hp_5 hP hD hS => ?_)
  refine lv_pop2_2 hx hb dL_law_853 rfl ?_
  refine lv_goto (tgt := 2660) hx hb dL_law_854 (by decide) ?_
  refine W.widen (k := 200 + 9 * (n + 1)) (n := 10000 + 132 * (n + 1)) (by omega) (by omega) ?_
  refine lv_iinc (v := i + 6) (lv' := [(3, .int (i + 6)), (2, .ref (g 0)), (1, .ref (a 0)), (0, .ref b)]) hx hb dL_law_2660 hl (k := 0) rfl rfl (by decide) rfl (fun ls hl => ?_)
  refine lv_goto (tgt := 18) hx hb dL_law_2663 (by decide) ?_
  have hJ2 : JI (XSf u_3) (MSf u_6) := (by rw [hp_2, hp_5]; exact hJ)
  exact KK _ _ _ _ _ _ _ (i6F hi hn) hXI hMI hJ2 hP hD hS hl
set_option maxHeartbeats 8000000 in
set_option maxRecDepth 100000 in
theorem lw_case_15 {p : Program} {l : Launch} {e : Env} {s : State} {m : MethodId} {below : List Frame} {meth : Method} {c : Code} {b L : Nat} {xs : Nat → Int32} {dC : Nat → ClassId} {dI : Nat → Nat → Nat} {cB cI cJ cZ cL : ClassId} (C0 : lw_At p s m meth c b L xs) (hN : NW s) (hK : va_K (dC, dI) vwCl (tyL cB cI cJ cZ cL) s) {a g adK adV : Nat → Nat} (hV : SW adK adV (fun q : Nat => s.heap.size ≤ q) s s.heap) {n : Nat} {i : Int32} {u : XT} {v : MT} {T : va_W} (hn : n ≤ 511) (hi : Int32.toInt i = 6 * (n : Int)) (hiL : 6 * n + 6 ≤ L) (hXI : XI cB cI cJ cZ cL u T) (hMI : MI v) (hJ : JI (XSf u) (MSf v)) {H : Heap} {locs : List Loc} (hP : va_P (dC, dI) vwCl (WX a cB cI cJ cZ cL u ++ (WM g cB cI cJ cZ cL v ++ T)) H) (hD : va_D (fun q : Nat => s.heap.size ≤ q) (WX a cB cI cJ cZ cL u ++ (WM g cB cI cJ cZ cL v ++ T))) (hS : va_S (fun q : Nat => s.heap.size ≤ q) s.heap H locs) {ls : Array Slot} (hl : lv_has ls 4 [(3, .int i), (2, .ref (g 0)), (1, .ref (a 0)), (0, .ref b)]) (KK : ∀ (i : Int32) (u : XT) (v : MT) (T : va_W) (H : Heap) (locs : List Loc) (ls : Array Slot), Int32.toInt i = 6 * ((n + 1 : Nat) : Int) → XI cB cI cJ cZ cL u T → MI v → JI (XSf u) (MSf v) → va_P (dC, dI) vwCl (WX a cB cI cJ cZ cL u ++ (WM g cB cI cJ cZ cL v ++ T)) H → va_D (fun q : Nat => s.heap.size ≤ q) (WX a cB cI cJ cZ cL u ++ (WM g cB cI cJ cZ cL v ++ T)) → va_S (fun q : Nat => s.heap.size ≤ q) s.heap H locs → lv_has ls 4 [(3, .int i), (2, .ref (g 0)), (1, .ref (a 0)), (0, .ref b)] → W p l e room_1 s m #[Value.ref b] below meth c H locs (200 + 9 * (n + 1)) (10000 + 132 * (n + 1)) (lw_Z below #[Value.ref b] s) (F0 m 18 ls [])) : W p l e room_1 s m #[Value.ref b] below meth c H locs (200 + 9 * n) (10000 + 132 * n) (lw_Z below #[Value.ref b] s) (F0 m 857 ls []) := by
  obtain ⟨hx, hb, hr, hml, hown, hts, hX, hbl, hlocks, hgv⟩ := id C0
  have ht : ∀ w ∈ lw_ok, w.before #[Value.ref b] s = true := fun w h => hts w (List.mem_filter.mp h).1
  have hbA : ¬ (fun q : Nat => s.heap.size ≤ q) b := Nat.not_le.mpr hbl
  have hc0 : 200 + 9 * n + 0 ≤ room_1.cells ∧ 10000 + 132 * n + 0 ≤ room_1.slots := ⟨by show 200 + 9 * n + 0 ≤ 600000; omega, by show 10000 + 132 * n + 0 ≤ 7302249; omega⟩
  have v1 : vp_in (i + 1) L := ijF hi hn hiL (by decide) (by decide)
  refine lv_aload_n hx hb dL_law_857 rfl (lv_at hl 2 rfl) ?_
  refine lv_aload_n hx hb dL_law_858 rfl (lv_at hl 3 rfl) ?_
  refine lv_iload_n hx hb dL_law_859 rfl (lv_at hl 0 rfl) ?_
  refine lv_iconst (v := 1) hx hb dL_law_860 (by decide) ?_
  refine lv_iadd hx hb dL_law_861 ?_
  refine va_sld hx hb hX hbl hbA hS v1 dL_law_862 ?_
  refine lx_sore C0 hN hK hXI hl.1 (Nat.le_of_ble_eq_true rfl) hc0 dL_law_863 hP hD hS (fun r_1 u_3 H locs hXI hp_2 hP hD hS => ?_)
  refine lv_pop hx hb dL_law_866 rfl ?_
  refine lv_aload_n hx hb dL_law_867 rfl (lv_at hl 1 rfl) ?_
  refine lv_aload_n hx hb dL_law_868 rfl (lv_at hl 3 rfl) ?_
  refine lv_iload_n hx hb dL_law_869 rfl (lv_at hl 0 rfl) ?_
  refine lv_iconst (v := 1) hx hb dL_law_870 (by decide) ?_
  refine lv_iadd hx hb dL_law_871 ?_
  refine va_sld hx hb hX hbl hbA hS v1 dL_law_872 ?_
  refine lm_sore C0 hN hK hMI hl.1 (Nat.le_of_ble_eq_true rfl) hc0 dL_law_873 hP hD hS (fun r_4 u_6 H locs hMI hp_5 hP hD hS => ?_)
  refine lv_pop hx hb dL_law_876 rfl ?_
  refine lv_goto (tgt := 2660) hx hb dL_law_877 (by decide) ?_
  refine W.widen (k := 200 + 9 * (n + 1)) (n := 10000 + 132 * (n + 1)) (by omega) (by omega) ?_
  refine lv_iinc (v := i + 6) (lv' := [(3, .int (i + 6)), (2, .ref (g 0)), (1, .ref (a 0)), (0, .ref b)]) hx hb dL_law_2660 hl (k := 0) rfl rfl (by decide) rfl (fun ls hl => ?_)
  refine lv_goto (tgt := 18) hx hb dL_law_2663 (by decide) ?_
  have hJ2 : JI (XSf u_3) (MSf u_6) := (by rw [hp_2, hp_5]; exact hJ)
  exact KK _ _ _ _ _ _ _ (i6F hi hn) hXI hMI hJ2 hP hD hS hl
set_option maxHeartbeats 8000000 in
set_option maxRecDepth 100000 in
theorem lw_case_16 {p : Program} {l : Launch} {e : Env} {s : State} {m : MethodId} {below : List Frame} {meth : Method} {c : Code} {b L : Nat} {xs : Nat → Int32} {dC : Nat → ClassId} {dI : Nat → Nat → Nat} {cB cI cJ cZ cL : ClassId} (C0 : lw_At p s m meth c b L xs) (hN : NW s) (hK : va_K (dC, dI) vwCl (tyL cB cI cJ cZ cL) s) {a g adK adV : Nat → Nat} (hV : SW adK adV (fun q : Nat => s.heap.size ≤ q) s s.heap) {n : Nat} {i : Int32} {u : XT} {v : MT} {T : va_W} (hn : n ≤ 511) (hi : Int32.toInt i = 6 * (n : Int)) (hiL : 6 * n + 6 ≤ L) (hXI : XI cB cI cJ cZ cL u T) (hMI : MI v) (hJ : JI (XSf u) (MSf v)) {H : Heap} {locs : List Loc} (hP : va_P (dC, dI) vwCl (WX a cB cI cJ cZ cL u ++ (WM g cB cI cJ cZ cL v ++ T)) H) (hD : va_D (fun q : Nat => s.heap.size ≤ q) (WX a cB cI cJ cZ cL u ++ (WM g cB cI cJ cZ cL v ++ T))) (hS : va_S (fun q : Nat => s.heap.size ≤ q) s.heap H locs) {ls : Array Slot} (hl : lv_has ls 4 [(3, .int i), (2, .ref (g 0)), (1, .ref (a 0)), (0, .ref b)]) (KK : ∀ (i : Int32) (u : XT) (v : MT) (T : va_W) (H : Heap) (locs : List Loc) (ls : Array Slot), Int32.toInt i = 6 * ((n + 1 : Nat) : Int) → XI cB cI cJ cZ cL u T → MI v → JI (XSf u) (MSf v) → va_P (dC, dI) vwCl (WX a cB cI cJ cZ cL u ++ (WM g cB cI cJ cZ cL v ++ T)) H → va_D (fun q : Nat => s.heap.size ≤ q) (WX a cB cI cJ cZ cL u ++ (WM g cB cI cJ cZ cL v ++ T)) → va_S (fun q : Nat => s.heap.size ≤ q) s.heap H locs → lv_has ls 4 [(3, .int i), (2, .ref (g 0)), (1, .ref (a 0)), (0, .ref b)] → W p l e room_1 s m #[Value.ref b] below meth c H locs (200 + 9 * (n + 1)) (10000 + 132 * (n + 1)) (lw_Z below #[Value.ref b] s) (F0 m 18 ls [])) : W p l e room_1 s m #[Value.ref b] below meth c H locs (200 + 9 * n) (10000 + 132 * n) (lw_Z below #[Value.ref b] s) (F0 m 880 ls []) := by
  obtain ⟨hx, hb, hr, hml, hown, hts, hX, hbl, hlocks, hgv⟩ := id C0
  have ht : ∀ w ∈ lw_ok, w.before #[Value.ref b] s = true := fun w h => hts w (List.mem_filter.mp h).1
  have hbA : ¬ (fun q : Nat => s.heap.size ≤ q) b := Nat.not_le.mpr hbl
  have hc0 : 200 + 9 * n + 0 ≤ room_1.cells ∧ 10000 + 132 * n + 0 ≤ room_1.slots := ⟨by show 200 + 9 * n + 0 ≤ 600000; omega, by show 10000 + 132 * n + 0 ≤ 7302249; omega⟩
  have v1 : vp_in (i + 1) L := ijF hi hn hiL (by decide) (by decide)
  refine lv_aload_n hx hb dL_law_880 rfl (lv_at hl 2 rfl) ?_
  refine lv_aload_n hx hb dL_law_881 rfl (lv_at hl 3 rfl) ?_
  refine lv_iload_n hx hb dL_law_882 rfl (lv_at hl 0 rfl) ?_
  refine lv_iconst (v := 1) hx hb dL_law_883 (by decide) ?_
  refine lv_iadd hx hb dL_law_884 ?_
  refine va_sld hx hb hX hbl hbA hS v1 dL_law_885 ?_
  refine lx_hears C0 hN hK hXI hl.1 (Nat.le_of_ble_eq_true rfl) hc0 dL_law_886 hP hD hS (fun r_1 u_3 H locs hXI hp_2 hP hD hS => ?_)
  refine lv_pop hx hb dL_law_889 rfl ?_
  refine lv_aload_n hx hb dL_law_890 rfl (lv_at hl 1 rfl) ?_
  refine lv_aload_n hx hb dL_law_891 rfl (lv_at hl 3 rfl) ?_
  refine lv_iload_n hx hb dL_law_892 rfl (lv_at hl 0 rfl) ?_
  refine lv_iconst (v := 1) hx hb dL_law_893 (by decide) ?_
  refine lv_iadd hx hb dL_law_894 ?_
  refine va_sld hx hb hX hbl hbA hS v1 dL_law_895 ?_
  refine lm_hears C0 hN hK hMI hl.1 (Nat.le_of_ble_eq_true rfl) hc0 dL_law_896 hP hD hS (fun r_4 u_6 H locs hMI hp_5 hP hD hS => ?_)
  refine lv_pop hx hb dL_law_899 rfl ?_
  refine lv_goto (tgt := 2660) hx hb dL_law_900 (by decide) ?_
  refine W.widen (k := 200 + 9 * (n + 1)) (n := 10000 + 132 * (n + 1)) (by omega) (by omega) ?_
  refine lv_iinc (v := i + 6) (lv' := [(3, .int (i + 6)), (2, .ref (g 0)), (1, .ref (a 0)), (0, .ref b)]) hx hb dL_law_2660 hl (k := 0) rfl rfl (by decide) rfl (fun ls hl => ?_)
  refine lv_goto (tgt := 18) hx hb dL_law_2663 (by decide) ?_
  have hJ2 : JI (XSf u_3) (MSf u_6) := (by rw [hp_2, hp_5]; exact hJ)
  exact KK _ _ _ _ _ _ _ (i6F hi hn) hXI hMI hJ2 hP hD hS hl
set_option maxHeartbeats 8000000 in
set_option maxRecDepth 100000 in
theorem lw_case_17 {p : Program} {l : Launch} {e : Env} {s : State} {m : MethodId} {below : List Frame} {meth : Method} {c : Code} {b L : Nat} {xs : Nat → Int32} {dC : Nat → ClassId} {dI : Nat → Nat → Nat} {cB cI cJ cZ cL : ClassId} (C0 : lw_At p s m meth c b L xs) (hN : NW s) (hK : va_K (dC, dI) vwCl (tyL cB cI cJ cZ cL) s) {a g adK adV : Nat → Nat} (hV : SW adK adV (fun q : Nat => s.heap.size ≤ q) s s.heap) {n : Nat} {i : Int32} {u : XT} {v : MT} {T : va_W} (hn : n ≤ 511) (hi : Int32.toInt i = 6 * (n : Int)) (hiL : 6 * n + 6 ≤ L) (hXI : XI cB cI cJ cZ cL u T) (hMI : MI v) (hJ : JI (XSf u) (MSf v)) {H : Heap} {locs : List Loc} (hP : va_P (dC, dI) vwCl (WX a cB cI cJ cZ cL u ++ (WM g cB cI cJ cZ cL v ++ T)) H) (hD : va_D (fun q : Nat => s.heap.size ≤ q) (WX a cB cI cJ cZ cL u ++ (WM g cB cI cJ cZ cL v ++ T))) (hS : va_S (fun q : Nat => s.heap.size ≤ q) s.heap H locs) {ls : Array Slot} (hl : lv_has ls 4 [(3, .int i), (2, .ref (g 0)), (1, .ref (a 0)), (0, .ref b)]) (KK : ∀ (i : Int32) (u : XT) (v : MT) (T : va_W) (H : Heap) (locs : List Loc) (ls : Array Slot), Int32.toInt i = 6 * ((n + 1 : Nat) : Int) → XI cB cI cJ cZ cL u T → MI v → JI (XSf u) (MSf v) → va_P (dC, dI) vwCl (WX a cB cI cJ cZ cL u ++ (WM g cB cI cJ cZ cL v ++ T)) H → va_D (fun q : Nat => s.heap.size ≤ q) (WX a cB cI cJ cZ cL u ++ (WM g cB cI cJ cZ cL v ++ T)) → va_S (fun q : Nat => s.heap.size ≤ q) s.heap H locs → lv_has ls 4 [(3, .int i), (2, .ref (g 0)), (1, .ref (a 0)), (0, .ref b)] → W p l e room_1 s m #[Value.ref b] below meth c H locs (200 + 9 * (n + 1)) (10000 + 132 * (n + 1)) (lw_Z below #[Value.ref b] s) (F0 m 18 ls [])) : W p l e room_1 s m #[Value.ref b] below meth c H locs (200 + 9 * n) (10000 + 132 * n) (lw_Z below #[Value.ref b] s) (F0 m 903 ls []) := by
  obtain ⟨hx, hb, hr, hml, hown, hts, hX, hbl, hlocks, hgv⟩ := id C0
  have ht : ∀ w ∈ lw_ok, w.before #[Value.ref b] s = true := fun w h => hts w (List.mem_filter.mp h).1
  have hbA : ¬ (fun q : Nat => s.heap.size ≤ q) b := Nat.not_le.mpr hbl
  have hc0 : 200 + 9 * n + 0 ≤ room_1.cells ∧ 10000 + 132 * n + 0 ≤ room_1.slots := ⟨by show 200 + 9 * n + 0 ≤ 600000; omega, by show 10000 + 132 * n + 0 ≤ 7302249; omega⟩
  have v1 : vp_in (i + 1) L := ijF hi hn hiL (by decide) (by decide)
  refine lv_aload_n hx hb dL_law_903 rfl (lv_at hl 2 rfl) ?_
  refine lv_aload_n hx hb dL_law_904 rfl (lv_at hl 3 rfl) ?_
  refine lv_iload_n hx hb dL_law_905 rfl (lv_at hl 0 rfl) ?_
  refine lv_iconst (v := 1) hx hb dL_law_906 (by decide) ?_
  refine lv_iadd hx hb dL_law_907 ?_
  refine va_sld hx hb hX hbl hbA hS v1 dL_law_908 ?_
  refine lx_silent C0 hN hK hXI hl.1 (Nat.le_of_ble_eq_true rfl) hc0 dL_law_909 hP hD hS (fun r_1 u_3 H locs hXI hp_2 hP hD hS => ?_)
  refine lv_pop hx hb dL_law_912 rfl ?_
  refine lv_aload_n hx hb dL_law_913 rfl (lv_at hl 1 rfl) ?_
  refine lv_aload_n hx hb dL_law_914 rfl (lv_at hl 3 rfl) ?_
  refine lv_iload_n hx hb dL_law_915 rfl (lv_at hl 0 rfl) ?_
  refine lv_iconst (v := 1) hx hb dL_law_916 (by decide) ?_
  refine lv_iadd hx hb dL_law_917 ?_
  refine va_sld hx hb hX hbl hbA hS v1 dL_law_918 ?_
  refine lm_silent C0 hN hK hMI hl.1 (Nat.le_of_ble_eq_true rfl) hc0 dL_law_919 hP hD hS (fun r_4 u_6 H locs hMI hp_5 hP hD hS => ?_)
  refine lv_pop hx hb dL_law_922 rfl ?_
  refine lv_goto (tgt := 2660) hx hb dL_law_923 (by decide) ?_
  refine W.widen (k := 200 + 9 * (n + 1)) (n := 10000 + 132 * (n + 1)) (by omega) (by omega) ?_
  refine lv_iinc (v := i + 6) (lv' := [(3, .int (i + 6)), (2, .ref (g 0)), (1, .ref (a 0)), (0, .ref b)]) hx hb dL_law_2660 hl (k := 0) rfl rfl (by decide) rfl (fun ls hl => ?_)
  refine lv_goto (tgt := 18) hx hb dL_law_2663 (by decide) ?_
  have hJ2 : JI (XSf u_3) (MSf u_6) := (by rw [hp_2, hp_5]; exact hJ)
  exact KK _ _ _ _ _ _ _ (i6F hi hn) hXI hMI hJ2 hP hD hS hl
set_option maxHeartbeats 8000000 in
set_option maxRecDepth 100000 in
theorem lw_case_18 {p : Program} {l : Launch} {e : Env} {s : State} {m : MethodId} {below : List Frame} {meth : Method} {c : Code} {b L : Nat} {xs : Nat → Int32} {dC : Nat → ClassId} {dI : Nat → Nat → Nat} {cB cI cJ cZ cL : ClassId} (C0 : lw_At p s m meth c b L xs) (hN : NW s) (hK : va_K (dC, dI) vwCl (tyL cB cI cJ cZ cL) s) {a g adK adV : Nat → Nat} (hV : SW adK adV (fun q : Nat => s.heap.size ≤ q) s s.heap) {n : Nat} {i : Int32} {u : XT} {v : MT} {T : va_W} (hn : n ≤ 511) (hi : Int32.toInt i = 6 * (n : Int)) (hiL : 6 * n + 6 ≤ L) (hXI : XI cB cI cJ cZ cL u T) (hMI : MI v) (hJ : JI (XSf u) (MSf v)) {H : Heap} {locs : List Loc} (hP : va_P (dC, dI) vwCl (WX a cB cI cJ cZ cL u ++ (WM g cB cI cJ cZ cL v ++ T)) H) (hD : va_D (fun q : Nat => s.heap.size ≤ q) (WX a cB cI cJ cZ cL u ++ (WM g cB cI cJ cZ cL v ++ T))) (hS : va_S (fun q : Nat => s.heap.size ≤ q) s.heap H locs) {ls : Array Slot} (hl : lv_has ls 4 [(3, .int i), (2, .ref (g 0)), (1, .ref (a 0)), (0, .ref b)]) (KK : ∀ (i : Int32) (u : XT) (v : MT) (T : va_W) (H : Heap) (locs : List Loc) (ls : Array Slot), Int32.toInt i = 6 * ((n + 1 : Nat) : Int) → XI cB cI cJ cZ cL u T → MI v → JI (XSf u) (MSf v) → va_P (dC, dI) vwCl (WX a cB cI cJ cZ cL u ++ (WM g cB cI cJ cZ cL v ++ T)) H → va_D (fun q : Nat => s.heap.size ≤ q) (WX a cB cI cJ cZ cL u ++ (WM g cB cI cJ cZ cL v ++ T)) → va_S (fun q : Nat => s.heap.size ≤ q) s.heap H locs → lv_has ls 4 [(3, .int i), (2, .ref (g 0)), (1, .ref (a 0)), (0, .ref b)] → W p l e room_1 s m #[Value.ref b] below meth c H locs (200 + 9 * (n + 1)) (10000 + 132 * (n + 1)) (lw_Z below #[Value.ref b] s) (F0 m 18 ls [])) : W p l e room_1 s m #[Value.ref b] below meth c H locs (200 + 9 * n) (10000 + 132 * n) (lw_Z below #[Value.ref b] s) (F0 m 926 ls []) := by
  obtain ⟨hx, hb, hr, hml, hown, hts, hX, hbl, hlocks, hgv⟩ := id C0
  have ht : ∀ w ∈ lw_ok, w.before #[Value.ref b] s = true := fun w h => hts w (List.mem_filter.mp h).1
  have hbA : ¬ (fun q : Nat => s.heap.size ≤ q) b := Nat.not_le.mpr hbl
  have hc0 : 200 + 9 * n + 0 ≤ room_1.cells ∧ 10000 + 132 * n + 0 ≤ room_1.slots := ⟨by show 200 + 9 * n + 0 ≤ 600000; omega, by show 10000 + 132 * n + 0 ≤ 7302249; omega⟩
  have v1 : vp_in (i + 1) L := ijF hi hn hiL (by decide) (by decide)
  refine lv_aload_n hx hb dL_law_926 rfl (lv_at hl 2 rfl) ?_
  refine lv_aload_n hx hb dL_law_927 rfl (lv_at hl 3 rfl) ?_
  refine lv_iload_n hx hb dL_law_928 rfl (lv_at hl 0 rfl) ?_
  refine lv_iconst (v := 1) hx hb dL_law_929 (by decide) ?_
  refine lv_iadd hx hb dL_law_930 ?_
  refine va_sld hx hb hX hbl hbA hS v1 dL_law_931 ?_
  refine lx_faint C0 hN hK hXI hl.1 (Nat.le_of_ble_eq_true rfl) hc0 dL_law_932 hP hD hS (fun r_1 u_3 H locs hXI hp_2 hP hD hS => ?_)
  refine lv_pop hx hb dL_law_935 rfl ?_
  refine lv_aload_n hx hb dL_law_936 rfl (lv_at hl 1 rfl) ?_
  refine lv_aload_n hx hb dL_law_937 rfl (lv_at hl 3 rfl) ?_
  refine lv_iload_n hx hb dL_law_938 rfl (lv_at hl 0 rfl) ?_
  refine lv_iconst (v := 1) hx hb dL_law_939 (by decide) ?_
  refine lv_iadd hx hb dL_law_940 ?_
  refine va_sld hx hb hX hbl hbA hS v1 dL_law_941 ?_
  refine lm_faint C0 hN hK hMI hl.1 (Nat.le_of_ble_eq_true rfl) hc0 dL_law_942 hP hD hS (fun r_4 u_6 H locs hMI hp_5 hP hD hS => ?_)
  refine lv_pop hx hb dL_law_945 rfl ?_
  refine lv_goto (tgt := 2660) hx hb dL_law_946 (by decide) ?_
  refine W.widen (k := 200 + 9 * (n + 1)) (n := 10000 + 132 * (n + 1)) (by omega) (by omega) ?_
  refine lv_iinc (v := i + 6) (lv' := [(3, .int (i + 6)), (2, .ref (g 0)), (1, .ref (a 0)), (0, .ref b)]) hx hb dL_law_2660 hl (k := 0) rfl rfl (by decide) rfl (fun ls hl => ?_)
  refine lv_goto (tgt := 18) hx hb dL_law_2663 (by decide) ?_
  have hJ2 : JI (XSf u_3) (MSf u_6) := (by rw [hp_2, hp_5]; exact hJ)
  exact KK _ _ _ _ _ _ _ (i6F hi hn) hXI hMI hJ2 hP hD hS hl
set_option maxHeartbeats 8000000 in
set_option maxRecDepth 100000 in
theorem lw_case_19 {p : Program} {l : Launch} {e : Env} {s : State} {m : MethodId} {below : List Frame} {meth : Method} {c : Code} {b L : Nat} {xs : Nat → Int32} {dC : Nat → ClassId} {dI : Nat → Nat → Nat} {cB cI cJ cZ cL : ClassId} (C0 : lw_At p s m meth c b L xs) (hN : NW s) (hK : va_K (dC, dI) vwCl (tyL cB cI cJ cZ cL) s) {a g adK adV : Nat → Nat} (hV : SW adK adV (fun q : Nat => s.heap.size ≤ q) s s.heap) {n : Nat} {i : Int32} {u : XT} {v : MT} {T : va_W} (hn : n ≤ 511) (hi : Int32.toInt i = 6 * (n : Int)) (hiL : 6 * n + 6 ≤ L) (hXI : XI cB cI cJ cZ cL u T) (hMI : MI v) (hJ : JI (XSf u) (MSf v)) {H : Heap} {locs : List Loc} (hP : va_P (dC, dI) vwCl (WX a cB cI cJ cZ cL u ++ (WM g cB cI cJ cZ cL v ++ T)) H) (hD : va_D (fun q : Nat => s.heap.size ≤ q) (WX a cB cI cJ cZ cL u ++ (WM g cB cI cJ cZ cL v ++ T))) (hS : va_S (fun q : Nat => s.heap.size ≤ q) s.heap H locs) {ls : Array Slot} (hl : lv_has ls 4 [(3, .int i), (2, .ref (g 0)), (1, .ref (a 0)), (0, .ref b)]) (KK : ∀ (i : Int32) (u : XT) (v : MT) (T : va_W) (H : Heap) (locs : List Loc) (ls : Array Slot), Int32.toInt i = 6 * ((n + 1 : Nat) : Int) → XI cB cI cJ cZ cL u T → MI v → JI (XSf u) (MSf v) → va_P (dC, dI) vwCl (WX a cB cI cJ cZ cL u ++ (WM g cB cI cJ cZ cL v ++ T)) H → va_D (fun q : Nat => s.heap.size ≤ q) (WX a cB cI cJ cZ cL u ++ (WM g cB cI cJ cZ cL v ++ T)) → va_S (fun q : Nat => s.heap.size ≤ q) s.heap H locs → lv_has ls 4 [(3, .int i), (2, .ref (g 0)), (1, .ref (a 0)), (0, .ref b)] → W p l e room_1 s m #[Value.ref b] below meth c H locs (200 + 9 * (n + 1)) (10000 + 132 * (n + 1)) (lw_Z below #[Value.ref b] s) (F0 m 18 ls [])) : W p l e room_1 s m #[Value.ref b] below meth c H locs (200 + 9 * n) (10000 + 132 * n) (lw_Z below #[Value.ref b] s) (F0 m 949 ls []) := by
  obtain ⟨hx, hb, hr, hml, hown, hts, hX, hbl, hlocks, hgv⟩ := id C0
  have ht : ∀ w ∈ lw_ok, w.before #[Value.ref b] s = true := fun w h => hts w (List.mem_filter.mp h).1
  have hbA : ¬ (fun q : Nat => s.heap.size ≤ q) b := Nat.not_le.mpr hbl
  have hc0 : 200 + 9 * n + 0 ≤ room_1.cells ∧ 10000 + 132 * n + 0 ≤ room_1.slots := ⟨by show 200 + 9 * n + 0 ≤ 600000; omega, by show 10000 + 132 * n + 0 ≤ 7302249; omega⟩
  have v1 : vp_in (i + 1) L := ijF hi hn hiL (by decide) (by decide)
  refine lv_aload_n hx hb dL_law_949 rfl (lv_at hl 2 rfl) ?_
  refine lv_aload_n hx hb dL_law_950 rfl (lv_at hl 3 rfl) ?_
  refine lv_iload_n hx hb dL_law_951 rfl (lv_at hl 0 rfl) ?_
  refine lv_iconst (v := 1) hx hb dL_law_952 (by decide) ?_
  refine lv_iadd hx hb dL_law_953 ?_
  refine va_sld hx hb hX hbl hbA hS v1 dL_law_954 ?_
  refine lx_when C0 hN hK hXI hl.1 (Nat.le_of_ble_eq_true rfl) hc0 dL_law_955 hP hD hS (fun r_1 u_3 H locs hXI hp_2 hP hD hS => ?_)
  refine lv_pop hx hb dL_law_958 rfl ?_
  refine lv_aload_n hx hb dL_law_959 rfl (lv_at hl 1 rfl) ?_
  refine lv_aload_n hx hb dL_law_960 rfl (lv_at hl 3 rfl) ?_
  refine lv_iload_n hx hb dL_law_961 rfl (lv_at hl 0 rfl) ?_
  refine lv_iconst (v := 1) hx hb dL_law_962 (by decide) ?_
  refine lv_iadd hx hb dL_law_963 ?_
  refine va_sld hx hb hX hbl hbA hS v1 dL_law_964 ?_
  refine lm_when C0 hN hK hMI hl.1 (Nat.le_of_ble_eq_true rfl) hc0 dL_law_965 hP hD hS (fun r_4 u_6 H locs hMI hp_5 hP hD hS => ?_)
  refine lv_pop hx hb dL_law_968 rfl ?_
  refine lv_goto (tgt := 2660) hx hb dL_law_969 (by decide) ?_
  refine W.widen (k := 200 + 9 * (n + 1)) (n := 10000 + 132 * (n + 1)) (by omega) (by omega) ?_
  refine lv_iinc (v := i + 6) (lv' := [(3, .int (i + 6)), (2, .ref (g 0)), (1, .ref (a 0)), (0, .ref b)]) hx hb dL_law_2660 hl (k := 0) rfl rfl (by decide) rfl (fun ls hl => ?_)
  refine lv_goto (tgt := 18) hx hb dL_law_2663 (by decide) ?_
  have hJ2 : JI (XSf u_3) (MSf u_6) := (by rw [hp_2, hp_5]; exact hJ)
  exact KK _ _ _ _ _ _ _ (i6F hi hn) hXI hMI hJ2 hP hD hS hl
set_option maxHeartbeats 8000000 in
set_option maxRecDepth 100000 in
theorem lw_case_20 {p : Program} {l : Launch} {e : Env} {s : State} {m : MethodId} {below : List Frame} {meth : Method} {c : Code} {b L : Nat} {xs : Nat → Int32} {dC : Nat → ClassId} {dI : Nat → Nat → Nat} {cB cI cJ cZ cL : ClassId} (C0 : lw_At p s m meth c b L xs) (hN : NW s) (hK : va_K (dC, dI) vwCl (tyL cB cI cJ cZ cL) s) {a g adK adV : Nat → Nat} (hV : SW adK adV (fun q : Nat => s.heap.size ≤ q) s s.heap) {n : Nat} {i : Int32} {u : XT} {v : MT} {T : va_W} (hn : n ≤ 511) (hi : Int32.toInt i = 6 * (n : Int)) (hiL : 6 * n + 6 ≤ L) (hXI : XI cB cI cJ cZ cL u T) (hMI : MI v) (hJ : JI (XSf u) (MSf v)) {H : Heap} {locs : List Loc} (hP : va_P (dC, dI) vwCl (WX a cB cI cJ cZ cL u ++ (WM g cB cI cJ cZ cL v ++ T)) H) (hD : va_D (fun q : Nat => s.heap.size ≤ q) (WX a cB cI cJ cZ cL u ++ (WM g cB cI cJ cZ cL v ++ T))) (hS : va_S (fun q : Nat => s.heap.size ≤ q) s.heap H locs) {ls : Array Slot} (hl : lv_has ls 4 [(3, .int i), (2, .ref (g 0)), (1, .ref (a 0)), (0, .ref b)]) (KK : ∀ (i : Int32) (u : XT) (v : MT) (T : va_W) (H : Heap) (locs : List Loc) (ls : Array Slot), Int32.toInt i = 6 * ((n + 1 : Nat) : Int) → XI cB cI cJ cZ cL u T → MI v → JI (XSf u) (MSf v) → va_P (dC, dI) vwCl (WX a cB cI cJ cZ cL u ++ (WM g cB cI cJ cZ cL v ++ T)) H → va_D (fun q : Nat => s.heap.size ≤ q) (WX a cB cI cJ cZ cL u ++ (WM g cB cI cJ cZ cL v ++ T)) → va_S (fun q : Nat => s.heap.size ≤ q) s.heap H locs → lv_has ls 4 [(3, .int i), (2, .ref (g 0)), (1, .ref (a 0)), (0, .ref b)] → W p l e room_1 s m #[Value.ref b] below meth c H locs (200 + 9 * (n + 1)) (10000 + 132 * (n + 1)) (lw_Z below #[Value.ref b] s) (F0 m 18 ls [])) : W p l e room_1 s m #[Value.ref b] below meth c H locs (200 + 9 * n) (10000 + 132 * n) (lw_Z below #[Value.ref b] s) (F0 m 972 ls []) := by
  obtain ⟨hx, hb, hr, hml, hown, hts, hX, hbl, hlocks, hgv⟩ := id C0
  have ht : ∀ w ∈ lw_ok, w.before #[Value.ref b] s = true := fun w h => hts w (List.mem_filter.mp h).1
  have hbA : ¬ (fun q : Nat => s.heap.size ≤ q) b := Nat.not_le.mpr hbl
  have hc0 : 200 + 9 * n + 0 ≤ room_1.cells ∧ 10000 + 132 * n + 0 ≤ room_1.slots := ⟨by show 200 + 9 * n + 0 ≤ 600000; omega, by show 10000 + 132 * n + 0 ≤ 7302249; omega⟩
  have v1 : vp_in (i + 1) L := ijF hi hn hiL (by decide) (by decide)
  refine lv_aload_n hx hb dL_law_972 rfl (lv_at hl 2 rfl) ?_
  refine lv_aload_n hx hb dL_law_973 rfl (lv_at hl 3 rfl) ?_
  refine lv_iload_n hx hb dL_law_974 rfl (lv_at hl 0 rfl) ?_
  refine lv_iconst (v := 1) hx hb dL_law_975 (by decide) ?_
  refine lv_iadd hx hb dL_law_976 ?_
  refine va_sld hx hb hX hbl hbA hS v1 dL_law_977 ?_
  refine lx_deaf C0 hN hK hXI hl.1 (Nat.le_of_ble_eq_true rfl) hc0 dL_law_978 hP hD hS (fun r_1 u_3 H locs hXI hp_2 hP hD hS => ?_)
  refine lv_pop hx hb dL_law_981 rfl ?_
  refine lv_aload_n hx hb dL_law_982 rfl (lv_at hl 1 rfl) ?_
  refine lv_aload_n hx hb dL_law_983 rfl (lv_at hl 3 rfl) ?_
  refine lv_iload_n hx hb dL_law_984 rfl (lv_at hl 0 rfl) ?_
  refine lv_iconst (v := 1) hx hb dL_law_985 (by decide) ?_
  refine lv_iadd hx hb dL_law_986 ?_
  refine va_sld hx hb hX hbl hbA hS v1 dL_law_987 ?_
  refine lm_deaf C0 hN hK hMI hl.1 (Nat.le_of_ble_eq_true rfl) hc0 dL_law_988 hP hD hS (fun r_4 u_6 H locs hMI hp_5 hP hD hS => ?_)
  refine lv_pop hx hb dL_law_991 rfl ?_
  refine lv_goto (tgt := 2660) hx hb dL_law_992 (by decide) ?_
  refine W.widen (k := 200 + 9 * (n + 1)) (n := 10000 + 132 * (n + 1)) (by omega) (by omega) ?_
  refine lv_iinc (v := i + 6) (lv' := [(3, .int (i + 6)), (2, .ref (g 0)), (1, .ref (a 0)), (0, .ref b)]) hx hb dL_law_2660 hl (k := 0) rfl rfl (by decide) rfl (fun ls hl => ?_)
  refine lv_goto (tgt := 18) hx hb dL_law_2663 (by decide) ?_
  have hJ2 : JI (XSf u_3) (MSf u_6) := (by rw [hp_2, hp_5]; exact hJ)
  exact KK _ _ _ _ _ _ _ (i6F hi hn) hXI hMI hJ2 hP hD hS hl
set_option maxHeartbeats 8000000 in
set_option maxRecDepth 100000 in
theorem lw_case_21 {p : Program} {l : Launch} {e : Env} {s : State} {m : MethodId} {below : List Frame} {meth : Method} {c : Code} {b L : Nat} {xs : Nat → Int32} {dC : Nat → ClassId} {dI : Nat → Nat → Nat} {cB cI cJ cZ cL : ClassId} (C0 : lw_At p s m meth c b L xs) (hN : NW s) (hK : va_K (dC, dI) vwCl (tyL cB cI cJ cZ cL) s) {a g adK adV : Nat → Nat} (hV : SW adK adV (fun q : Nat => s.heap.size ≤ q) s s.heap) {n : Nat} {i : Int32} {u : XT} {v : MT} {T : va_W} (hn : n ≤ 511) (hi : Int32.toInt i = 6 * (n : Int)) (hiL : 6 * n + 6 ≤ L) (hXI : XI cB cI cJ cZ cL u T) (hMI : MI v) (hJ : JI (XSf u) (MSf v)) {H : Heap} {locs : List Loc} (hP : va_P (dC, dI) vwCl (WX a cB cI cJ cZ cL u ++ (WM g cB cI cJ cZ cL v ++ T)) H) (hD : va_D (fun q : Nat => s.heap.size ≤ q) (WX a cB cI cJ cZ cL u ++ (WM g cB cI cJ cZ cL v ++ T))) (hS : va_S (fun q : Nat => s.heap.size ≤ q) s.heap H locs) {ls : Array Slot} (hl : lv_has ls 4 [(3, .int i), (2, .ref (g 0)), (1, .ref (a 0)), (0, .ref b)]) (KK : ∀ (i : Int32) (u : XT) (v : MT) (T : va_W) (H : Heap) (locs : List Loc) (ls : Array Slot), Int32.toInt i = 6 * ((n + 1 : Nat) : Int) → XI cB cI cJ cZ cL u T → MI v → JI (XSf u) (MSf v) → va_P (dC, dI) vwCl (WX a cB cI cJ cZ cL u ++ (WM g cB cI cJ cZ cL v ++ T)) H → va_D (fun q : Nat => s.heap.size ≤ q) (WX a cB cI cJ cZ cL u ++ (WM g cB cI cJ cZ cL v ++ T)) → va_S (fun q : Nat => s.heap.size ≤ q) s.heap H locs → lv_has ls 4 [(3, .int i), (2, .ref (g 0)), (1, .ref (a 0)), (0, .ref b)] → W p l e room_1 s m #[Value.ref b] below meth c H locs (200 + 9 * (n + 1)) (10000 + 132 * (n + 1)) (lw_Z below #[Value.ref b] s) (F0 m 18 ls [])) : W p l e room_1 s m #[Value.ref b] below meth c H locs (200 + 9 * n) (10000 + 132 * n) (lw_Z below #[Value.ref b] s) (F0 m 995 ls []) := by
  obtain ⟨hx, hb, hr, hml, hown, hts, hX, hbl, hlocks, hgv⟩ := id C0
  have ht : ∀ w ∈ lw_ok, w.before #[Value.ref b] s = true := fun w h => hts w (List.mem_filter.mp h).1
  have hbA : ¬ (fun q : Nat => s.heap.size ≤ q) b := Nat.not_le.mpr hbl
  have hc0 : 200 + 9 * n + 0 ≤ room_1.cells ∧ 10000 + 132 * n + 0 ≤ room_1.slots := ⟨by show 200 + 9 * n + 0 ≤ 600000; omega, by show 10000 + 132 * n + 0 ≤ 7302249; omega⟩
  have v1 : vp_in (i + 1) L := ijF hi hn hiL (by decide) (by decide)
  refine lv_aload_n hx hb dL_law_995 rfl (lv_at hl 2 rfl) ?_
  refine lv_aload_n hx hb dL_law_996 rfl (lv_at hl 3 rfl) ?_
  refine lv_iload_n hx hb dL_law_997 rfl (lv_at hl 0 rfl) ?_
  refine lv_iconst (v := 1) hx hb dL_law_998 (by decide) ?_
  refine lv_iadd hx hb dL_law_999 ?_
  refine va_sld hx hb hX hbl hbA hS v1 dL_law_1000 ?_
  refine lx_longest C0 hN hK hXI hl.1 (Nat.le_of_ble_eq_true rfl) hc0 dL_law_1001 hP hD hS (fun r_1 u_3 H locs hXI hp_2 hP hD hS => ?_)
  refine lv_pop hx hb dL_law_1004 rfl ?_
  refine lv_aload_n hx hb dL_law_1005 rfl (lv_at hl 1 rfl) ?_
  refine lv_aload_n hx hb dL_law_1006 rfl (lv_at hl 3 rfl) ?_
  refine lv_iload_n hx hb dL_law_1007 rfl (lv_at hl 0 rfl) ?_
  refine lv_iconst (v := 1) hx hb dL_law_1008 (by decide) ?_
  refine lv_iadd hx hb dL_law_1009 ?_
  refine va_sld hx hb hX hbl hbA hS v1 dL_law_1010 ?_
  refine lm_longest C0 hN hK hMI hl.1 (Nat.le_of_ble_eq_true rfl) hc0 dL_law_1011 hP hD hS (fun r_4 u_6 H locs hMI hp_5 hP hD hS => ?_)
  refine lv_pop hx hb dL_law_1014 rfl ?_
  refine lv_goto (tgt := 2660) hx hb dL_law_1015 (by decide) ?_
  refine W.widen (k := 200 + 9 * (n + 1)) (n := 10000 + 132 * (n + 1)) (by omega) (by omega) ?_
  refine lv_iinc (v := i + 6) (lv' := [(3, .int (i + 6)), (2, .ref (g 0)), (1, .ref (a 0)), (0, .ref b)]) hx hb dL_law_2660 hl (k := 0) rfl rfl (by decide) rfl (fun ls hl => ?_)
  refine lv_goto (tgt := 18) hx hb dL_law_2663 (by decide) ?_
  have hJ2 : JI (XSf u_3) (MSf u_6) := (by rw [hp_2, hp_5]; exact hJ)
  exact KK _ _ _ _ _ _ _ (i6F hi hn) hXI hMI hJ2 hP hD hS hl
set_option maxHeartbeats 8000000 in
set_option maxRecDepth 100000 in
theorem lw_case_22 {p : Program} {l : Launch} {e : Env} {s : State} {m : MethodId} {below : List Frame} {meth : Method} {c : Code} {b L : Nat} {xs : Nat → Int32} {dC : Nat → ClassId} {dI : Nat → Nat → Nat} {cB cI cJ cZ cL : ClassId} (C0 : lw_At p s m meth c b L xs) (hN : NW s) (hK : va_K (dC, dI) vwCl (tyL cB cI cJ cZ cL) s) {a g adK adV : Nat → Nat} (hV : SW adK adV (fun q : Nat => s.heap.size ≤ q) s s.heap) {n : Nat} {i : Int32} {u : XT} {v : MT} {T : va_W} (hn : n ≤ 511) (hi : Int32.toInt i = 6 * (n : Int)) (hiL : 6 * n + 6 ≤ L) (hXI : XI cB cI cJ cZ cL u T) (hMI : MI v) (hJ : JI (XSf u) (MSf v)) {H : Heap} {locs : List Loc} (hP : va_P (dC, dI) vwCl (WX a cB cI cJ cZ cL u ++ (WM g cB cI cJ cZ cL v ++ T)) H) (hD : va_D (fun q : Nat => s.heap.size ≤ q) (WX a cB cI cJ cZ cL u ++ (WM g cB cI cJ cZ cL v ++ T))) (hS : va_S (fun q : Nat => s.heap.size ≤ q) s.heap H locs) {ls : Array Slot} (hl : lv_has ls 4 [(3, .int i), (2, .ref (g 0)), (1, .ref (a 0)), (0, .ref b)]) (KK : ∀ (i : Int32) (u : XT) (v : MT) (T : va_W) (H : Heap) (locs : List Loc) (ls : Array Slot), Int32.toInt i = 6 * ((n + 1 : Nat) : Int) → XI cB cI cJ cZ cL u T → MI v → JI (XSf u) (MSf v) → va_P (dC, dI) vwCl (WX a cB cI cJ cZ cL u ++ (WM g cB cI cJ cZ cL v ++ T)) H → va_D (fun q : Nat => s.heap.size ≤ q) (WX a cB cI cJ cZ cL u ++ (WM g cB cI cJ cZ cL v ++ T)) → va_S (fun q : Nat => s.heap.size ≤ q) s.heap H locs → lv_has ls 4 [(3, .int i), (2, .ref (g 0)), (1, .ref (a 0)), (0, .ref b)] → W p l e room_1 s m #[Value.ref b] below meth c H locs (200 + 9 * (n + 1)) (10000 + 132 * (n + 1)) (lw_Z below #[Value.ref b] s) (F0 m 18 ls [])) : W p l e room_1 s m #[Value.ref b] below meth c H locs (200 + 9 * n) (10000 + 132 * n) (lw_Z below #[Value.ref b] s) (F0 m 1018 ls []) := by
  obtain ⟨hx, hb, hr, hml, hown, hts, hX, hbl, hlocks, hgv⟩ := id C0
  have ht : ∀ w ∈ lw_ok, w.before #[Value.ref b] s = true := fun w h => hts w (List.mem_filter.mp h).1
  have hbA : ¬ (fun q : Nat => s.heap.size ≤ q) b := Nat.not_le.mpr hbl
  have hc0 : 200 + 9 * n + 0 ≤ room_1.cells ∧ 10000 + 132 * n + 0 ≤ room_1.slots := ⟨by show 200 + 9 * n + 0 ≤ 600000; omega, by show 10000 + 132 * n + 0 ≤ 7302249; omega⟩
  have v1 : vp_in (i + 1) L := ijF hi hn hiL (by decide) (by decide)
  refine lv_aload_n hx hb dL_law_1018 rfl (lv_at hl 2 rfl) ?_
  refine lv_aload_n hx hb dL_law_1019 rfl (lv_at hl 3 rfl) ?_
  refine lv_iload_n hx hb dL_law_1020 rfl (lv_at hl 0 rfl) ?_
  refine lv_iconst (v := 1) hx hb dL_law_1021 (by decide) ?_
  refine lv_iadd hx hb dL_law_1022 ?_
  refine va_sld hx hb hX hbl hbA hS v1 dL_law_1023 ?_
  refine lx_flips C0 hN hK hXI hl.1 (Nat.le_of_ble_eq_true rfl) hc0 dL_law_1024 hP hD hS (fun r_1 u_3 H locs hXI hp_2 hP hD hS => ?_)
  refine lv_pop hx hb dL_law_1027 rfl ?_
  refine lv_aload_n hx hb dL_law_1028 rfl (lv_at hl 1 rfl) ?_
  refine lv_aload_n hx hb dL_law_1029 rfl (lv_at hl 3 rfl) ?_
  refine lv_iload_n hx hb dL_law_1030 rfl (lv_at hl 0 rfl) ?_
  refine lv_iconst (v := 1) hx hb dL_law_1031 (by decide) ?_
  refine lv_iadd hx hb dL_law_1032 ?_
  refine va_sld hx hb hX hbl hbA hS v1 dL_law_1033 ?_
  refine lm_flips C0 hN hK hMI hl.1 (Nat.le_of_ble_eq_true rfl) hc0 dL_law_1034 hP hD hS (fun r_4 u_6 H locs hMI hp_5 hP hD hS => ?_)
  refine lv_pop hx hb dL_law_1037 rfl ?_
  refine lv_goto (tgt := 2660) hx hb dL_law_1038 (by decide) ?_
  refine W.widen (k := 200 + 9 * (n + 1)) (n := 10000 + 132 * (n + 1)) (by omega) (by omega) ?_
  refine lv_iinc (v := i + 6) (lv' := [(3, .int (i + 6)), (2, .ref (g 0)), (1, .ref (a 0)), (0, .ref b)]) hx hb dL_law_2660 hl (k := 0) rfl rfl (by decide) rfl (fun ls hl => ?_)
  refine lv_goto (tgt := 18) hx hb dL_law_2663 (by decide) ?_
  have hJ2 : JI (XSf u_3) (MSf u_6) := (by rw [hp_2, hp_5]; exact hJ)
  exact KK _ _ _ _ _ _ _ (i6F hi hn) hXI hMI hJ2 hP hD hS hl
set_option maxHeartbeats 8000000 in
set_option maxRecDepth 100000 in
theorem lw_case_23 {p : Program} {l : Launch} {e : Env} {s : State} {m : MethodId} {below : List Frame} {meth : Method} {c : Code} {b L : Nat} {xs : Nat → Int32} {dC : Nat → ClassId} {dI : Nat → Nat → Nat} {cB cI cJ cZ cL : ClassId} (C0 : lw_At p s m meth c b L xs) (hN : NW s) (hK : va_K (dC, dI) vwCl (tyL cB cI cJ cZ cL) s) {a g adK adV : Nat → Nat} (hV : SW adK adV (fun q : Nat => s.heap.size ≤ q) s s.heap) {n : Nat} {i : Int32} {u : XT} {v : MT} {T : va_W} (hn : n ≤ 511) (hi : Int32.toInt i = 6 * (n : Int)) (hiL : 6 * n + 6 ≤ L) (hXI : XI cB cI cJ cZ cL u T) (hMI : MI v) (hJ : JI (XSf u) (MSf v)) {H : Heap} {locs : List Loc} (hP : va_P (dC, dI) vwCl (WX a cB cI cJ cZ cL u ++ (WM g cB cI cJ cZ cL v ++ T)) H) (hD : va_D (fun q : Nat => s.heap.size ≤ q) (WX a cB cI cJ cZ cL u ++ (WM g cB cI cJ cZ cL v ++ T))) (hS : va_S (fun q : Nat => s.heap.size ≤ q) s.heap H locs) {ls : Array Slot} (hl : lv_has ls 4 [(3, .int i), (2, .ref (g 0)), (1, .ref (a 0)), (0, .ref b)]) (KK : ∀ (i : Int32) (u : XT) (v : MT) (T : va_W) (H : Heap) (locs : List Loc) (ls : Array Slot), Int32.toInt i = 6 * ((n + 1 : Nat) : Int) → XI cB cI cJ cZ cL u T → MI v → JI (XSf u) (MSf v) → va_P (dC, dI) vwCl (WX a cB cI cJ cZ cL u ++ (WM g cB cI cJ cZ cL v ++ T)) H → va_D (fun q : Nat => s.heap.size ≤ q) (WX a cB cI cJ cZ cL u ++ (WM g cB cI cJ cZ cL v ++ T)) → va_S (fun q : Nat => s.heap.size ≤ q) s.heap H locs → lv_has ls 4 [(3, .int i), (2, .ref (g 0)), (1, .ref (a 0)), (0, .ref b)] → W p l e room_1 s m #[Value.ref b] below meth c H locs (200 + 9 * (n + 1)) (10000 + 132 * (n + 1)) (lw_Z below #[Value.ref b] s) (F0 m 18 ls [])) : W p l e room_1 s m #[Value.ref b] below meth c H locs (200 + 9 * n) (10000 + 132 * n) (lw_Z below #[Value.ref b] s) (F0 m 1041 ls []) := by
  obtain ⟨hx, hb, hr, hml, hown, hts, hX, hbl, hlocks, hgv⟩ := id C0
  have ht : ∀ w ∈ lw_ok, w.before #[Value.ref b] s = true := fun w h => hts w (List.mem_filter.mp h).1
  have hbA : ¬ (fun q : Nat => s.heap.size ≤ q) b := Nat.not_le.mpr hbl
  have hc0 : 200 + 9 * n + 0 ≤ room_1.cells ∧ 10000 + 132 * n + 0 ≤ room_1.slots := ⟨by show 200 + 9 * n + 0 ≤ 600000; omega, by show 10000 + 132 * n + 0 ≤ 7302249; omega⟩
  refine lv_aload_n hx hb dL_law_1041 rfl (lv_at hl 2 rfl) ?_
  refine lx_clear C0 hN hK hXI hl.1 (Nat.le_of_ble_eq_true rfl) hc0 dL_law_1042 hP hD hS (fun r_1 u_3 H locs hXI hp_2 hP hD hS => ?_)
  refine lv_pop hx hb dL_law_1045 rfl ?_
  refine lv_aload_n hx hb dL_law_1046 rfl (lv_at hl 1 rfl) ?_
  refine lm_clear C0 hN hK hMI hl.1 (Nat.le_of_ble_eq_true rfl) hc0 dL_law_1047 hP hD hS (fun r_4 u_6 H locs hMI hp_5 hP hD hS => ?_)
  refine lv_pop hx hb dL_law_1050 rfl ?_
  refine lv_goto (tgt := 2660) hx hb dL_law_1051 (by decide) ?_
  refine W.widen (k := 200 + 9 * (n + 1)) (n := 10000 + 132 * (n + 1)) (by omega) (by omega) ?_
  refine lv_iinc (v := i + 6) (lv' := [(3, .int (i + 6)), (2, .ref (g 0)), (1, .ref (a 0)), (0, .ref b)]) hx hb dL_law_2660 hl (k := 0) rfl rfl (by decide) rfl (fun ls hl => ?_)
  refine lv_goto (tgt := 18) hx hb dL_law_2663 (by decide) ?_
  have hJ2 : JI (XSf u_3) (MSf u_6) := (by rw [hp_2, hp_5]; exact hJ)
  exact KK _ _ _ _ _ _ _ (i6F hi hn) hXI hMI hJ2 hP hD hS hl
set_option maxHeartbeats 8000000 in
set_option maxRecDepth 100000 in
theorem lw_case_24 {p : Program} {l : Launch} {e : Env} {s : State} {m : MethodId} {below : List Frame} {meth : Method} {c : Code} {b L : Nat} {xs : Nat → Int32} {dC : Nat → ClassId} {dI : Nat → Nat → Nat} {cB cI cJ cZ cL : ClassId} (C0 : lw_At p s m meth c b L xs) (hN : NW s) (hK : va_K (dC, dI) vwCl (tyL cB cI cJ cZ cL) s) {a g adK adV : Nat → Nat} (hV : SW adK adV (fun q : Nat => s.heap.size ≤ q) s s.heap) {n : Nat} {i : Int32} {u : XT} {v : MT} {T : va_W} (hn : n ≤ 511) (hi : Int32.toInt i = 6 * (n : Int)) (hiL : 6 * n + 6 ≤ L) (hXI : XI cB cI cJ cZ cL u T) (hMI : MI v) (hJ : JI (XSf u) (MSf v)) {H : Heap} {locs : List Loc} (hP : va_P (dC, dI) vwCl (WX a cB cI cJ cZ cL u ++ (WM g cB cI cJ cZ cL v ++ T)) H) (hD : va_D (fun q : Nat => s.heap.size ≤ q) (WX a cB cI cJ cZ cL u ++ (WM g cB cI cJ cZ cL v ++ T))) (hS : va_S (fun q : Nat => s.heap.size ≤ q) s.heap H locs) {ls : Array Slot} (hl : lv_has ls 4 [(3, .int i), (2, .ref (g 0)), (1, .ref (a 0)), (0, .ref b)]) (KK : ∀ (i : Int32) (u : XT) (v : MT) (T : va_W) (H : Heap) (locs : List Loc) (ls : Array Slot), Int32.toInt i = 6 * ((n + 1 : Nat) : Int) → XI cB cI cJ cZ cL u T → MI v → JI (XSf u) (MSf v) → va_P (dC, dI) vwCl (WX a cB cI cJ cZ cL u ++ (WM g cB cI cJ cZ cL v ++ T)) H → va_D (fun q : Nat => s.heap.size ≤ q) (WX a cB cI cJ cZ cL u ++ (WM g cB cI cJ cZ cL v ++ T)) → va_S (fun q : Nat => s.heap.size ≤ q) s.heap H locs → lv_has ls 4 [(3, .int i), (2, .ref (g 0)), (1, .ref (a 0)), (0, .ref b)] → W p l e room_1 s m #[Value.ref b] below meth c H locs (200 + 9 * (n + 1)) (10000 + 132 * (n + 1)) (lw_Z below #[Value.ref b] s) (F0 m 18 ls [])) : W p l e room_1 s m #[Value.ref b] below meth c H locs (200 + 9 * n) (10000 + 132 * n) (lw_Z below #[Value.ref b] s) (F0 m 1054 ls []) := by
  obtain ⟨hx, hb, hr, hml, hown, hts, hX, hbl, hlocks, hgv⟩ := id C0
  have ht : ∀ w ∈ lw_ok, w.before #[Value.ref b] s = true := fun w h => hts w (List.mem_filter.mp h).1
  have hbA : ¬ (fun q : Nat => s.heap.size ≤ q) b := Nat.not_le.mpr hbl
  have hc0 : 200 + 9 * n + 0 ≤ room_1.cells ∧ 10000 + 132 * n + 0 ≤ room_1.slots := ⟨by show 200 + 9 * n + 0 ≤ 600000; omega, by show 10000 + 132 * n + 0 ≤ 7302249; omega⟩
  refine lv_aload_n hx hb dL_law_1054 rfl (lv_at hl 2 rfl) ?_
  refine lx_last C0 hN hK hXI hl.1 (Nat.le_of_ble_eq_true rfl) hc0 dL_law_1055 hP hD hS (fun r_1 u_3 H locs hXI hp_2 hP hD hS => ?_)
  refine lv_pop hx hb dL_law_1058 rfl ?_
  refine lv_aload_n hx hb dL_law_1059 rfl (lv_at hl 1 rfl) ?_
  refine lm_last C0 hN hK hMI hl.1 (Nat.le_of_ble_eq_true rfl) hc0 dL_law_1060 hP hD hS (fun r_4 u_6 H locs hMI hp_5 hP hD hS => ?_)
  refine lv_pop hx hb dL_law_1063 rfl ?_
  refine lv_goto (tgt := 2660) hx hb dL_law_1064 (by decide) ?_
  refine W.widen (k := 200 + 9 * (n + 1)) (n := 10000 + 132 * (n + 1)) (by omega) (by omega) ?_
  refine lv_iinc (v := i + 6) (lv' := [(3, .int (i + 6)), (2, .ref (g 0)), (1, .ref (a 0)), (0, .ref b)]) hx hb dL_law_2660 hl (k := 0) rfl rfl (by decide) rfl (fun ls hl => ?_)
  refine lv_goto (tgt := 18) hx hb dL_law_2663 (by decide) ?_
  have hJ2 : JI (XSf u_3) (MSf u_6) := (by rw [hp_2, hp_5]; exact hJ)
  exact KK _ _ _ _ _ _ _ (i6F hi hn) hXI hMI hJ2 hP hD hS hl
set_option maxHeartbeats 8000000 in
set_option maxRecDepth 100000 in
theorem lw_case_25 {p : Program} {l : Launch} {e : Env} {s : State} {m : MethodId} {below : List Frame} {meth : Method} {c : Code} {b L : Nat} {xs : Nat → Int32} {dC : Nat → ClassId} {dI : Nat → Nat → Nat} {cB cI cJ cZ cL : ClassId} (C0 : lw_At p s m meth c b L xs) (hN : NW s) (hK : va_K (dC, dI) vwCl (tyL cB cI cJ cZ cL) s) {a g adK adV : Nat → Nat} (hV : SW adK adV (fun q : Nat => s.heap.size ≤ q) s s.heap) {n : Nat} {i : Int32} {u : XT} {v : MT} {T : va_W} (hn : n ≤ 511) (hi : Int32.toInt i = 6 * (n : Int)) (hiL : 6 * n + 6 ≤ L) (hXI : XI cB cI cJ cZ cL u T) (hMI : MI v) (hJ : JI (XSf u) (MSf v)) {H : Heap} {locs : List Loc} (hP : va_P (dC, dI) vwCl (WX a cB cI cJ cZ cL u ++ (WM g cB cI cJ cZ cL v ++ T)) H) (hD : va_D (fun q : Nat => s.heap.size ≤ q) (WX a cB cI cJ cZ cL u ++ (WM g cB cI cJ cZ cL v ++ T))) (hS : va_S (fun q : Nat => s.heap.size ≤ q) s.heap H locs) {ls : Array Slot} (hl : lv_has ls 4 [(3, .int i), (2, .ref (g 0)), (1, .ref (a 0)), (0, .ref b)]) (KK : ∀ (i : Int32) (u : XT) (v : MT) (T : va_W) (H : Heap) (locs : List Loc) (ls : Array Slot), Int32.toInt i = 6 * ((n + 1 : Nat) : Int) → XI cB cI cJ cZ cL u T → MI v → JI (XSf u) (MSf v) → va_P (dC, dI) vwCl (WX a cB cI cJ cZ cL u ++ (WM g cB cI cJ cZ cL v ++ T)) H → va_D (fun q : Nat => s.heap.size ≤ q) (WX a cB cI cJ cZ cL u ++ (WM g cB cI cJ cZ cL v ++ T)) → va_S (fun q : Nat => s.heap.size ≤ q) s.heap H locs → lv_has ls 4 [(3, .int i), (2, .ref (g 0)), (1, .ref (a 0)), (0, .ref b)] → W p l e room_1 s m #[Value.ref b] below meth c H locs (200 + 9 * (n + 1)) (10000 + 132 * (n + 1)) (lw_Z below #[Value.ref b] s) (F0 m 18 ls [])) : W p l e room_1 s m #[Value.ref b] below meth c H locs (200 + 9 * n) (10000 + 132 * n) (lw_Z below #[Value.ref b] s) (F0 m 1067 ls []) := by
  obtain ⟨hx, hb, hr, hml, hown, hts, hX, hbl, hlocks, hgv⟩ := id C0
  have ht : ∀ w ∈ lw_ok, w.before #[Value.ref b] s = true := fun w h => hts w (List.mem_filter.mp h).1
  have hbA : ¬ (fun q : Nat => s.heap.size ≤ q) b := Nat.not_le.mpr hbl
  have hc0 : 200 + 9 * n + 0 ≤ room_1.cells ∧ 10000 + 132 * n + 0 ≤ room_1.slots := ⟨by show 200 + 9 * n + 0 ≤ 600000; omega, by show 10000 + 132 * n + 0 ≤ 7302249; omega⟩
  refine lv_aload_n hx hb dL_law_1067 rfl (lv_at hl 2 rfl) ?_
  refine lx_dim C0 hN hK hXI hl.1 (Nat.le_of_ble_eq_true rfl) hc0 dL_law_1068 hP hD hS (fun r_1 u_3 H locs hXI hp_2 hP hD hS => ?_)
  refine lv_pop hx hb dL_law_1071 rfl ?_
  refine lv_aload_n hx hb dL_law_1072 rfl (lv_at hl 1 rfl) ?_
  refine lm_dim C0 hN hK hMI hl.1 (Nat.le_of_ble_eq_true rfl) hc0 dL_law_1073 hP hD hS (fun r_4 u_6 H locs hMI hp_5 hP hD hS => ?_)
  refine lv_pop hx hb dL_law_1076 rfl ?_
  refine lv_goto (tgt := 2660) hx hb dL_law_1077 (by decide) ?_
  refine W.widen (k := 200 + 9 * (n + 1)) (n := 10000 + 132 * (n + 1)) (by omega) (by omega) ?_
  refine lv_iinc (v := i + 6) (lv' := [(3, .int (i + 6)), (2, .ref (g 0)), (1, .ref (a 0)), (0, .ref b)]) hx hb dL_law_2660 hl (k := 0) rfl rfl (by decide) rfl (fun ls hl => ?_)
  refine lv_goto (tgt := 18) hx hb dL_law_2663 (by decide) ?_
  have hJ2 : JI (XSf u_3) (MSf u_6) := (by rw [hp_2, hp_5]; exact hJ)
  exact KK _ _ _ _ _ _ _ (i6F hi hn) hXI hMI hJ2 hP hD hS hl
set_option maxHeartbeats 8000000 in
set_option maxRecDepth 100000 in
theorem lw_case_26 {p : Program} {l : Launch} {e : Env} {s : State} {m : MethodId} {below : List Frame} {meth : Method} {c : Code} {b L : Nat} {xs : Nat → Int32} {dC : Nat → ClassId} {dI : Nat → Nat → Nat} {cB cI cJ cZ cL : ClassId} (C0 : lw_At p s m meth c b L xs) (hN : NW s) (hK : va_K (dC, dI) vwCl (tyL cB cI cJ cZ cL) s) {a g adK adV : Nat → Nat} (hV : SW adK adV (fun q : Nat => s.heap.size ≤ q) s s.heap) {n : Nat} {i : Int32} {u : XT} {v : MT} {T : va_W} (hn : n ≤ 511) (hi : Int32.toInt i = 6 * (n : Int)) (hiL : 6 * n + 6 ≤ L) (hXI : XI cB cI cJ cZ cL u T) (hMI : MI v) (hJ : JI (XSf u) (MSf v)) {H : Heap} {locs : List Loc} (hP : va_P (dC, dI) vwCl (WX a cB cI cJ cZ cL u ++ (WM g cB cI cJ cZ cL v ++ T)) H) (hD : va_D (fun q : Nat => s.heap.size ≤ q) (WX a cB cI cJ cZ cL u ++ (WM g cB cI cJ cZ cL v ++ T))) (hS : va_S (fun q : Nat => s.heap.size ≤ q) s.heap H locs) {ls : Array Slot} (hl : lv_has ls 4 [(3, .int i), (2, .ref (g 0)), (1, .ref (a 0)), (0, .ref b)]) (KK : ∀ (i : Int32) (u : XT) (v : MT) (T : va_W) (H : Heap) (locs : List Loc) (ls : Array Slot), Int32.toInt i = 6 * ((n + 1 : Nat) : Int) → XI cB cI cJ cZ cL u T → MI v → JI (XSf u) (MSf v) → va_P (dC, dI) vwCl (WX a cB cI cJ cZ cL u ++ (WM g cB cI cJ cZ cL v ++ T)) H → va_D (fun q : Nat => s.heap.size ≤ q) (WX a cB cI cJ cZ cL u ++ (WM g cB cI cJ cZ cL v ++ T)) → va_S (fun q : Nat => s.heap.size ≤ q) s.heap H locs → lv_has ls 4 [(3, .int i), (2, .ref (g 0)), (1, .ref (a 0)), (0, .ref b)] → W p l e room_1 s m #[Value.ref b] below meth c H locs (200 + 9 * (n + 1)) (10000 + 132 * (n + 1)) (lw_Z below #[Value.ref b] s) (F0 m 18 ls [])) : W p l e room_1 s m #[Value.ref b] below meth c H locs (200 + 9 * n) (10000 + 132 * n) (lw_Z below #[Value.ref b] s) (F0 m 1080 ls []) := by
  obtain ⟨hx, hb, hr, hml, hown, hts, hX, hbl, hlocks, hgv⟩ := id C0
  have ht : ∀ w ∈ lw_ok, w.before #[Value.ref b] s = true := fun w h => hts w (List.mem_filter.mp h).1
  have hbA : ¬ (fun q : Nat => s.heap.size ≤ q) b := Nat.not_le.mpr hbl
  have hc0 : 200 + 9 * n + 0 ≤ room_1.cells ∧ 10000 + 132 * n + 0 ≤ room_1.slots := ⟨by show 200 + 9 * n + 0 ≤ 600000; omega, by show 10000 + 132 * n + 0 ≤ 7302249; omega⟩
  refine lv_aload_n hx hb dL_law_1080 rfl (lv_at hl 2 rfl) ?_
  refine lx_sum C0 hN hK hXI hl.1 (Nat.le_of_ble_eq_true rfl) hc0 dL_law_1081 hP hD hS (fun r_1 u_3 H locs hXI hp_2 hP hD hS => ?_)
  refine lv_pop hx hb dL_law_1084 rfl ?_
  refine lv_aload_n hx hb dL_law_1085 rfl (lv_at hl 1 rfl) ?_
  refine lm_sum C0 hN hK hMI hl.1 (Nat.le_of_ble_eq_true rfl) hc0 dL_law_1086 hP hD hS (fun r_4 u_6 H locs hMI hp_5 hP hD hS => ?_)
  refine lv_pop hx hb dL_law_1089 rfl ?_
  refine lv_goto (tgt := 2660) hx hb dL_law_1090 (by decide) ?_
  refine W.widen (k := 200 + 9 * (n + 1)) (n := 10000 + 132 * (n + 1)) (by omega) (by omega) ?_
  refine lv_iinc (v := i + 6) (lv' := [(3, .int (i + 6)), (2, .ref (g 0)), (1, .ref (a 0)), (0, .ref b)]) hx hb dL_law_2660 hl (k := 0) rfl rfl (by decide) rfl (fun ls hl => ?_)
  refine lv_goto (tgt := 18) hx hb dL_law_2663 (by decide) ?_
  have hJ2 : JI (XSf u_3) (MSf u_6) := (by rw [hp_2, hp_5]; exact hJ)
  exact KK _ _ _ _ _ _ _ (i6F hi hn) hXI hMI hJ2 hP hD hS hl
set_option maxHeartbeats 8000000 in
set_option maxRecDepth 100000 in
theorem lw_case_27 {p : Program} {l : Launch} {e : Env} {s : State} {m : MethodId} {below : List Frame} {meth : Method} {c : Code} {b L : Nat} {xs : Nat → Int32} {dC : Nat → ClassId} {dI : Nat → Nat → Nat} {cB cI cJ cZ cL : ClassId} (C0 : lw_At p s m meth c b L xs) (hN : NW s) (hK : va_K (dC, dI) vwCl (tyL cB cI cJ cZ cL) s) {a g adK adV : Nat → Nat} (hV : SW adK adV (fun q : Nat => s.heap.size ≤ q) s s.heap) {n : Nat} {i : Int32} {u : XT} {v : MT} {T : va_W} (hn : n ≤ 511) (hi : Int32.toInt i = 6 * (n : Int)) (hiL : 6 * n + 6 ≤ L) (hXI : XI cB cI cJ cZ cL u T) (hMI : MI v) (hJ : JI (XSf u) (MSf v)) {H : Heap} {locs : List Loc} (hP : va_P (dC, dI) vwCl (WX a cB cI cJ cZ cL u ++ (WM g cB cI cJ cZ cL v ++ T)) H) (hD : va_D (fun q : Nat => s.heap.size ≤ q) (WX a cB cI cJ cZ cL u ++ (WM g cB cI cJ cZ cL v ++ T))) (hS : va_S (fun q : Nat => s.heap.size ≤ q) s.heap H locs) {ls : Array Slot} (hl : lv_has ls 4 [(3, .int i), (2, .ref (g 0)), (1, .ref (a 0)), (0, .ref b)]) (KK : ∀ (i : Int32) (u : XT) (v : MT) (T : va_W) (H : Heap) (locs : List Loc) (ls : Array Slot), Int32.toInt i = 6 * ((n + 1 : Nat) : Int) → XI cB cI cJ cZ cL u T → MI v → JI (XSf u) (MSf v) → va_P (dC, dI) vwCl (WX a cB cI cJ cZ cL u ++ (WM g cB cI cJ cZ cL v ++ T)) H → va_D (fun q : Nat => s.heap.size ≤ q) (WX a cB cI cJ cZ cL u ++ (WM g cB cI cJ cZ cL v ++ T)) → va_S (fun q : Nat => s.heap.size ≤ q) s.heap H locs → lv_has ls 4 [(3, .int i), (2, .ref (g 0)), (1, .ref (a 0)), (0, .ref b)] → W p l e room_1 s m #[Value.ref b] below meth c H locs (200 + 9 * (n + 1)) (10000 + 132 * (n + 1)) (lw_Z below #[Value.ref b] s) (F0 m 18 ls [])) : W p l e room_1 s m #[Value.ref b] below meth c H locs (200 + 9 * n) (10000 + 132 * n) (lw_Z below #[Value.ref b] s) (F0 m 1093 ls []) := by
  obtain ⟨hx, hb, hr, hml, hown, hts, hX, hbl, hlocks, hgv⟩ := id C0
  have ht : ∀ w ∈ lw_ok, w.before #[Value.ref b] s = true := fun w h => hts w (List.mem_filter.mp h).1
  have hbA : ¬ (fun q : Nat => s.heap.size ≤ q) b := Nat.not_le.mpr hbl
  have hc0 : 200 + 9 * n + 0 ≤ room_1.cells ∧ 10000 + 132 * n + 0 ≤ room_1.slots := ⟨by show 200 + 9 * n + 0 ≤ 600000; omega, by show 10000 + 132 * n + 0 ≤ 7302249; omega⟩
  have v1 : vp_in (i + 1) L := ijF hi hn hiL (by decide) (by decide)
  refine lv_aload_n hx hb dL_law_1093 rfl (lv_at hl 2 rfl) ?_
  refine lv_aload_n hx hb dL_law_1094 rfl (lv_at hl 3 rfl) ?_
  refine lv_iload_n hx hb dL_law_1095 rfl (lv_at hl 0 rfl) ?_
  refine lv_iconst (v := 1) hx hb dL_law_1096 (by decide) ?_
  refine lv_iadd hx hb dL_law_1097 ?_
  refine va_sld hx hb hX hbl hbA hS v1 dL_law_1098 ?_
  refine lx_worst C0 hN hK hXI hl.1 (Nat.le_of_ble_eq_true rfl) hc0 dL_law_1099 hP hD hS (fun r_1 u_3 H locs hXI hp_2 hP hD hS => ?_)
  refine lv_pop hx hb dL_law_1102 rfl ?_
  refine lv_aload_n hx hb dL_law_1103 rfl (lv_at hl 1 rfl) ?_
  refine lv_aload_n hx hb dL_law_1104 rfl (lv_at hl 3 rfl) ?_
  refine lv_iload_n hx hb dL_law_1105 rfl (lv_at hl 0 rfl) ?_
  refine lv_iconst (v := 1) hx hb dL_law_1106 (by decide) ?_
  refine lv_iadd hx hb dL_law_1107 ?_
  refine va_sld hx hb hX hbl hbA hS v1 dL_law_1108 ?_
  refine lm_worst C0 hN hK hMI hl.1 (Nat.le_of_ble_eq_true rfl) hc0 dL_law_1109 hP hD hS (fun r_4 u_6 H locs hMI hp_5 hP hD hS => ?_)
  refine lv_pop hx hb dL_law_1112 rfl ?_
  refine lv_goto (tgt := 2660) hx hb dL_law_1113 (by decide) ?_
  refine W.widen (k := 200 + 9 * (n + 1)) (n := 10000 + 132 * (n + 1)) (by omega) (by omega) ?_
  refine lv_iinc (v := i + 6) (lv' := [(3, .int (i + 6)), (2, .ref (g 0)), (1, .ref (a 0)), (0, .ref b)]) hx hb dL_law_2660 hl (k := 0) rfl rfl (by decide) rfl (fun ls hl => ?_)
  refine lv_goto (tgt := 18) hx hb dL_law_2663 (by decide) ?_
  have hJ2 : JI (XSf u_3) (MSf u_6) := (by rw [hp_2, hp_5]; exact hJ)
  exact KK _ _ _ _ _ _ _ (i6F hi hn) hXI hMI hJ2 hP hD hS hl
set_option maxHeartbeats 8000000 in
set_option maxRecDepth 100000 in
theorem lw_case_28 {p : Program} {l : Launch} {e : Env} {s : State} {m : MethodId} {below : List Frame} {meth : Method} {c : Code} {b L : Nat} {xs : Nat → Int32} {dC : Nat → ClassId} {dI : Nat → Nat → Nat} {cB cI cJ cZ cL : ClassId} (C0 : lw_At p s m meth c b L xs) (hN : NW s) (hK : va_K (dC, dI) vwCl (tyL cB cI cJ cZ cL) s) {a g adK adV : Nat → Nat} (hV : SW adK adV (fun q : Nat => s.heap.size ≤ q) s s.heap) {n : Nat} {i : Int32} {u : XT} {v : MT} {T : va_W} (hn : n ≤ 511) (hi : Int32.toInt i = 6 * (n : Int)) (hiL : 6 * n + 6 ≤ L) (hXI : XI cB cI cJ cZ cL u T) (hMI : MI v) (hJ : JI (XSf u) (MSf v)) {H : Heap} {locs : List Loc} (hP : va_P (dC, dI) vwCl (WX a cB cI cJ cZ cL u ++ (WM g cB cI cJ cZ cL v ++ T)) H) (hD : va_D (fun q : Nat => s.heap.size ≤ q) (WX a cB cI cJ cZ cL u ++ (WM g cB cI cJ cZ cL v ++ T))) (hS : va_S (fun q : Nat => s.heap.size ≤ q) s.heap H locs) {ls : Array Slot} (hl : lv_has ls 4 [(3, .int i), (2, .ref (g 0)), (1, .ref (a 0)), (0, .ref b)]) (KK : ∀ (i : Int32) (u : XT) (v : MT) (T : va_W) (H : Heap) (locs : List Loc) (ls : Array Slot), Int32.toInt i = 6 * ((n + 1 : Nat) : Int) → XI cB cI cJ cZ cL u T → MI v → JI (XSf u) (MSf v) → va_P (dC, dI) vwCl (WX a cB cI cJ cZ cL u ++ (WM g cB cI cJ cZ cL v ++ T)) H → va_D (fun q : Nat => s.heap.size ≤ q) (WX a cB cI cJ cZ cL u ++ (WM g cB cI cJ cZ cL v ++ T)) → va_S (fun q : Nat => s.heap.size ≤ q) s.heap H locs → lv_has ls 4 [(3, .int i), (2, .ref (g 0)), (1, .ref (a 0)), (0, .ref b)] → W p l e room_1 s m #[Value.ref b] below meth c H locs (200 + 9 * (n + 1)) (10000 + 132 * (n + 1)) (lw_Z below #[Value.ref b] s) (F0 m 18 ls [])) : W p l e room_1 s m #[Value.ref b] below meth c H locs (200 + 9 * n) (10000 + 132 * n) (lw_Z below #[Value.ref b] s) (F0 m 1116 ls []) := by
  obtain ⟨hx, hb, hr, hml, hown, hts, hX, hbl, hlocks, hgv⟩ := id C0
  have ht : ∀ w ∈ lw_ok, w.before #[Value.ref b] s = true := fun w h => hts w (List.mem_filter.mp h).1
  have hbA : ¬ (fun q : Nat => s.heap.size ≤ q) b := Nat.not_le.mpr hbl
  have hc0 : 200 + 9 * n + 0 ≤ room_1.cells ∧ 10000 + 132 * n + 0 ≤ room_1.slots := ⟨by show 200 + 9 * n + 0 ≤ 600000; omega, by show 10000 + 132 * n + 0 ≤ 7302249; omega⟩
  have v1 : vp_in (i + 1) L := ijF hi hn hiL (by decide) (by decide)
  have v2 : vp_in (i + 2) L := ijF hi hn hiL (by decide) (by decide)
  refine lv_aload_n hx hb dL_law_1116 rfl (lv_at hl 2 rfl) ?_
  refine lv_aload_n hx hb dL_law_1117 rfl (lv_at hl 3 rfl) ?_
  refine lv_iload_n hx hb dL_law_1118 rfl (lv_at hl 0 rfl) ?_
  refine lv_iconst (v := 1) hx hb dL_law_1119 (by decide) ?_
  refine lv_iadd hx hb dL_law_1120 ?_
  refine va_sld hx hb hX hbl hbA hS v1 dL_law_1121 ?_
  refine lv_aload_n hx hb dL_law_1122 rfl (lv_at hl 3 rfl) ?_
  refine lv_iload_n hx hb dL_law_1123 rfl (lv_at hl 0 rfl) ?_
  refine lv_iconst (v := 2) hx hb dL_law_1124 (by decide) ?_
  refine lv_iadd hx hb dL_law_1125 ?_
  refine va_sld hx hb hX hbl hbA hS v2 dL_law_1126 ?_
  refine lx_damp C0 hN hK hXI hl.1 (Nat.le_of_ble_eq_true rfl) hc0 dL_law_1127 hP hD hS (fun r_1 u_3 H locs hXI hp_2 hP hD hS => ?_)
  refine lv_pop hx hb dL_law_1130 rfl ?_
  refine lv_aload_n hx hb dL_law_1131 rfl (lv_at hl 1 rfl) ?_
  refine lv_aload_n hx hb dL_law_1132 rfl (lv_at hl 3 rfl) ?_
  refine lv_iload_n hx hb dL_law_1133 rfl (lv_at hl 0 rfl) ?_
  refine lv_iconst (v := 1) hx hb dL_law_1134 (by decide) ?_
  refine lv_iadd hx hb dL_law_1135 ?_
  refine va_sld hx hb hX hbl hbA hS v1 dL_law_1136 ?_
  refine lv_aload_n hx hb dL_law_1137 rfl (lv_at hl 3 rfl) ?_
  refine lv_iload_n hx hb dL_law_1138 rfl (lv_at hl 0 rfl) ?_
  refine lv_iconst (v := 2) hx hb dL_law_1139 (by decide) ?_
  refine lv_iadd hx hb dL_law_1140 ?_
  refine va_sld hx hb hX hbl hbA hS v2 dL_law_1141 ?_
  refine lm_damp C0 hN hK hMI hl.1 (Nat.le_of_ble_eq_true rfl) hc0 dL_law_1142 hP hD hS (fun r_4 u_6 H locs hMI hp_5 hP hD hS => ?_)
  refine lv_pop hx hb dL_law_1145 rfl ?_
  refine lv_goto (tgt := 2660) hx hb dL_law_1146 (by decide) ?_
  refine W.widen (k := 200 + 9 * (n + 1)) (n := 10000 + 132 * (n + 1)) (by omega) (by omega) ?_
  refine lv_iinc (v := i + 6) (lv' := [(3, .int (i + 6)), (2, .ref (g 0)), (1, .ref (a 0)), (0, .ref b)]) hx hb dL_law_2660 hl (k := 0) rfl rfl (by decide) rfl (fun ls hl => ?_)
  refine lv_goto (tgt := 18) hx hb dL_law_2663 (by decide) ?_
  have hJ2 : JI (XSf u_3) (MSf u_6) := (by rw [hp_2, hp_5]; exact hJ)
  exact KK _ _ _ _ _ _ _ (i6F hi hn) hXI hMI hJ2 hP hD hS hl
set_option maxHeartbeats 8000000 in
set_option maxRecDepth 100000 in
theorem lw_case_29 {p : Program} {l : Launch} {e : Env} {s : State} {m : MethodId} {below : List Frame} {meth : Method} {c : Code} {b L : Nat} {xs : Nat → Int32} {dC : Nat → ClassId} {dI : Nat → Nat → Nat} {cB cI cJ cZ cL : ClassId} (C0 : lw_At p s m meth c b L xs) (hN : NW s) (hK : va_K (dC, dI) vwCl (tyL cB cI cJ cZ cL) s) {a g adK adV : Nat → Nat} (hV : SW adK adV (fun q : Nat => s.heap.size ≤ q) s s.heap) {n : Nat} {i : Int32} {u : XT} {v : MT} {T : va_W} (hn : n ≤ 511) (hi : Int32.toInt i = 6 * (n : Int)) (hiL : 6 * n + 6 ≤ L) (hXI : XI cB cI cJ cZ cL u T) (hMI : MI v) (hJ : JI (XSf u) (MSf v)) {H : Heap} {locs : List Loc} (hP : va_P (dC, dI) vwCl (WX a cB cI cJ cZ cL u ++ (WM g cB cI cJ cZ cL v ++ T)) H) (hD : va_D (fun q : Nat => s.heap.size ≤ q) (WX a cB cI cJ cZ cL u ++ (WM g cB cI cJ cZ cL v ++ T))) (hS : va_S (fun q : Nat => s.heap.size ≤ q) s.heap H locs) {ls : Array Slot} (hl : lv_has ls 4 [(3, .int i), (2, .ref (g 0)), (1, .ref (a 0)), (0, .ref b)]) (KK : ∀ (i : Int32) (u : XT) (v : MT) (T : va_W) (H : Heap) (locs : List Loc) (ls : Array Slot), Int32.toInt i = 6 * ((n + 1 : Nat) : Int) → XI cB cI cJ cZ cL u T → MI v → JI (XSf u) (MSf v) → va_P (dC, dI) vwCl (WX a cB cI cJ cZ cL u ++ (WM g cB cI cJ cZ cL v ++ T)) H → va_D (fun q : Nat => s.heap.size ≤ q) (WX a cB cI cJ cZ cL u ++ (WM g cB cI cJ cZ cL v ++ T)) → va_S (fun q : Nat => s.heap.size ≤ q) s.heap H locs → lv_has ls 4 [(3, .int i), (2, .ref (g 0)), (1, .ref (a 0)), (0, .ref b)] → W p l e room_1 s m #[Value.ref b] below meth c H locs (200 + 9 * (n + 1)) (10000 + 132 * (n + 1)) (lw_Z below #[Value.ref b] s) (F0 m 18 ls [])) : W p l e room_1 s m #[Value.ref b] below meth c H locs (200 + 9 * n) (10000 + 132 * n) (lw_Z below #[Value.ref b] s) (F0 m 1149 ls []) := by
  obtain ⟨hx, hb, hr, hml, hown, hts, hX, hbl, hlocks, hgv⟩ := id C0
  have ht : ∀ w ∈ lw_ok, w.before #[Value.ref b] s = true := fun w h => hts w (List.mem_filter.mp h).1
  have hbA : ¬ (fun q : Nat => s.heap.size ≤ q) b := Nat.not_le.mpr hbl
  have hc0 : 200 + 9 * n + 0 ≤ room_1.cells ∧ 10000 + 132 * n + 0 ≤ room_1.slots := ⟨by show 200 + 9 * n + 0 ≤ 600000; omega, by show 10000 + 132 * n + 0 ≤ 7302249; omega⟩
  refine lv_aload_n hx hb dL_law_1149 rfl (lv_at hl 2 rfl) ?_
  refine lx_spell C0 hN hK hXI hl.1 (Nat.le_of_ble_eq_true rfl) hc0 dL_law_1150 hP hD hS (fun r_1 u_3 H locs hXI hp_2 hP hD hS => ?_)
  refine lv_pop hx hb dL_law_1153 rfl ?_
  refine lv_aload_n hx hb dL_law_1154 rfl (lv_at hl 1 rfl) ?_
  refine lm_spell C0 hN hK hMI hl.1 (Nat.le_of_ble_eq_true rfl) hc0 dL_law_1155 hP hD hS (fun r_4 u_6 H locs hMI hp_5 hP hD hS => ?_)
  refine lv_pop hx hb dL_law_1158 rfl ?_
  refine lv_goto (tgt := 2660) hx hb dL_law_1159 (by decide) ?_
  refine W.widen (k := 200 + 9 * (n + 1)) (n := 10000 + 132 * (n + 1)) (by omega) (by omega) ?_
  refine lv_iinc (v := i + 6) (lv' := [(3, .int (i + 6)), (2, .ref (g 0)), (1, .ref (a 0)), (0, .ref b)]) hx hb dL_law_2660 hl (k := 0) rfl rfl (by decide) rfl (fun ls hl => ?_)
  refine lv_goto (tgt := 18) hx hb dL_law_2663 (by decide) ?_
  have hJ2 : JI (XSf u_3) (MSf u_6) := (by rw [hp_2, hp_5]; exact hJ)
  exact KK _ _ _ _ _ _ _ (i6F hi hn) hXI hMI hJ2 hP hD hS hl
set_option maxHeartbeats 8000000 in
set_option maxRecDepth 100000 in
theorem lw_case_30 {p : Program} {l : Launch} {e : Env} {s : State} {m : MethodId} {below : List Frame} {meth : Method} {c : Code} {b L : Nat} {xs : Nat → Int32} {dC : Nat → ClassId} {dI : Nat → Nat → Nat} {cB cI cJ cZ cL : ClassId} (C0 : lw_At p s m meth c b L xs) (hN : NW s) (hK : va_K (dC, dI) vwCl (tyL cB cI cJ cZ cL) s) {a g adK adV : Nat → Nat} (hV : SW adK adV (fun q : Nat => s.heap.size ≤ q) s s.heap) {n : Nat} {i : Int32} {u : XT} {v : MT} {T : va_W} (hn : n ≤ 511) (hi : Int32.toInt i = 6 * (n : Int)) (hiL : 6 * n + 6 ≤ L) (hXI : XI cB cI cJ cZ cL u T) (hMI : MI v) (hJ : JI (XSf u) (MSf v)) {H : Heap} {locs : List Loc} (hP : va_P (dC, dI) vwCl (WX a cB cI cJ cZ cL u ++ (WM g cB cI cJ cZ cL v ++ T)) H) (hD : va_D (fun q : Nat => s.heap.size ≤ q) (WX a cB cI cJ cZ cL u ++ (WM g cB cI cJ cZ cL v ++ T))) (hS : va_S (fun q : Nat => s.heap.size ≤ q) s.heap H locs) {ls : Array Slot} (hl : lv_has ls 4 [(3, .int i), (2, .ref (g 0)), (1, .ref (a 0)), (0, .ref b)]) (KK : ∀ (i : Int32) (u : XT) (v : MT) (T : va_W) (H : Heap) (locs : List Loc) (ls : Array Slot), Int32.toInt i = 6 * ((n + 1 : Nat) : Int) → XI cB cI cJ cZ cL u T → MI v → JI (XSf u) (MSf v) → va_P (dC, dI) vwCl (WX a cB cI cJ cZ cL u ++ (WM g cB cI cJ cZ cL v ++ T)) H → va_D (fun q : Nat => s.heap.size ≤ q) (WX a cB cI cJ cZ cL u ++ (WM g cB cI cJ cZ cL v ++ T)) → va_S (fun q : Nat => s.heap.size ≤ q) s.heap H locs → lv_has ls 4 [(3, .int i), (2, .ref (g 0)), (1, .ref (a 0)), (0, .ref b)] → W p l e room_1 s m #[Value.ref b] below meth c H locs (200 + 9 * (n + 1)) (10000 + 132 * (n + 1)) (lw_Z below #[Value.ref b] s) (F0 m 18 ls [])) : W p l e room_1 s m #[Value.ref b] below meth c H locs (200 + 9 * n) (10000 + 132 * n) (lw_Z below #[Value.ref b] s) (F0 m 1162 ls []) := by
  obtain ⟨hx, hb, hr, hml, hown, hts, hX, hbl, hlocks, hgv⟩ := id C0
  have ht : ∀ w ∈ lw_ok, w.before #[Value.ref b] s = true := fun w h => hts w (List.mem_filter.mp h).1
  have hbA : ¬ (fun q : Nat => s.heap.size ≤ q) b := Nat.not_le.mpr hbl
  have hc0 : 200 + 9 * n + 0 ≤ room_1.cells ∧ 10000 + 132 * n + 0 ≤ room_1.slots := ⟨by show 200 + 9 * n + 0 ≤ 600000; omega, by show 10000 + 132 * n + 0 ≤ 7302249; omega⟩
  have v1 : vp_in (i + 1) L := ijF hi hn hiL (by decide) (by decide)
  have v2 : vp_in (i + 2) L := ijF hi hn hiL (by decide) (by decide)
  refine lv_aload_n hx hb dL_law_1162 rfl (lv_at hl 2 rfl) ?_
  refine lv_aload_n hx hb dL_law_1163 rfl (lv_at hl 3 rfl) ?_
  refine lv_iload_n hx hb dL_law_1164 rfl (lv_at hl 0 rfl) ?_
  refine lv_iconst (v := 1) hx hb dL_law_1165 (by decide) ?_
  refine lv_iadd hx hb dL_law_1166 ?_
  refine va_sld hx hb hX hbl hbA hS v1 dL_law_1167 ?_
  refine lv_aload_n hx hb dL_law_1168 rfl (lv_at hl 3 rfl) ?_
  refine lv_iload_n hx hb dL_law_1169 rfl (lv_at hl 0 rfl) ?_
  refine lv_iconst (v := 2) hx hb dL_law_1170 (by decide) ?_
  refine lv_iadd hx hb dL_law_1171 ?_
  refine va_sld hx hb hX hbl hbA hS v2 dL_law_1172 ?_
  refine lx_margin C0 hN hK hXI hl.1 (Nat.le_of_ble_eq_true rfl) hc0 dL_law_1173 hP hD hS (fun r_1 u_3 H locs hXI hp_2 hP hD hS => ?_)
  refine lv_pop hx hb dL_law_1176 rfl ?_
  refine lv_aload_n hx hb dL_law_1177 rfl (lv_at hl 1 rfl) ?_
  refine lv_aload_n hx hb dL_law_1178 rfl (lv_at hl 3 rfl) ?_
  refine lv_iload_n hx hb dL_law_1179 rfl (lv_at hl 0 rfl) ?_
  refine lv_iconst (v := 1) hx hb dL_law_1180 (by decide) ?_
  refine lv_iadd hx hb dL_law_1181 ?_
  refine va_sld hx hb hX hbl hbA hS v1 dL_law_1182 ?_
  refine lv_aload_n hx hb dL_law_1183 rfl (lv_at hl 3 rfl) ?_
  refine lv_iload_n hx hb dL_law_1184 rfl (lv_at hl 0 rfl) ?_
  refine lv_iconst (v := 2) hx hb dL_law_1185 (by decide) ?_
  refine lv_iadd hx hb dL_law_1186 ?_
  refine va_sld hx hb hX hbl hbA hS v2 dL_law_1187 ?_
  refine lm_margin C0 hN hK hMI hl.1 (Nat.le_of_ble_eq_true rfl) hc0 dL_law_1188 hP hD hS (fun r_4 u_6 H locs hMI hp_5 hP hD hS => ?_)
  refine lv_pop hx hb dL_law_1191 rfl ?_
  refine lv_goto (tgt := 2660) hx hb dL_law_1192 (by decide) ?_
  refine W.widen (k := 200 + 9 * (n + 1)) (n := 10000 + 132 * (n + 1)) (by omega) (by omega) ?_
  refine lv_iinc (v := i + 6) (lv' := [(3, .int (i + 6)), (2, .ref (g 0)), (1, .ref (a 0)), (0, .ref b)]) hx hb dL_law_2660 hl (k := 0) rfl rfl (by decide) rfl (fun ls hl => ?_)
  refine lv_goto (tgt := 18) hx hb dL_law_2663 (by decide) ?_
  have hJ2 : JI (XSf u_3) (MSf u_6) := (by rw [hp_2, hp_5]; exact hJ)
  exact KK _ _ _ _ _ _ _ (i6F hi hn) hXI hMI hJ2 hP hD hS hl
set_option maxHeartbeats 8000000 in
set_option maxRecDepth 100000 in
theorem lw_case_31 {p : Program} {l : Launch} {e : Env} {s : State} {m : MethodId} {below : List Frame} {meth : Method} {c : Code} {b L : Nat} {xs : Nat → Int32} {dC : Nat → ClassId} {dI : Nat → Nat → Nat} {cB cI cJ cZ cL : ClassId} (C0 : lw_At p s m meth c b L xs) (hN : NW s) (hK : va_K (dC, dI) vwCl (tyL cB cI cJ cZ cL) s) {a g adK adV : Nat → Nat} (hV : SW adK adV (fun q : Nat => s.heap.size ≤ q) s s.heap) {n : Nat} {i : Int32} {u : XT} {v : MT} {T : va_W} (hn : n ≤ 511) (hi : Int32.toInt i = 6 * (n : Int)) (hiL : 6 * n + 6 ≤ L) (hXI : XI cB cI cJ cZ cL u T) (hMI : MI v) (hJ : JI (XSf u) (MSf v)) {H : Heap} {locs : List Loc} (hP : va_P (dC, dI) vwCl (WX a cB cI cJ cZ cL u ++ (WM g cB cI cJ cZ cL v ++ T)) H) (hD : va_D (fun q : Nat => s.heap.size ≤ q) (WX a cB cI cJ cZ cL u ++ (WM g cB cI cJ cZ cL v ++ T))) (hS : va_S (fun q : Nat => s.heap.size ≤ q) s.heap H locs) {ls : Array Slot} (hl : lv_has ls 4 [(3, .int i), (2, .ref (g 0)), (1, .ref (a 0)), (0, .ref b)]) (KK : ∀ (i : Int32) (u : XT) (v : MT) (T : va_W) (H : Heap) (locs : List Loc) (ls : Array Slot), Int32.toInt i = 6 * ((n + 1 : Nat) : Int) → XI cB cI cJ cZ cL u T → MI v → JI (XSf u) (MSf v) → va_P (dC, dI) vwCl (WX a cB cI cJ cZ cL u ++ (WM g cB cI cJ cZ cL v ++ T)) H → va_D (fun q : Nat => s.heap.size ≤ q) (WX a cB cI cJ cZ cL u ++ (WM g cB cI cJ cZ cL v ++ T)) → va_S (fun q : Nat => s.heap.size ≤ q) s.heap H locs → lv_has ls 4 [(3, .int i), (2, .ref (g 0)), (1, .ref (a 0)), (0, .ref b)] → W p l e room_1 s m #[Value.ref b] below meth c H locs (200 + 9 * (n + 1)) (10000 + 132 * (n + 1)) (lw_Z below #[Value.ref b] s) (F0 m 18 ls [])) : W p l e room_1 s m #[Value.ref b] below meth c H locs (200 + 9 * n) (10000 + 132 * n) (lw_Z below #[Value.ref b] s) (F0 m 1195 ls []) := by
  obtain ⟨hx, hb, hr, hml, hown, hts, hX, hbl, hlocks, hgv⟩ := id C0
  have ht : ∀ w ∈ lw_ok, w.before #[Value.ref b] s = true := fun w h => hts w (List.mem_filter.mp h).1
  have hbA : ¬ (fun q : Nat => s.heap.size ≤ q) b := Nat.not_le.mpr hbl
  have hc0 : 200 + 9 * n + 0 ≤ room_1.cells ∧ 10000 + 132 * n + 0 ≤ room_1.slots := ⟨by show 200 + 9 * n + 0 ≤ 600000; omega, by show 10000 + 132 * n + 0 ≤ 7302249; omega⟩
  refine lv_aload_n hx hb dL_law_1195 rfl (lv_at hl 2 rfl) ?_
  refine lx_bright C0 hN hK hXI hl.1 (Nat.le_of_ble_eq_true rfl) hc0 dL_law_1196 hP hD hS (fun r_1 u_3 H locs hXI hp_2 hP hD hS => ?_)
  refine lv_pop hx hb dL_law_1199 rfl ?_
  refine lv_aload_n hx hb dL_law_1200 rfl (lv_at hl 1 rfl) ?_
  refine lm_bright C0 hN hK hMI hl.1 (Nat.le_of_ble_eq_true rfl) hc0 dL_law_1201 hP hD hS (fun r_4 u_6 H locs hMI hp_5 hP hD hS => ?_)
  refine lv_pop hx hb dL_law_1204 rfl ?_
  refine lv_goto (tgt := 2660) hx hb dL_law_1205 (by decide) ?_
  refine W.widen (k := 200 + 9 * (n + 1)) (n := 10000 + 132 * (n + 1)) (by omega) (by omega) ?_
  refine lv_iinc (v := i + 6) (lv' := [(3, .int (i + 6)), (2, .ref (g 0)), (1, .ref (a 0)), (0, .ref b)]) hx hb dL_law_2660 hl (k := 0) rfl rfl (by decide) rfl (fun ls hl => ?_)
  refine lv_goto (tgt := 18) hx hb dL_law_2663 (by decide) ?_
  have hJ2 : JI (XSf u_3) (MSf u_6) := (by rw [hp_2, hp_5]; exact hJ)
  exact KK _ _ _ _ _ _ _ (i6F hi hn) hXI hMI hJ2 hP hD hS hl
set_option maxHeartbeats 8000000 in
set_option maxRecDepth 100000 in
theorem lw_case_32 {p : Program} {l : Launch} {e : Env} {s : State} {m : MethodId} {below : List Frame} {meth : Method} {c : Code} {b L : Nat} {xs : Nat → Int32} {dC : Nat → ClassId} {dI : Nat → Nat → Nat} {cB cI cJ cZ cL : ClassId} (C0 : lw_At p s m meth c b L xs) (hN : NW s) (hK : va_K (dC, dI) vwCl (tyL cB cI cJ cZ cL) s) {a g adK adV : Nat → Nat} (hV : SW adK adV (fun q : Nat => s.heap.size ≤ q) s s.heap) {n : Nat} {i : Int32} {u : XT} {v : MT} {T : va_W} (hn : n ≤ 511) (hi : Int32.toInt i = 6 * (n : Int)) (hiL : 6 * n + 6 ≤ L) (hXI : XI cB cI cJ cZ cL u T) (hMI : MI v) (hJ : JI (XSf u) (MSf v)) {H : Heap} {locs : List Loc} (hP : va_P (dC, dI) vwCl (WX a cB cI cJ cZ cL u ++ (WM g cB cI cJ cZ cL v ++ T)) H) (hD : va_D (fun q : Nat => s.heap.size ≤ q) (WX a cB cI cJ cZ cL u ++ (WM g cB cI cJ cZ cL v ++ T))) (hS : va_S (fun q : Nat => s.heap.size ≤ q) s.heap H locs) {ls : Array Slot} (hl : lv_has ls 4 [(3, .int i), (2, .ref (g 0)), (1, .ref (a 0)), (0, .ref b)]) (KK : ∀ (i : Int32) (u : XT) (v : MT) (T : va_W) (H : Heap) (locs : List Loc) (ls : Array Slot), Int32.toInt i = 6 * ((n + 1 : Nat) : Int) → XI cB cI cJ cZ cL u T → MI v → JI (XSf u) (MSf v) → va_P (dC, dI) vwCl (WX a cB cI cJ cZ cL u ++ (WM g cB cI cJ cZ cL v ++ T)) H → va_D (fun q : Nat => s.heap.size ≤ q) (WX a cB cI cJ cZ cL u ++ (WM g cB cI cJ cZ cL v ++ T)) → va_S (fun q : Nat => s.heap.size ≤ q) s.heap H locs → lv_has ls 4 [(3, .int i), (2, .ref (g 0)), (1, .ref (a 0)), (0, .ref b)] → W p l e room_1 s m #[Value.ref b] below meth c H locs (200 + 9 * (n + 1)) (10000 + 132 * (n + 1)) (lw_Z below #[Value.ref b] s) (F0 m 18 ls [])) : W p l e room_1 s m #[Value.ref b] below meth c H locs (200 + 9 * n) (10000 + 132 * n) (lw_Z below #[Value.ref b] s) (F0 m 1208 ls []) := by
  obtain ⟨hx, hb, hr, hml, hown, hts, hX, hbl, hlocks, hgv⟩ := id C0
  have ht : ∀ w ∈ lw_ok, w.before #[Value.ref b] s = true := fun w h => hts w (List.mem_filter.mp h).1
  have hbA : ¬ (fun q : Nat => s.heap.size ≤ q) b := Nat.not_le.mpr hbl
  have hc0 : 200 + 9 * n + 0 ≤ room_1.cells ∧ 10000 + 132 * n + 0 ≤ room_1.slots := ⟨by show 200 + 9 * n + 0 ≤ 600000; omega, by show 10000 + 132 * n + 0 ≤ 7302249; omega⟩
  have v1 : vp_in (i + 1) L := ijF hi hn hiL (by decide) (by decide)
  refine lv_aload_n hx hb dL_law_1208 rfl (lv_at hl 2 rfl) ?_
  refine lv_aload_n hx hb dL_law_1209 rfl (lv_at hl 3 rfl) ?_
  refine lv_iload_n hx hb dL_law_1210 rfl (lv_at hl 0 rfl) ?_
  refine lv_iconst (v := 1) hx hb dL_law_1211 (by decide) ?_
  refine lv_iadd hx hb dL_law_1212 ?_
  refine va_sld hx hb hX hbl hbA hS v1 dL_law_1213 ?_
  refine lx_rises C0 hN hK hXI hl.1 (Nat.le_of_ble_eq_true rfl) hc0 dL_law_1214 hP hD hS (fun r_1 u_3 H locs hXI hp_2 hP hD hS => ?_)
  refine lv_pop hx hb dL_law_1217 rfl ?_
  refine lv_aload_n hx hb dL_law_1218 rfl (lv_at hl 1 rfl) ?_
  refine lv_aload_n hx hb dL_law_1219 rfl (lv_at hl 3 rfl) ?_
  refine lv_iload_n hx hb dL_law_1220 rfl (lv_at hl 0 rfl) ?_
  refine lv_iconst (v := 1) hx hb dL_law_1221 (by decide) ?_
  refine lv_iadd hx hb dL_law_1222 ?_
  refine va_sld hx hb hX hbl hbA hS v1 dL_law_1223 ?_
  refine lm_rises C0 hN hK hMI hl.1 (Nat.le_of_ble_eq_true rfl) hc0 dL_law_1224 hP hD hS (fun r_4 u_6 H locs hMI hp_5 hP hD hS => ?_)
  refine lv_pop hx hb dL_law_1227 rfl ?_
  refine lv_goto (tgt := 2660) hx hb dL_law_1228 (by decide) ?_
  refine W.widen (k := 200 + 9 * (n + 1)) (n := 10000 + 132 * (n + 1)) (by omega) (by omega) ?_
  refine lv_iinc (v := i + 6) (lv' := [(3, .int (i + 6)), (2, .ref (g 0)), (1, .ref (a 0)), (0, .ref b)]) hx hb dL_law_2660 hl (k := 0) rfl rfl (by decide) rfl (fun ls hl => ?_)
  refine lv_goto (tgt := 18) hx hb dL_law_2663 (by decide) ?_
  have hJ2 : JI (XSf u_3) (MSf u_6) := (by rw [hp_2, hp_5]; exact hJ)
  exact KK _ _ _ _ _ _ _ (i6F hi hn) hXI hMI hJ2 hP hD hS hl
set_option maxHeartbeats 8000000 in
set_option maxRecDepth 100000 in
theorem lw_case_33 {p : Program} {l : Launch} {e : Env} {s : State} {m : MethodId} {below : List Frame} {meth : Method} {c : Code} {b L : Nat} {xs : Nat → Int32} {dC : Nat → ClassId} {dI : Nat → Nat → Nat} {cB cI cJ cZ cL : ClassId} (C0 : lw_At p s m meth c b L xs) (hN : NW s) (hK : va_K (dC, dI) vwCl (tyL cB cI cJ cZ cL) s) {a g adK adV : Nat → Nat} (hV : SW adK adV (fun q : Nat => s.heap.size ≤ q) s s.heap) {n : Nat} {i : Int32} {u : XT} {v : MT} {T : va_W} (hn : n ≤ 511) (hi : Int32.toInt i = 6 * (n : Int)) (hiL : 6 * n + 6 ≤ L) (hXI : XI cB cI cJ cZ cL u T) (hMI : MI v) (hJ : JI (XSf u) (MSf v)) {H : Heap} {locs : List Loc} (hP : va_P (dC, dI) vwCl (WX a cB cI cJ cZ cL u ++ (WM g cB cI cJ cZ cL v ++ T)) H) (hD : va_D (fun q : Nat => s.heap.size ≤ q) (WX a cB cI cJ cZ cL u ++ (WM g cB cI cJ cZ cL v ++ T))) (hS : va_S (fun q : Nat => s.heap.size ≤ q) s.heap H locs) {ls : Array Slot} (hl : lv_has ls 4 [(3, .int i), (2, .ref (g 0)), (1, .ref (a 0)), (0, .ref b)]) (KK : ∀ (i : Int32) (u : XT) (v : MT) (T : va_W) (H : Heap) (locs : List Loc) (ls : Array Slot), Int32.toInt i = 6 * ((n + 1 : Nat) : Int) → XI cB cI cJ cZ cL u T → MI v → JI (XSf u) (MSf v) → va_P (dC, dI) vwCl (WX a cB cI cJ cZ cL u ++ (WM g cB cI cJ cZ cL v ++ T)) H → va_D (fun q : Nat => s.heap.size ≤ q) (WX a cB cI cJ cZ cL u ++ (WM g cB cI cJ cZ cL v ++ T)) → va_S (fun q : Nat => s.heap.size ≤ q) s.heap H locs → lv_has ls 4 [(3, .int i), (2, .ref (g 0)), (1, .ref (a 0)), (0, .ref b)] → W p l e room_1 s m #[Value.ref b] below meth c H locs (200 + 9 * (n + 1)) (10000 + 132 * (n + 1)) (lw_Z below #[Value.ref b] s) (F0 m 18 ls [])) : W p l e room_1 s m #[Value.ref b] below meth c H locs (200 + 9 * n) (10000 + 132 * n) (lw_Z below #[Value.ref b] s) (F0 m 1231 ls []) := by
  obtain ⟨hx, hb, hr, hml, hown, hts, hX, hbl, hlocks, hgv⟩ := id C0
  have ht : ∀ w ∈ lw_ok, w.before #[Value.ref b] s = true := fun w h => hts w (List.mem_filter.mp h).1
  have hbA : ¬ (fun q : Nat => s.heap.size ≤ q) b := Nat.not_le.mpr hbl
  have hc0 : 200 + 9 * n + 0 ≤ room_1.cells ∧ 10000 + 132 * n + 0 ≤ room_1.slots := ⟨by show 200 + 9 * n + 0 ≤ 600000; omega, by show 10000 + 132 * n + 0 ≤ 7302249; omega⟩
  refine lv_aload_n hx hb dL_law_1231 rfl (lv_at hl 2 rfl) ?_
  refine lx_dry C0 hN hK hXI hl.1 (Nat.le_of_ble_eq_true rfl) hc0 dL_law_1232 hP hD hS (fun r_1 u_3 H locs hXI hp_2 hP hD hS => ?_)
  refine lv_pop hx hb dL_law_1235 rfl ?_
  refine lv_aload_n hx hb dL_law_1236 rfl (lv_at hl 1 rfl) ?_
  refine lm_dry C0 hN hK hMI hl.1 (Nat.le_of_ble_eq_true rfl) hc0 dL_law_1237 hP hD hS (fun r_4 u_6 H locs hMI hp_5 hP hD hS => ?_)
  refine lv_pop hx hb dL_law_1240 rfl ?_
  refine lv_goto (tgt := 2660) hx hb dL_law_1241 (by decide) ?_
  refine W.widen (k := 200 + 9 * (n + 1)) (n := 10000 + 132 * (n + 1)) (by omega) (by omega) ?_
  refine lv_iinc (v := i + 6) (lv' := [(3, .int (i + 6)), (2, .ref (g 0)), (1, .ref (a 0)), (0, .ref b)]) hx hb dL_law_2660 hl (k := 0) rfl rfl (by decide) rfl (fun ls hl => ?_)
  refine lv_goto (tgt := 18) hx hb dL_law_2663 (by decide) ?_
  have hJ2 : JI (XSf u_3) (MSf u_6) := (by rw [hp_2, hp_5]; exact hJ)
  exact KK _ _ _ _ _ _ _ (i6F hi hn) hXI hMI hJ2 hP hD hS hl
set_option maxHeartbeats 8000000 in
set_option maxRecDepth 100000 in
theorem lw_case_34 {p : Program} {l : Launch} {e : Env} {s : State} {m : MethodId} {below : List Frame} {meth : Method} {c : Code} {b L : Nat} {xs : Nat → Int32} {dC : Nat → ClassId} {dI : Nat → Nat → Nat} {cB cI cJ cZ cL : ClassId} (C0 : lw_At p s m meth c b L xs) (hN : NW s) (hK : va_K (dC, dI) vwCl (tyL cB cI cJ cZ cL) s) {a g adK adV : Nat → Nat} (hV : SW adK adV (fun q : Nat => s.heap.size ≤ q) s s.heap) {n : Nat} {i : Int32} {u : XT} {v : MT} {T : va_W} (hn : n ≤ 511) (hi : Int32.toInt i = 6 * (n : Int)) (hiL : 6 * n + 6 ≤ L) (hXI : XI cB cI cJ cZ cL u T) (hMI : MI v) (hJ : JI (XSf u) (MSf v)) {H : Heap} {locs : List Loc} (hP : va_P (dC, dI) vwCl (WX a cB cI cJ cZ cL u ++ (WM g cB cI cJ cZ cL v ++ T)) H) (hD : va_D (fun q : Nat => s.heap.size ≤ q) (WX a cB cI cJ cZ cL u ++ (WM g cB cI cJ cZ cL v ++ T))) (hS : va_S (fun q : Nat => s.heap.size ≤ q) s.heap H locs) {ls : Array Slot} (hl : lv_has ls 4 [(3, .int i), (2, .ref (g 0)), (1, .ref (a 0)), (0, .ref b)]) (KK : ∀ (i : Int32) (u : XT) (v : MT) (T : va_W) (H : Heap) (locs : List Loc) (ls : Array Slot), Int32.toInt i = 6 * ((n + 1 : Nat) : Int) → XI cB cI cJ cZ cL u T → MI v → JI (XSf u) (MSf v) → va_P (dC, dI) vwCl (WX a cB cI cJ cZ cL u ++ (WM g cB cI cJ cZ cL v ++ T)) H → va_D (fun q : Nat => s.heap.size ≤ q) (WX a cB cI cJ cZ cL u ++ (WM g cB cI cJ cZ cL v ++ T)) → va_S (fun q : Nat => s.heap.size ≤ q) s.heap H locs → lv_has ls 4 [(3, .int i), (2, .ref (g 0)), (1, .ref (a 0)), (0, .ref b)] → W p l e room_1 s m #[Value.ref b] below meth c H locs (200 + 9 * (n + 1)) (10000 + 132 * (n + 1)) (lw_Z below #[Value.ref b] s) (F0 m 18 ls [])) : W p l e room_1 s m #[Value.ref b] below meth c H locs (200 + 9 * n) (10000 + 132 * n) (lw_Z below #[Value.ref b] s) (F0 m 1244 ls []) := by
  obtain ⟨hx, hb, hr, hml, hown, hts, hX, hbl, hlocks, hgv⟩ := id C0
  have ht : ∀ w ∈ lw_ok, w.before #[Value.ref b] s = true := fun w h => hts w (List.mem_filter.mp h).1
  have hbA : ¬ (fun q : Nat => s.heap.size ≤ q) b := Nat.not_le.mpr hbl
  have hc0 : 200 + 9 * n + 0 ≤ room_1.cells ∧ 10000 + 132 * n + 0 ≤ room_1.slots := ⟨by show 200 + 9 * n + 0 ≤ 600000; omega, by show 10000 + 132 * n + 0 ≤ 7302249; omega⟩
  have v1 : vp_in (i + 1) L := ijF hi hn hiL (by decide) (by decide)
  refine lv_aload_n hx hb dL_law_1244 rfl (lv_at hl 2 rfl) ?_
  refine lv_aload_n hx hb dL_law_1245 rfl (lv_at hl 3 rfl) ?_
  refine lv_iload_n hx hb dL_law_1246 rfl (lv_at hl 0 rfl) ?_
  refine lv_iconst (v := 1) hx hb dL_law_1247 (by decide) ?_
  refine lv_iadd hx hb dL_law_1248 ?_
  refine va_sld hx hb hX hbl hbA hS v1 dL_law_1249 ?_
  refine lx_ends C0 hN hK hXI hl.1 (Nat.le_of_ble_eq_true rfl) hc0 dL_law_1250 hP hD hS (fun r_1 u_3 H locs hXI hp_2 hP hD hS => ?_)
  refine lv_pop hx hb dL_law_1253 rfl ?_
  refine lv_aload_n hx hb dL_law_1254 rfl (lv_at hl 1 rfl) ?_
  refine lv_aload_n hx hb dL_law_1255 rfl (lv_at hl 3 rfl) ?_
  refine lv_iload_n hx hb dL_law_1256 rfl (lv_at hl 0 rfl) ?_
  refine lv_iconst (v := 1) hx hb dL_law_1257 (by decide) ?_
  refine lv_iadd hx hb dL_law_1258 ?_
  refine va_sld hx hb hX hbl hbA hS v1 dL_law_1259 ?_
  refine lm_ends C0 hN hK hMI hl.1 (Nat.le_of_ble_eq_true rfl) hc0 dL_law_1260 hP hD hS (fun r_4 u_6 H locs hMI hp_5 hP hD hS => ?_)
  refine lv_pop hx hb dL_law_1263 rfl ?_
  refine lv_goto (tgt := 2660) hx hb dL_law_1264 (by decide) ?_
  refine W.widen (k := 200 + 9 * (n + 1)) (n := 10000 + 132 * (n + 1)) (by omega) (by omega) ?_
  refine lv_iinc (v := i + 6) (lv' := [(3, .int (i + 6)), (2, .ref (g 0)), (1, .ref (a 0)), (0, .ref b)]) hx hb dL_law_2660 hl (k := 0) rfl rfl (by decide) rfl (fun ls hl => ?_)
  refine lv_goto (tgt := 18) hx hb dL_law_2663 (by decide) ?_
  have hJ2 : JI (XSf u_3) (MSf u_6) := (by rw [hp_2, hp_5]; exact hJ)
  exact KK _ _ _ _ _ _ _ (i6F hi hn) hXI hMI hJ2 hP hD hS hl
set_option maxHeartbeats 8000000 in
set_option maxRecDepth 100000 in
theorem lw_case_35 {p : Program} {l : Launch} {e : Env} {s : State} {m : MethodId} {below : List Frame} {meth : Method} {c : Code} {b L : Nat} {xs : Nat → Int32} {dC : Nat → ClassId} {dI : Nat → Nat → Nat} {cB cI cJ cZ cL : ClassId} (C0 : lw_At p s m meth c b L xs) (hN : NW s) (hK : va_K (dC, dI) vwCl (tyL cB cI cJ cZ cL) s) {a g adK adV : Nat → Nat} (hV : SW adK adV (fun q : Nat => s.heap.size ≤ q) s s.heap) {n : Nat} {i : Int32} {u : XT} {v : MT} {T : va_W} (hn : n ≤ 511) (hi : Int32.toInt i = 6 * (n : Int)) (hiL : 6 * n + 6 ≤ L) (hXI : XI cB cI cJ cZ cL u T) (hMI : MI v) (hJ : JI (XSf u) (MSf v)) {H : Heap} {locs : List Loc} (hP : va_P (dC, dI) vwCl (WX a cB cI cJ cZ cL u ++ (WM g cB cI cJ cZ cL v ++ T)) H) (hD : va_D (fun q : Nat => s.heap.size ≤ q) (WX a cB cI cJ cZ cL u ++ (WM g cB cI cJ cZ cL v ++ T))) (hS : va_S (fun q : Nat => s.heap.size ≤ q) s.heap H locs) {ls : Array Slot} (hl : lv_has ls 4 [(3, .int i), (2, .ref (g 0)), (1, .ref (a 0)), (0, .ref b)]) (KK : ∀ (i : Int32) (u : XT) (v : MT) (T : va_W) (H : Heap) (locs : List Loc) (ls : Array Slot), Int32.toInt i = 6 * ((n + 1 : Nat) : Int) → XI cB cI cJ cZ cL u T → MI v → JI (XSf u) (MSf v) → va_P (dC, dI) vwCl (WX a cB cI cJ cZ cL u ++ (WM g cB cI cJ cZ cL v ++ T)) H → va_D (fun q : Nat => s.heap.size ≤ q) (WX a cB cI cJ cZ cL u ++ (WM g cB cI cJ cZ cL v ++ T)) → va_S (fun q : Nat => s.heap.size ≤ q) s.heap H locs → lv_has ls 4 [(3, .int i), (2, .ref (g 0)), (1, .ref (a 0)), (0, .ref b)] → W p l e room_1 s m #[Value.ref b] below meth c H locs (200 + 9 * (n + 1)) (10000 + 132 * (n + 1)) (lw_Z below #[Value.ref b] s) (F0 m 18 ls [])) : W p l e room_1 s m #[Value.ref b] below meth c H locs (200 + 9 * n) (10000 + 132 * n) (lw_Z below #[Value.ref b] s) (F0 m 1267 ls []) := by
  obtain ⟨hx, hb, hr, hml, hown, hts, hX, hbl, hlocks, hgv⟩ := id C0
  have ht : ∀ w ∈ lw_ok, w.before #[Value.ref b] s = true := fun w h => hts w (List.mem_filter.mp h).1
  have hbA : ¬ (fun q : Nat => s.heap.size ≤ q) b := Nat.not_le.mpr hbl
  have hc0 : 200 + 9 * n + 0 ≤ room_1.cells ∧ 10000 + 132 * n + 0 ≤ room_1.slots := ⟨by show 200 + 9 * n + 0 ≤ 600000; omega, by show 10000 + 132 * n + 0 ≤ 7302249; omega⟩
  have v1 : vp_in (i + 1) L := ijF hi hn hiL (by decide) (by decide)
  refine lv_aload_n hx hb dL_law_1267 rfl (lv_at hl 2 rfl) ?_
  refine lv_aload_n hx hb dL_law_1268 rfl (lv_at hl 3 rfl) ?_
  refine lv_iload_n hx hb dL_law_1269 rfl (lv_at hl 0 rfl) ?_
  refine lv_iconst (v := 1) hx hb dL_law_1270 (by decide) ?_
  refine lv_iadd hx hb dL_law_1271 ?_
  refine va_sld hx hb hX hbl hbA hS v1 dL_law_1272 ?_
  refine lx_reach C0 hN hK hXI hl.1 (Nat.le_of_ble_eq_true rfl) hc0 dL_law_1273 hP hD hS (fun r_1 u_3 H locs hXI hp_2 hP hD hS => ?_)
  refine lv_pop hx hb dL_law_1276 rfl ?_
  refine lv_aload_n hx hb dL_law_1277 rfl (lv_at hl 1 rfl) ?_
  refine lv_aload_n hx hb dL_law_1278 rfl (lv_at hl 3 rfl) ?_
  refine lv_iload_n hx hb dL_law_1279 rfl (lv_at hl 0 rfl) ?_
  refine lv_iconst (v := 1) hx hb dL_law_1280 (by decide) ?_
  refine lv_iadd hx hb dL_law_1281 ?_
  refine va_sld hx hb hX hbl hbA hS v1 dL_law_1282 ?_
  refine lm_reach C0 hN hK hMI hl.1 (Nat.le_of_ble_eq_true rfl) hc0 dL_law_1283 hP hD hS (fun r_4 u_6 H locs hMI hp_5 hP hD hS => ?_)
  refine lv_pop hx hb dL_law_1286 rfl ?_
  refine lv_goto (tgt := 2660) hx hb dL_law_1287 (by decide) ?_
  refine W.widen (k := 200 + 9 * (n + 1)) (n := 10000 + 132 * (n + 1)) (by omega) (by omega) ?_
  refine lv_iinc (v := i + 6) (lv' := [(3, .int (i + 6)), (2, .ref (g 0)), (1, .ref (a 0)), (0, .ref b)]) hx hb dL_law_2660 hl (k := 0) rfl rfl (by decide) rfl (fun ls hl => ?_)
  refine lv_goto (tgt := 18) hx hb dL_law_2663 (by decide) ?_
  have hJ2 : JI (XSf u_3) (MSf u_6) := (by rw [hp_2, hp_5]; exact hJ)
  exact KK _ _ _ _ _ _ _ (i6F hi hn) hXI hMI hJ2 hP hD hS hl
set_option maxHeartbeats 8000000 in
set_option maxRecDepth 100000 in
theorem lw_case_36 {p : Program} {l : Launch} {e : Env} {s : State} {m : MethodId} {below : List Frame} {meth : Method} {c : Code} {b L : Nat} {xs : Nat → Int32} {dC : Nat → ClassId} {dI : Nat → Nat → Nat} {cB cI cJ cZ cL : ClassId} (C0 : lw_At p s m meth c b L xs) (hN : NW s) (hK : va_K (dC, dI) vwCl (tyL cB cI cJ cZ cL) s) {a g adK adV : Nat → Nat} (hV : SW adK adV (fun q : Nat => s.heap.size ≤ q) s s.heap) {n : Nat} {i : Int32} {u : XT} {v : MT} {T : va_W} (hn : n ≤ 511) (hi : Int32.toInt i = 6 * (n : Int)) (hiL : 6 * n + 6 ≤ L) (hXI : XI cB cI cJ cZ cL u T) (hMI : MI v) (hJ : JI (XSf u) (MSf v)) {H : Heap} {locs : List Loc} (hP : va_P (dC, dI) vwCl (WX a cB cI cJ cZ cL u ++ (WM g cB cI cJ cZ cL v ++ T)) H) (hD : va_D (fun q : Nat => s.heap.size ≤ q) (WX a cB cI cJ cZ cL u ++ (WM g cB cI cJ cZ cL v ++ T))) (hS : va_S (fun q : Nat => s.heap.size ≤ q) s.heap H locs) {ls : Array Slot} (hl : lv_has ls 4 [(3, .int i), (2, .ref (g 0)), (1, .ref (a 0)), (0, .ref b)]) (KK : ∀ (i : Int32) (u : XT) (v : MT) (T : va_W) (H : Heap) (locs : List Loc) (ls : Array Slot), Int32.toInt i = 6 * ((n + 1 : Nat) : Int) → XI cB cI cJ cZ cL u T → MI v → JI (XSf u) (MSf v) → va_P (dC, dI) vwCl (WX a cB cI cJ cZ cL u ++ (WM g cB cI cJ cZ cL v ++ T)) H → va_D (fun q : Nat => s.heap.size ≤ q) (WX a cB cI cJ cZ cL u ++ (WM g cB cI cJ cZ cL v ++ T)) → va_S (fun q : Nat => s.heap.size ≤ q) s.heap H locs → lv_has ls 4 [(3, .int i), (2, .ref (g 0)), (1, .ref (a 0)), (0, .ref b)] → W p l e room_1 s m #[Value.ref b] below meth c H locs (200 + 9 * (n + 1)) (10000 + 132 * (n + 1)) (lw_Z below #[Value.ref b] s) (F0 m 18 ls [])) : W p l e room_1 s m #[Value.ref b] below meth c H locs (200 + 9 * n) (10000 + 132 * n) (lw_Z below #[Value.ref b] s) (F0 m 1290 ls []) := by
  obtain ⟨hx, hb, hr, hml, hown, hts, hX, hbl, hlocks, hgv⟩ := id C0
  have ht : ∀ w ∈ lw_ok, w.before #[Value.ref b] s = true := fun w h => hts w (List.mem_filter.mp h).1
  have hbA : ¬ (fun q : Nat => s.heap.size ≤ q) b := Nat.not_le.mpr hbl
  have hc0 : 200 + 9 * n + 0 ≤ room_1.cells ∧ 10000 + 132 * n + 0 ≤ room_1.slots := ⟨by show 200 + 9 * n + 0 ≤ 600000; omega, by show 10000 + 132 * n + 0 ≤ 7302249; omega⟩
  have v1 : vp_in (i + 1) L := ijF hi hn hiL (by decide) (by decide)
  have v2 : vp_in (i + 2) L := ijF hi hn hiL (by decide) (by decide)
  refine lv_aload_n hx hb dL_law_1290 rfl (lv_at hl 2 rfl) ?_
  refine lv_aload_n hx hb dL_law_1291 rfl (lv_at hl 3 rfl) ?_
  refine lv_iload_n hx hb dL_law_1292 rfl (lv_at hl 0 rfl) ?_
  refine lv_iconst (v := 1) hx hb dL_law_1293 (by decide) ?_
  refine lv_iadd hx hb dL_law_1294 ?_
  refine va_sld hx hb hX hbl hbA hS v1 dL_law_1295 ?_
  refine lv_aload_n hx hb dL_law_1296 rfl (lv_at hl 3 rfl) ?_
  refine lv_iload_n hx hb dL_law_1297 rfl (lv_at hl 0 rfl) ?_
  refine lv_iconst (v := 2) hx hb dL_law_1298 (by decide) ?_
  refine lv_iadd hx hb dL_law_1299 ?_
  refine va_sld hx hb hX hbl hbA hS v2 dL_law_1300 ?_
  refine lx_both C0 hN hK hXI hl.1 (Nat.le_of_ble_eq_true rfl) hc0 dL_law_1301 hP hD hS (fun r_1 u_3 H locs hXI hp_2 hP hD hS => ?_)
  refine lv_pop hx hb dL_law_1304 rfl ?_
  refine lv_aload_n hx hb dL_law_1305 rfl (lv_at hl 1 rfl) ?_
  refine lv_aload_n hx hb dL_law_1306 rfl (lv_at hl 3 rfl) ?_
  refine lv_iload_n hx hb dL_law_1307 rfl (lv_at hl 0 rfl) ?_
  refine lv_iconst (v := 1) hx hb dL_law_1308 (by decide) ?_
  refine lv_iadd hx hb dL_law_1309 ?_
  refine va_sld hx hb hX hbl hbA hS v1 dL_law_1310 ?_
  refine lv_aload_n hx hb dL_law_1311 rfl (lv_at hl 3 rfl) ?_
  refine lv_iload_n hx hb dL_law_1312 rfl (lv_at hl 0 rfl) ?_
  refine lv_iconst (v := 2) hx hb dL_law_1313 (by decide) ?_
  refine lv_iadd hx hb dL_law_1314 ?_
  refine va_sld hx hb hX hbl hbA hS v2 dL_law_1315 ?_
  refine lm_both C0 hN hK hMI hl.1 (Nat.le_of_ble_eq_true rfl) hc0 dL_law_1316 hP hD hS (fun r_4 u_6 H locs hMI hp_5 hP hD hS => ?_)
  refine lv_pop hx hb dL_law_1319 rfl ?_
  refine lv_goto (tgt := 2660) hx hb dL_law_1320 (by decide) ?_
  refine W.widen (k := 200 + 9 * (n + 1)) (n := 10000 + 132 * (n + 1)) (by omega) (by omega) ?_
  refine lv_iinc (v := i + 6) (lv' := [(3, .int (i + 6)), (2, .ref (g 0)), (1, .ref (a 0)), (0, .ref b)]) hx hb dL_law_2660 hl (k := 0) rfl rfl (by decide) rfl (fun ls hl => ?_)
  refine lv_goto (tgt := 18) hx hb dL_law_2663 (by decide) ?_
  have hJ2 : JI (XSf u_3) (MSf u_6) := (by rw [hp_2, hp_5]; exact hJ)
  exact KK _ _ _ _ _ _ _ (i6F hi hn) hXI hMI hJ2 hP hD hS hl
set_option maxHeartbeats 8000000 in
set_option maxRecDepth 100000 in
theorem lw_case_37 {p : Program} {l : Launch} {e : Env} {s : State} {m : MethodId} {below : List Frame} {meth : Method} {c : Code} {b L : Nat} {xs : Nat → Int32} {dC : Nat → ClassId} {dI : Nat → Nat → Nat} {cB cI cJ cZ cL : ClassId} (C0 : lw_At p s m meth c b L xs) (hN : NW s) (hK : va_K (dC, dI) vwCl (tyL cB cI cJ cZ cL) s) {a g adK adV : Nat → Nat} (hV : SW adK adV (fun q : Nat => s.heap.size ≤ q) s s.heap) {n : Nat} {i : Int32} {u : XT} {v : MT} {T : va_W} (hn : n ≤ 511) (hi : Int32.toInt i = 6 * (n : Int)) (hiL : 6 * n + 6 ≤ L) (hXI : XI cB cI cJ cZ cL u T) (hMI : MI v) (hJ : JI (XSf u) (MSf v)) {H : Heap} {locs : List Loc} (hP : va_P (dC, dI) vwCl (WX a cB cI cJ cZ cL u ++ (WM g cB cI cJ cZ cL v ++ T)) H) (hD : va_D (fun q : Nat => s.heap.size ≤ q) (WX a cB cI cJ cZ cL u ++ (WM g cB cI cJ cZ cL v ++ T))) (hS : va_S (fun q : Nat => s.heap.size ≤ q) s.heap H locs) {ls : Array Slot} (hl : lv_has ls 4 [(3, .int i), (2, .ref (g 0)), (1, .ref (a 0)), (0, .ref b)]) (KK : ∀ (i : Int32) (u : XT) (v : MT) (T : va_W) (H : Heap) (locs : List Loc) (ls : Array Slot), Int32.toInt i = 6 * ((n + 1 : Nat) : Int) → XI cB cI cJ cZ cL u T → MI v → JI (XSf u) (MSf v) → va_P (dC, dI) vwCl (WX a cB cI cJ cZ cL u ++ (WM g cB cI cJ cZ cL v ++ T)) H → va_D (fun q : Nat => s.heap.size ≤ q) (WX a cB cI cJ cZ cL u ++ (WM g cB cI cJ cZ cL v ++ T)) → va_S (fun q : Nat => s.heap.size ≤ q) s.heap H locs → lv_has ls 4 [(3, .int i), (2, .ref (g 0)), (1, .ref (a 0)), (0, .ref b)] → W p l e room_1 s m #[Value.ref b] below meth c H locs (200 + 9 * (n + 1)) (10000 + 132 * (n + 1)) (lw_Z below #[Value.ref b] s) (F0 m 18 ls [])) : W p l e room_1 s m #[Value.ref b] below meth c H locs (200 + 9 * n) (10000 + 132 * n) (lw_Z below #[Value.ref b] s) (F0 m 1323 ls []) := by
  obtain ⟨hx, hb, hr, hml, hown, hts, hX, hbl, hlocks, hgv⟩ := id C0
  have ht : ∀ w ∈ lw_ok, w.before #[Value.ref b] s = true := fun w h => hts w (List.mem_filter.mp h).1
  have hbA : ¬ (fun q : Nat => s.heap.size ≤ q) b := Nat.not_le.mpr hbl
  have hc0 : 200 + 9 * n + 0 ≤ room_1.cells ∧ 10000 + 132 * n + 0 ≤ room_1.slots := ⟨by show 200 + 9 * n + 0 ≤ 600000; omega, by show 10000 + 132 * n + 0 ≤ 7302249; omega⟩
  have v1 : vp_in (i + 1) L := ijF hi hn hiL (by decide) (by decide)
  have v2 : vp_in (i + 2) L := ijF hi hn hiL (by decide) (by decide)
  refine lv_aload_n hx hb dL_law_1323 rfl (lv_at hl 2 rfl) ?_
  refine lv_aload_n hx hb dL_law_1324 rfl (lv_at hl 3 rfl) ?_
  refine lv_iload_n hx hb dL_law_1325 rfl (lv_at hl 0 rfl) ?_
  refine lv_iconst (v := 1) hx hb dL_law_1326 (by decide) ?_
  refine lv_iadd hx hb dL_law_1327 ?_
  refine va_sld hx hb hX hbl hbA hS v1 dL_law_1328 ?_
  refine lv_aload_n hx hb dL_law_1329 rfl (lv_at hl 3 rfl) ?_
  refine lv_iload_n hx hb dL_law_1330 rfl (lv_at hl 0 rfl) ?_
  refine lv_iconst (v := 2) hx hb dL_law_1331 (by decide) ?_
  refine lv_iadd hx hb dL_law_1332 ?_
  refine va_sld hx hb hX hbl hbA hS v2 dL_law_1333 ?_
  refine lx_apart C0 hN hK hXI hl.1 (Nat.le_of_ble_eq_true rfl) hc0 dL_law_1334 hP hD hS (fun r_1 u_3 H locs hXI hp_2 hP hD hS => ?_)
  refine lv_pop hx hb dL_law_1337 rfl ?_
  refine lv_aload_n hx hb dL_law_1338 rfl (lv_at hl 1 rfl) ?_
  refine lv_aload_n hx hb dL_law_1339 rfl (lv_at hl 3 rfl) ?_
  refine lv_iload_n hx hb dL_law_1340 rfl (lv_at hl 0 rfl) ?_
  refine lv_iconst (v := 1) hx hb dL_law_1341 (by decide) ?_
  refine lv_iadd hx hb dL_law_1342 ?_
  refine va_sld hx hb hX hbl hbA hS v1 dL_law_1343 ?_
  refine lv_aload_n hx hb dL_law_1344 rfl (lv_at hl 3 rfl) ?_
  refine lv_iload_n hx hb dL_law_1345 rfl (lv_at hl 0 rfl) ?_
  refine lv_iconst (v := 2) hx hb dL_law_1346 (by decide) ?_
  refine lv_iadd hx hb dL_law_1347 ?_
  refine va_sld hx hb hX hbl hbA hS v2 dL_law_1348 ?_
  refine lm_apart C0 hN hK hMI hl.1 (Nat.le_of_ble_eq_true rfl) hc0 dL_law_1349 hP hD hS (fun r_4 u_6 H locs hMI hp_5 hP hD hS => ?_)
  refine lv_pop hx hb dL_law_1352 rfl ?_
  refine lv_goto (tgt := 2660) hx hb dL_law_1353 (by decide) ?_
  refine W.widen (k := 200 + 9 * (n + 1)) (n := 10000 + 132 * (n + 1)) (by omega) (by omega) ?_
  refine lv_iinc (v := i + 6) (lv' := [(3, .int (i + 6)), (2, .ref (g 0)), (1, .ref (a 0)), (0, .ref b)]) hx hb dL_law_2660 hl (k := 0) rfl rfl (by decide) rfl (fun ls hl => ?_)
  refine lv_goto (tgt := 18) hx hb dL_law_2663 (by decide) ?_
  have hJ2 : JI (XSf u_3) (MSf u_6) := (by rw [hp_2, hp_5]; exact hJ)
  exact KK _ _ _ _ _ _ _ (i6F hi hn) hXI hMI hJ2 hP hD hS hl
set_option maxHeartbeats 8000000 in
set_option maxRecDepth 100000 in
theorem lw_case_38 {p : Program} {l : Launch} {e : Env} {s : State} {m : MethodId} {below : List Frame} {meth : Method} {c : Code} {b L : Nat} {xs : Nat → Int32} {dC : Nat → ClassId} {dI : Nat → Nat → Nat} {cB cI cJ cZ cL : ClassId} (C0 : lw_At p s m meth c b L xs) (hN : NW s) (hK : va_K (dC, dI) vwCl (tyL cB cI cJ cZ cL) s) {a g adK adV : Nat → Nat} (hV : SW adK adV (fun q : Nat => s.heap.size ≤ q) s s.heap) {n : Nat} {i : Int32} {u : XT} {v : MT} {T : va_W} (hn : n ≤ 511) (hi : Int32.toInt i = 6 * (n : Int)) (hiL : 6 * n + 6 ≤ L) (hXI : XI cB cI cJ cZ cL u T) (hMI : MI v) (hJ : JI (XSf u) (MSf v)) {H : Heap} {locs : List Loc} (hP : va_P (dC, dI) vwCl (WX a cB cI cJ cZ cL u ++ (WM g cB cI cJ cZ cL v ++ T)) H) (hD : va_D (fun q : Nat => s.heap.size ≤ q) (WX a cB cI cJ cZ cL u ++ (WM g cB cI cJ cZ cL v ++ T))) (hS : va_S (fun q : Nat => s.heap.size ≤ q) s.heap H locs) {ls : Array Slot} (hl : lv_has ls 4 [(3, .int i), (2, .ref (g 0)), (1, .ref (a 0)), (0, .ref b)]) (KK : ∀ (i : Int32) (u : XT) (v : MT) (T : va_W) (H : Heap) (locs : List Loc) (ls : Array Slot), Int32.toInt i = 6 * ((n + 1 : Nat) : Int) → XI cB cI cJ cZ cL u T → MI v → JI (XSf u) (MSf v) → va_P (dC, dI) vwCl (WX a cB cI cJ cZ cL u ++ (WM g cB cI cJ cZ cL v ++ T)) H → va_D (fun q : Nat => s.heap.size ≤ q) (WX a cB cI cJ cZ cL u ++ (WM g cB cI cJ cZ cL v ++ T)) → va_S (fun q : Nat => s.heap.size ≤ q) s.heap H locs → lv_has ls 4 [(3, .int i), (2, .ref (g 0)), (1, .ref (a 0)), (0, .ref b)] → W p l e room_1 s m #[Value.ref b] below meth c H locs (200 + 9 * (n + 1)) (10000 + 132 * (n + 1)) (lw_Z below #[Value.ref b] s) (F0 m 18 ls [])) : W p l e room_1 s m #[Value.ref b] below meth c H locs (200 + 9 * n) (10000 + 132 * n) (lw_Z below #[Value.ref b] s) (F0 m 1356 ls []) := by
  obtain ⟨hx, hb, hr, hml, hown, hts, hX, hbl, hlocks, hgv⟩ := id C0
  have ht : ∀ w ∈ lw_ok, w.before #[Value.ref b] s = true := fun w h => hts w (List.mem_filter.mp h).1
  have hbA : ¬ (fun q : Nat => s.heap.size ≤ q) b := Nat.not_le.mpr hbl
  have hc0 : 200 + 9 * n + 0 ≤ room_1.cells ∧ 10000 + 132 * n + 0 ≤ room_1.slots := ⟨by show 200 + 9 * n + 0 ≤ 600000; omega, by show 10000 + 132 * n + 0 ≤ 7302249; omega⟩
  have v1 : vp_in (i + 1) L := ijF hi hn hiL (by decide) (by decide)
  refine lv_aload_n hx hb dL_law_1356 rfl (lv_at hl 2 rfl) ?_
  refine lv_aload_n hx hb dL_law_1357 rfl (lv_at hl 3 rfl) ?_
  refine lv_iload_n hx hb dL_law_1358 rfl (lv_at hl 0 rfl) ?_
  refine lv_iconst (v := 1) hx hb dL_law_1359 (by decide) ?_
  refine lv_iadd hx hb dL_law_1360 ?_
  refine va_sld hx hb hX hbl hbA hS v1 dL_law_1361 ?_
  refine lx_half C0 hN hK hXI hl.1 (Nat.le_of_ble_eq_true rfl) hc0 dL_law_1362 hP hD hS (fun r_1 u_3 H locs hXI hp_2 hP hD hS => ?_)
  refine lv_pop hx hb dL_law_1365 rfl ?_
  refine lv_aload_n hx hb dL_law_1366 rfl (lv_at hl 1 rfl) ?_
  refine lv_aload_n hx hb dL_law_1367 rfl (lv_at hl 3 rfl) ?_
  refine lv_iload_n hx hb dL_law_1368 rfl (lv_at hl 0 rfl) ?_
  refine lv_iconst (v := 1) hx hb dL_law_1369 (by decide) ?_
  refine lv_iadd hx hb dL_law_1370 ?_
  refine va_sld hx hb hX hbl hbA hS v1 dL_law_1371 ?_
  refine lm_half C0 hN hK hMI hl.1 (Nat.le_of_ble_eq_true rfl) hc0 dL_law_1372 hP hD hS (fun r_4 u_6 H locs hMI hp_5 hP hD hS => ?_)
  refine lv_pop hx hb dL_law_1375 rfl ?_
  refine lv_goto (tgt := 2660) hx hb dL_law_1376 (by decide) ?_
  refine W.widen (k := 200 + 9 * (n + 1)) (n := 10000 + 132 * (n + 1)) (by omega) (by omega) ?_
  refine lv_iinc (v := i + 6) (lv' := [(3, .int (i + 6)), (2, .ref (g 0)), (1, .ref (a 0)), (0, .ref b)]) hx hb dL_law_2660 hl (k := 0) rfl rfl (by decide) rfl (fun ls hl => ?_)
  refine lv_goto (tgt := 18) hx hb dL_law_2663 (by decide) ?_
  have hJ2 : JI (XSf u_3) (MSf u_6) := (by rw [hp_2, hp_5]; exact hJ)
  exact KK _ _ _ _ _ _ _ (i6F hi hn) hXI hMI hJ2 hP hD hS hl
set_option maxHeartbeats 8000000 in
set_option maxRecDepth 100000 in
theorem lw_case_39 {p : Program} {l : Launch} {e : Env} {s : State} {m : MethodId} {below : List Frame} {meth : Method} {c : Code} {b L : Nat} {xs : Nat → Int32} {dC : Nat → ClassId} {dI : Nat → Nat → Nat} {cB cI cJ cZ cL : ClassId} (C0 : lw_At p s m meth c b L xs) (hN : NW s) (hK : va_K (dC, dI) vwCl (tyL cB cI cJ cZ cL) s) {a g adK adV : Nat → Nat} (hV : SW adK adV (fun q : Nat => s.heap.size ≤ q) s s.heap) {n : Nat} {i : Int32} {u : XT} {v : MT} {T : va_W} (hn : n ≤ 511) (hi : Int32.toInt i = 6 * (n : Int)) (hiL : 6 * n + 6 ≤ L) (hXI : XI cB cI cJ cZ cL u T) (hMI : MI v) (hJ : JI (XSf u) (MSf v)) {H : Heap} {locs : List Loc} (hP : va_P (dC, dI) vwCl (WX a cB cI cJ cZ cL u ++ (WM g cB cI cJ cZ cL v ++ T)) H) (hD : va_D (fun q : Nat => s.heap.size ≤ q) (WX a cB cI cJ cZ cL u ++ (WM g cB cI cJ cZ cL v ++ T))) (hS : va_S (fun q : Nat => s.heap.size ≤ q) s.heap H locs) {ls : Array Slot} (hl : lv_has ls 4 [(3, .int i), (2, .ref (g 0)), (1, .ref (a 0)), (0, .ref b)]) (KK : ∀ (i : Int32) (u : XT) (v : MT) (T : va_W) (H : Heap) (locs : List Loc) (ls : Array Slot), Int32.toInt i = 6 * ((n + 1 : Nat) : Int) → XI cB cI cJ cZ cL u T → MI v → JI (XSf u) (MSf v) → va_P (dC, dI) vwCl (WX a cB cI cJ cZ cL u ++ (WM g cB cI cJ cZ cL v ++ T)) H → va_D (fun q : Nat => s.heap.size ≤ q) (WX a cB cI cJ cZ cL u ++ (WM g cB cI cJ cZ cL v ++ T)) → va_S (fun q : Nat => s.heap.size ≤ q) s.heap H locs → lv_has ls 4 [(3, .int i), (2, .ref (g 0)), (1, .ref (a 0)), (0, .ref b)] → W p l e room_1 s m #[Value.ref b] below meth c H locs (200 + 9 * (n + 1)) (10000 + 132 * (n + 1)) (lw_Z below #[Value.ref b] s) (F0 m 18 ls [])) : W p l e room_1 s m #[Value.ref b] below meth c H locs (200 + 9 * n) (10000 + 132 * n) (lw_Z below #[Value.ref b] s) (F0 m 1379 ls []) := by
  obtain ⟨hx, hb, hr, hml, hown, hts, hX, hbl, hlocks, hgv⟩ := id C0
  have ht : ∀ w ∈ lw_ok, w.before #[Value.ref b] s = true := fun w h => hts w (List.mem_filter.mp h).1
  have hbA : ¬ (fun q : Nat => s.heap.size ≤ q) b := Nat.not_le.mpr hbl
  have hc0 : 200 + 9 * n + 0 ≤ room_1.cells ∧ 10000 + 132 * n + 0 ≤ room_1.slots := ⟨by show 200 + 9 * n + 0 ≤ 600000; omega, by show 10000 + 132 * n + 0 ≤ 7302249; omega⟩
  have v1 : vp_in (i + 1) L := ijF hi hn hiL (by decide) (by decide)
  refine lv_aload_n hx hb dL_law_1379 rfl (lv_at hl 2 rfl) ?_
  refine lv_aload_n hx hb dL_law_1380 rfl (lv_at hl 3 rfl) ?_
  refine lv_iload_n hx hb dL_law_1381 rfl (lv_at hl 0 rfl) ?_
  refine lv_iconst (v := 1) hx hb dL_law_1382 (by decide) ?_
  refine lv_iadd hx hb dL_law_1383 ?_
  refine va_sld hx hb hX hbl hbA hS v1 dL_law_1384 ?_
  refine lx_grounds C0 hN hK hXI hl.1 (Nat.le_of_ble_eq_true rfl) hc0 dL_law_1385 hP hD hS (fun r_1 u_3 H locs hXI hp_2 hP hD hS => ?_)
  refine lv_pop hx hb dL_law_1388 rfl ?_
  refine lv_aload_n hx hb dL_law_1389 rfl (lv_at hl 1 rfl) ?_
  refine lv_aload_n hx hb dL_law_1390 rfl (lv_at hl 3 rfl) ?_
  refine lv_iload_n hx hb dL_law_1391 rfl (lv_at hl 0 rfl) ?_
  refine lv_iconst (v := 1) hx hb dL_law_1392 (by decide) ?_
  refine lv_iadd hx hb dL_law_1393 ?_
  refine va_sld hx hb hX hbl hbA hS v1 dL_law_1394 ?_
  refine lm_grounds C0 hN hK hMI hl.1 (Nat.le_of_ble_eq_true rfl) hc0 dL_law_1395 hP hD hS (fun r_4 u_6 H locs hMI hp_5 hP hD hS => ?_)
  refine lv_pop hx hb dL_law_1398 rfl ?_
  refine lv_goto (tgt := 2660) hx hb dL_law_1399 (by decide) ?_
  refine W.widen (k := 200 + 9 * (n + 1)) (n := 10000 + 132 * (n + 1)) (by omega) (by omega) ?_
  refine lv_iinc (v := i + 6) (lv' := [(3, .int (i + 6)), (2, .ref (g 0)), (1, .ref (a 0)), (0, .ref b)]) hx hb dL_law_2660 hl (k := 0) rfl rfl (by decide) rfl (fun ls hl => ?_)
  refine lv_goto (tgt := 18) hx hb dL_law_2663 (by decide) ?_
  have hJ2 : JI (XSf u_3) (MSf u_6) := (by rw [hp_2, hp_5]; exact hJ)
  exact KK _ _ _ _ _ _ _ (i6F hi hn) hXI hMI hJ2 hP hD hS hl
set_option maxHeartbeats 8000000 in
set_option maxRecDepth 100000 in
theorem lw_case_40 {p : Program} {l : Launch} {e : Env} {s : State} {m : MethodId} {below : List Frame} {meth : Method} {c : Code} {b L : Nat} {xs : Nat → Int32} {dC : Nat → ClassId} {dI : Nat → Nat → Nat} {cB cI cJ cZ cL : ClassId} (C0 : lw_At p s m meth c b L xs) (hN : NW s) (hK : va_K (dC, dI) vwCl (tyL cB cI cJ cZ cL) s) {a g adK adV : Nat → Nat} (hV : SW adK adV (fun q : Nat => s.heap.size ≤ q) s s.heap) {n : Nat} {i : Int32} {u : XT} {v : MT} {T : va_W} (hn : n ≤ 511) (hi : Int32.toInt i = 6 * (n : Int)) (hiL : 6 * n + 6 ≤ L) (hXI : XI cB cI cJ cZ cL u T) (hMI : MI v) (hJ : JI (XSf u) (MSf v)) {H : Heap} {locs : List Loc} (hP : va_P (dC, dI) vwCl (WX a cB cI cJ cZ cL u ++ (WM g cB cI cJ cZ cL v ++ T)) H) (hD : va_D (fun q : Nat => s.heap.size ≤ q) (WX a cB cI cJ cZ cL u ++ (WM g cB cI cJ cZ cL v ++ T))) (hS : va_S (fun q : Nat => s.heap.size ≤ q) s.heap H locs) {ls : Array Slot} (hl : lv_has ls 4 [(3, .int i), (2, .ref (g 0)), (1, .ref (a 0)), (0, .ref b)]) (KK : ∀ (i : Int32) (u : XT) (v : MT) (T : va_W) (H : Heap) (locs : List Loc) (ls : Array Slot), Int32.toInt i = 6 * ((n + 1 : Nat) : Int) → XI cB cI cJ cZ cL u T → MI v → JI (XSf u) (MSf v) → va_P (dC, dI) vwCl (WX a cB cI cJ cZ cL u ++ (WM g cB cI cJ cZ cL v ++ T)) H → va_D (fun q : Nat => s.heap.size ≤ q) (WX a cB cI cJ cZ cL u ++ (WM g cB cI cJ cZ cL v ++ T)) → va_S (fun q : Nat => s.heap.size ≤ q) s.heap H locs → lv_has ls 4 [(3, .int i), (2, .ref (g 0)), (1, .ref (a 0)), (0, .ref b)] → W p l e room_1 s m #[Value.ref b] below meth c H locs (200 + 9 * (n + 1)) (10000 + 132 * (n + 1)) (lw_Z below #[Value.ref b] s) (F0 m 18 ls [])) : W p l e room_1 s m #[Value.ref b] below meth c H locs (200 + 9 * n) (10000 + 132 * n) (lw_Z below #[Value.ref b] s) (F0 m 1402 ls []) := by
  obtain ⟨hx, hb, hr, hml, hown, hts, hX, hbl, hlocks, hgv⟩ := id C0
  have ht : ∀ w ∈ lw_ok, w.before #[Value.ref b] s = true := fun w h => hts w (List.mem_filter.mp h).1
  have hbA : ¬ (fun q : Nat => s.heap.size ≤ q) b := Nat.not_le.mpr hbl
  have hc0 : 200 + 9 * n + 0 ≤ room_1.cells ∧ 10000 + 132 * n + 0 ≤ room_1.slots := ⟨by show 200 + 9 * n + 0 ≤ 600000; omega, by show 10000 + 132 * n + 0 ≤ 7302249; omega⟩
  have v1 : vp_in (i + 1) L := ijF hi hn hiL (by decide) (by decide)
  refine lv_aload_n hx hb dL_law_1402 rfl (lv_at hl 2 rfl) ?_
  refine lv_aload_n hx hb dL_law_1403 rfl (lv_at hl 3 rfl) ?_
  refine lv_iload_n hx hb dL_law_1404 rfl (lv_at hl 0 rfl) ?_
  refine lv_iconst (v := 1) hx hb dL_law_1405 (by decide) ?_
  refine lv_iadd hx hb dL_law_1406 ?_
  refine va_sld hx hb hX hbl hbA hS v1 dL_law_1407 ?_
  refine lx_steep C0 hN hK hXI hl.1 (Nat.le_of_ble_eq_true rfl) hc0 dL_law_1408 hP hD hS (fun r_1 u_3 H locs hXI hp_2 hP hD hS => ?_)
  refine lv_pop hx hb dL_law_1411 rfl ?_
  refine lv_aload_n hx hb dL_law_1412 rfl (lv_at hl 1 rfl) ?_
  refine lv_aload_n hx hb dL_law_1413 rfl (lv_at hl 3 rfl) ?_
  refine lv_iload_n hx hb dL_law_1414 rfl (lv_at hl 0 rfl) ?_
  refine lv_iconst (v := 1) hx hb dL_law_1415 (by decide) ?_
  refine lv_iadd hx hb dL_law_1416 ?_
  refine va_sld hx hb hX hbl hbA hS v1 dL_law_1417 ?_
  refine lm_steep C0 hN hK hMI hl.1 (Nat.le_of_ble_eq_true rfl) hc0 dL_law_1418 hP hD hS (fun r_4 u_6 H locs hMI hp_5 hP hD hS => ?_)
  refine lv_pop hx hb dL_law_1421 rfl ?_
  refine lv_goto (tgt := 2660) hx hb dL_law_1422 (by decide) ?_
  refine W.widen (k := 200 + 9 * (n + 1)) (n := 10000 + 132 * (n + 1)) (by omega) (by omega) ?_
  refine lv_iinc (v := i + 6) (lv' := [(3, .int (i + 6)), (2, .ref (g 0)), (1, .ref (a 0)), (0, .ref b)]) hx hb dL_law_2660 hl (k := 0) rfl rfl (by decide) rfl (fun ls hl => ?_)
  refine lv_goto (tgt := 18) hx hb dL_law_2663 (by decide) ?_
  have hJ2 : JI (XSf u_3) (MSf u_6) := (by rw [hp_2, hp_5]; exact hJ)
  exact KK _ _ _ _ _ _ _ (i6F hi hn) hXI hMI hJ2 hP hD hS hl
set_option maxHeartbeats 8000000 in
set_option maxRecDepth 100000 in
theorem lw_case_41 {p : Program} {l : Launch} {e : Env} {s : State} {m : MethodId} {below : List Frame} {meth : Method} {c : Code} {b L : Nat} {xs : Nat → Int32} {dC : Nat → ClassId} {dI : Nat → Nat → Nat} {cB cI cJ cZ cL : ClassId} (C0 : lw_At p s m meth c b L xs) (hN : NW s) (hK : va_K (dC, dI) vwCl (tyL cB cI cJ cZ cL) s) {a g adK adV : Nat → Nat} (hV : SW adK adV (fun q : Nat => s.heap.size ≤ q) s s.heap) {n : Nat} {i : Int32} {u : XT} {v : MT} {T : va_W} (hn : n ≤ 511) (hi : Int32.toInt i = 6 * (n : Int)) (hiL : 6 * n + 6 ≤ L) (hXI : XI cB cI cJ cZ cL u T) (hMI : MI v) (hJ : JI (XSf u) (MSf v)) {H : Heap} {locs : List Loc} (hP : va_P (dC, dI) vwCl (WX a cB cI cJ cZ cL u ++ (WM g cB cI cJ cZ cL v ++ T)) H) (hD : va_D (fun q : Nat => s.heap.size ≤ q) (WX a cB cI cJ cZ cL u ++ (WM g cB cI cJ cZ cL v ++ T))) (hS : va_S (fun q : Nat => s.heap.size ≤ q) s.heap H locs) {ls : Array Slot} (hl : lv_has ls 4 [(3, .int i), (2, .ref (g 0)), (1, .ref (a 0)), (0, .ref b)]) (KK : ∀ (i : Int32) (u : XT) (v : MT) (T : va_W) (H : Heap) (locs : List Loc) (ls : Array Slot), Int32.toInt i = 6 * ((n + 1 : Nat) : Int) → XI cB cI cJ cZ cL u T → MI v → JI (XSf u) (MSf v) → va_P (dC, dI) vwCl (WX a cB cI cJ cZ cL u ++ (WM g cB cI cJ cZ cL v ++ T)) H → va_D (fun q : Nat => s.heap.size ≤ q) (WX a cB cI cJ cZ cL u ++ (WM g cB cI cJ cZ cL v ++ T)) → va_S (fun q : Nat => s.heap.size ≤ q) s.heap H locs → lv_has ls 4 [(3, .int i), (2, .ref (g 0)), (1, .ref (a 0)), (0, .ref b)] → W p l e room_1 s m #[Value.ref b] below meth c H locs (200 + 9 * (n + 1)) (10000 + 132 * (n + 1)) (lw_Z below #[Value.ref b] s) (F0 m 18 ls [])) : W p l e room_1 s m #[Value.ref b] below meth c H locs (200 + 9 * n) (10000 + 132 * n) (lw_Z below #[Value.ref b] s) (F0 m 1425 ls []) := by
  obtain ⟨hx, hb, hr, hml, hown, hts, hX, hbl, hlocks, hgv⟩ := id C0
  have ht : ∀ w ∈ lw_ok, w.before #[Value.ref b] s = true := fun w h => hts w (List.mem_filter.mp h).1
  have hbA : ¬ (fun q : Nat => s.heap.size ≤ q) b := Nat.not_le.mpr hbl
  have hc0 : 200 + 9 * n + 0 ≤ room_1.cells ∧ 10000 + 132 * n + 0 ≤ room_1.slots := ⟨by show 200 + 9 * n + 0 ≤ 600000; omega, by show 10000 + 132 * n + 0 ≤ 7302249; omega⟩
  refine lv_aload_n hx hb dL_law_1425 rfl (lv_at hl 2 rfl) ?_
  refine lx_mute C0 hN hK hXI hl.1 (Nat.le_of_ble_eq_true rfl) hc0 dL_law_1426 hP hD hS (fun r_1 u_3 H locs hXI hp_2 hP hD hS => ?_)
  refine lv_pop hx hb dL_law_1429 rfl ?_
  refine lv_aload_n hx hb dL_law_1430 rfl (lv_at hl 1 rfl) ?_
  refine lm_mute C0 hN hK hMI hl.1 (Nat.le_of_ble_eq_true rfl) hc0 dL_law_1431 hP hD hS (fun r_4 u_6 H locs hMI hp_5 hP hD hS => ?_)
  refine lv_pop hx hb dL_law_1434 rfl ?_
  refine lv_goto (tgt := 2660) hx hb dL_law_1435 (by decide) ?_
  refine W.widen (k := 200 + 9 * (n + 1)) (n := 10000 + 132 * (n + 1)) (by omega) (by omega) ?_
  refine lv_iinc (v := i + 6) (lv' := [(3, .int (i + 6)), (2, .ref (g 0)), (1, .ref (a 0)), (0, .ref b)]) hx hb dL_law_2660 hl (k := 0) rfl rfl (by decide) rfl (fun ls hl => ?_)
  refine lv_goto (tgt := 18) hx hb dL_law_2663 (by decide) ?_
  have hJ2 : JI (XSf u_3) (MSf u_6) := (by rw [hp_2, hp_5]; exact hJ)
  exact KK _ _ _ _ _ _ _ (i6F hi hn) hXI hMI hJ2 hP hD hS hl
set_option maxHeartbeats 8000000 in
set_option maxRecDepth 100000 in
theorem lw_case_42 {p : Program} {l : Launch} {e : Env} {s : State} {m : MethodId} {below : List Frame} {meth : Method} {c : Code} {b L : Nat} {xs : Nat → Int32} {dC : Nat → ClassId} {dI : Nat → Nat → Nat} {cB cI cJ cZ cL : ClassId} (C0 : lw_At p s m meth c b L xs) (hN : NW s) (hK : va_K (dC, dI) vwCl (tyL cB cI cJ cZ cL) s) {a g adK adV : Nat → Nat} (hV : SW adK adV (fun q : Nat => s.heap.size ≤ q) s s.heap) {n : Nat} {i : Int32} {u : XT} {v : MT} {T : va_W} (hn : n ≤ 511) (hi : Int32.toInt i = 6 * (n : Int)) (hiL : 6 * n + 6 ≤ L) (hXI : XI cB cI cJ cZ cL u T) (hMI : MI v) (hJ : JI (XSf u) (MSf v)) {H : Heap} {locs : List Loc} (hP : va_P (dC, dI) vwCl (WX a cB cI cJ cZ cL u ++ (WM g cB cI cJ cZ cL v ++ T)) H) (hD : va_D (fun q : Nat => s.heap.size ≤ q) (WX a cB cI cJ cZ cL u ++ (WM g cB cI cJ cZ cL v ++ T))) (hS : va_S (fun q : Nat => s.heap.size ≤ q) s.heap H locs) {ls : Array Slot} (hl : lv_has ls 4 [(3, .int i), (2, .ref (g 0)), (1, .ref (a 0)), (0, .ref b)]) (KK : ∀ (i : Int32) (u : XT) (v : MT) (T : va_W) (H : Heap) (locs : List Loc) (ls : Array Slot), Int32.toInt i = 6 * ((n + 1 : Nat) : Int) → XI cB cI cJ cZ cL u T → MI v → JI (XSf u) (MSf v) → va_P (dC, dI) vwCl (WX a cB cI cJ cZ cL u ++ (WM g cB cI cJ cZ cL v ++ T)) H → va_D (fun q : Nat => s.heap.size ≤ q) (WX a cB cI cJ cZ cL u ++ (WM g cB cI cJ cZ cL v ++ T)) → va_S (fun q : Nat => s.heap.size ≤ q) s.heap H locs → lv_has ls 4 [(3, .int i), (2, .ref (g 0)), (1, .ref (a 0)), (0, .ref b)] → W p l e room_1 s m #[Value.ref b] below meth c H locs (200 + 9 * (n + 1)) (10000 + 132 * (n + 1)) (lw_Z below #[Value.ref b] s) (F0 m 18 ls [])) : W p l e room_1 s m #[Value.ref b] below meth c H locs (200 + 9 * n) (10000 + 132 * n) (lw_Z below #[Value.ref b] s) (F0 m 1438 ls []) := by
  obtain ⟨hx, hb, hr, hml, hown, hts, hX, hbl, hlocks, hgv⟩ := id C0
  have ht : ∀ w ∈ lw_ok, w.before #[Value.ref b] s = true := fun w h => hts w (List.mem_filter.mp h).1
  have hbA : ¬ (fun q : Nat => s.heap.size ≤ q) b := Nat.not_le.mpr hbl
  have hc0 : 200 + 9 * n + 0 ≤ room_1.cells ∧ 10000 + 132 * n + 0 ≤ room_1.slots := ⟨by show 200 + 9 * n + 0 ≤ 600000; omega, by show 10000 + 132 * n + 0 ≤ 7302249; omega⟩
  refine lv_aload_n hx hb dL_law_1438 rfl (lv_at hl 2 rfl) ?_
  refine lx_changes C0 hN hK hXI hl.1 (Nat.le_of_ble_eq_true rfl) hc0 dL_law_1439 hP hD hS (fun r_1 u_3 H locs hXI hp_2 hP hD hS => ?_)
  refine lv_pop hx hb dL_law_1442 rfl ?_
  refine lv_aload_n hx hb dL_law_1443 rfl (lv_at hl 1 rfl) ?_
  refine lm_changes C0 hN hK hMI hl.1 (Nat.le_of_ble_eq_true rfl) hc0 dL_law_1444 hP hD hS (fun r_4 u_6 H locs hMI hp_5 hP hD hS => ?_)
  refine lv_pop hx hb dL_law_1447 rfl ?_
  refine lv_goto (tgt := 2660) hx hb dL_law_1448 (by decide) ?_
  refine W.widen (k := 200 + 9 * (n + 1)) (n := 10000 + 132 * (n + 1)) (by omega) (by omega) ?_
  refine lv_iinc (v := i + 6) (lv' := [(3, .int (i + 6)), (2, .ref (g 0)), (1, .ref (a 0)), (0, .ref b)]) hx hb dL_law_2660 hl (k := 0) rfl rfl (by decide) rfl (fun ls hl => ?_)
  refine lv_goto (tgt := 18) hx hb dL_law_2663 (by decide) ?_
  have hJ2 : JI (XSf u_3) (MSf u_6) := (by rw [hp_2, hp_5]; exact hJ)
  exact KK _ _ _ _ _ _ _ (i6F hi hn) hXI hMI hJ2 hP hD hS hl
set_option maxHeartbeats 8000000 in
set_option maxRecDepth 100000 in
theorem lw_case_43 {p : Program} {l : Launch} {e : Env} {s : State} {m : MethodId} {below : List Frame} {meth : Method} {c : Code} {b L : Nat} {xs : Nat → Int32} {dC : Nat → ClassId} {dI : Nat → Nat → Nat} {cB cI cJ cZ cL : ClassId} (C0 : lw_At p s m meth c b L xs) (hN : NW s) (hK : va_K (dC, dI) vwCl (tyL cB cI cJ cZ cL) s) {a g adK adV : Nat → Nat} (hV : SW adK adV (fun q : Nat => s.heap.size ≤ q) s s.heap) {n : Nat} {i : Int32} {u : XT} {v : MT} {T : va_W} (hn : n ≤ 511) (hi : Int32.toInt i = 6 * (n : Int)) (hiL : 6 * n + 6 ≤ L) (hXI : XI cB cI cJ cZ cL u T) (hMI : MI v) (hJ : JI (XSf u) (MSf v)) {H : Heap} {locs : List Loc} (hP : va_P (dC, dI) vwCl (WX a cB cI cJ cZ cL u ++ (WM g cB cI cJ cZ cL v ++ T)) H) (hD : va_D (fun q : Nat => s.heap.size ≤ q) (WX a cB cI cJ cZ cL u ++ (WM g cB cI cJ cZ cL v ++ T))) (hS : va_S (fun q : Nat => s.heap.size ≤ q) s.heap H locs) {ls : Array Slot} (hl : lv_has ls 4 [(3, .int i), (2, .ref (g 0)), (1, .ref (a 0)), (0, .ref b)]) (KK : ∀ (i : Int32) (u : XT) (v : MT) (T : va_W) (H : Heap) (locs : List Loc) (ls : Array Slot), Int32.toInt i = 6 * ((n + 1 : Nat) : Int) → XI cB cI cJ cZ cL u T → MI v → JI (XSf u) (MSf v) → va_P (dC, dI) vwCl (WX a cB cI cJ cZ cL u ++ (WM g cB cI cJ cZ cL v ++ T)) H → va_D (fun q : Nat => s.heap.size ≤ q) (WX a cB cI cJ cZ cL u ++ (WM g cB cI cJ cZ cL v ++ T)) → va_S (fun q : Nat => s.heap.size ≤ q) s.heap H locs → lv_has ls 4 [(3, .int i), (2, .ref (g 0)), (1, .ref (a 0)), (0, .ref b)] → W p l e room_1 s m #[Value.ref b] below meth c H locs (200 + 9 * (n + 1)) (10000 + 132 * (n + 1)) (lw_Z below #[Value.ref b] s) (F0 m 18 ls [])) : W p l e room_1 s m #[Value.ref b] below meth c H locs (200 + 9 * n) (10000 + 132 * n) (lw_Z below #[Value.ref b] s) (F0 m 1451 ls []) := by
  obtain ⟨hx, hb, hr, hml, hown, hts, hX, hbl, hlocks, hgv⟩ := id C0
  have ht : ∀ w ∈ lw_ok, w.before #[Value.ref b] s = true := fun w h => hts w (List.mem_filter.mp h).1
  have hbA : ¬ (fun q : Nat => s.heap.size ≤ q) b := Nat.not_le.mpr hbl
  have hc0 : 200 + 9 * n + 0 ≤ room_1.cells ∧ 10000 + 132 * n + 0 ≤ room_1.slots := ⟨by show 200 + 9 * n + 0 ≤ 600000; omega, by show 10000 + 132 * n + 0 ≤ 7302249; omega⟩
  refine lv_aload_n hx hb dL_law_1451 rfl (lv_at hl 2 rfl) ?_
  refine lx_all C0 hN hK hXI hl.1 (Nat.le_of_ble_eq_true rfl) hc0 dL_law_1452 hP hD hS (fun r_1 u_3 H locs hXI hp_2 hP hD hS => ?_)
  refine lv_pop hx hb dL_law_1455 rfl ?_
  refine lv_aload_n hx hb dL_law_1456 rfl (lv_at hl 1 rfl) ?_
  refine lm_all C0 hN hK hMI hl.1 (Nat.le_of_ble_eq_true rfl) hc0 dL_law_1457 hP hD hS (fun r_4 u_6 H locs hMI hp_5 hP hD hS => ?_)
  refine lv_pop hx hb dL_law_1460 rfl ?_
  refine lv_goto (tgt := 2660) hx hb dL_law_1461 (by decide) ?_
  refine W.widen (k := 200 + 9 * (n + 1)) (n := 10000 + 132 * (n + 1)) (by omega) (by omega) ?_
  refine lv_iinc (v := i + 6) (lv' := [(3, .int (i + 6)), (2, .ref (g 0)), (1, .ref (a 0)), (0, .ref b)]) hx hb dL_law_2660 hl (k := 0) rfl rfl (by decide) rfl (fun ls hl => ?_)
  refine lv_goto (tgt := 18) hx hb dL_law_2663 (by decide) ?_
  have hJ2 : JI (XSf u_3) (MSf u_6) := (by rw [hp_2, hp_5]; exact hJ)
  exact KK _ _ _ _ _ _ _ (i6F hi hn) hXI hMI hJ2 hP hD hS hl
set_option maxHeartbeats 8000000 in
set_option maxRecDepth 100000 in
theorem lw_case_44 {p : Program} {l : Launch} {e : Env} {s : State} {m : MethodId} {below : List Frame} {meth : Method} {c : Code} {b L : Nat} {xs : Nat → Int32} {dC : Nat → ClassId} {dI : Nat → Nat → Nat} {cB cI cJ cZ cL : ClassId} (C0 : lw_At p s m meth c b L xs) (hN : NW s) (hK : va_K (dC, dI) vwCl (tyL cB cI cJ cZ cL) s) {a g adK adV : Nat → Nat} (hV : SW adK adV (fun q : Nat => s.heap.size ≤ q) s s.heap) {n : Nat} {i : Int32} {u : XT} {v : MT} {T : va_W} (hn : n ≤ 511) (hi : Int32.toInt i = 6 * (n : Int)) (hiL : 6 * n + 6 ≤ L) (hXI : XI cB cI cJ cZ cL u T) (hMI : MI v) (hJ : JI (XSf u) (MSf v)) {H : Heap} {locs : List Loc} (hP : va_P (dC, dI) vwCl (WX a cB cI cJ cZ cL u ++ (WM g cB cI cJ cZ cL v ++ T)) H) (hD : va_D (fun q : Nat => s.heap.size ≤ q) (WX a cB cI cJ cZ cL u ++ (WM g cB cI cJ cZ cL v ++ T))) (hS : va_S (fun q : Nat => s.heap.size ≤ q) s.heap H locs) {ls : Array Slot} (hl : lv_has ls 4 [(3, .int i), (2, .ref (g 0)), (1, .ref (a 0)), (0, .ref b)]) (KK : ∀ (i : Int32) (u : XT) (v : MT) (T : va_W) (H : Heap) (locs : List Loc) (ls : Array Slot), Int32.toInt i = 6 * ((n + 1 : Nat) : Int) → XI cB cI cJ cZ cL u T → MI v → JI (XSf u) (MSf v) → va_P (dC, dI) vwCl (WX a cB cI cJ cZ cL u ++ (WM g cB cI cJ cZ cL v ++ T)) H → va_D (fun q : Nat => s.heap.size ≤ q) (WX a cB cI cJ cZ cL u ++ (WM g cB cI cJ cZ cL v ++ T)) → va_S (fun q : Nat => s.heap.size ≤ q) s.heap H locs → lv_has ls 4 [(3, .int i), (2, .ref (g 0)), (1, .ref (a 0)), (0, .ref b)] → W p l e room_1 s m #[Value.ref b] below meth c H locs (200 + 9 * (n + 1)) (10000 + 132 * (n + 1)) (lw_Z below #[Value.ref b] s) (F0 m 18 ls [])) : W p l e room_1 s m #[Value.ref b] below meth c H locs (200 + 9 * n) (10000 + 132 * n) (lw_Z below #[Value.ref b] s) (F0 m 1464 ls []) := by
  obtain ⟨hx, hb, hr, hml, hown, hts, hX, hbl, hlocks, hgv⟩ := id C0
  have ht : ∀ w ∈ lw_ok, w.before #[Value.ref b] s = true := fun w h => hts w (List.mem_filter.mp h).1
  have hbA : ¬ (fun q : Nat => s.heap.size ≤ q) b := Nat.not_le.mpr hbl
  have hc0 : 200 + 9 * n + 0 ≤ room_1.cells ∧ 10000 + 132 * n + 0 ≤ room_1.slots := ⟨by show 200 + 9 * n + 0 ≤ 600000; omega, by show 10000 + 132 * n + 0 ≤ 7302249; omega⟩
  have v1 : vp_in (i + 1) L := ijF hi hn hiL (by decide) (by decide)
  refine lv_aload_n hx hb dL_law_1464 rfl (lv_at hl 2 rfl) ?_
  refine lv_aload_n hx hb dL_law_1465 rfl (lv_at hl 3 rfl) ?_
  refine lv_iload_n hx hb dL_law_1466 rfl (lv_at hl 0 rfl) ?_
  refine lv_iconst (v := 1) hx hb dL_law_1467 (by decide) ?_
  refine lv_iadd hx hb dL_law_1468 ?_
  refine va_sld hx hb hX hbl hbA hS v1 dL_law_1469 ?_
  refine lx_without C0 hN hK hXI hl.1 (Nat.le_of_ble_eq_true rfl) hc0 dL_law_1470 hP hD hS (fun r_1 u_3 H locs hXI hp_2 hP hD hS => ?_)
  refine lv_pop hx hb dL_law_1473 rfl ?_
  refine lv_aload_n hx hb dL_law_1474 rfl (lv_at hl 1 rfl) ?_
  refine lv_aload_n hx hb dL_law_1475 rfl (lv_at hl 3 rfl) ?_
  refine lv_iload_n hx hb dL_law_1476 rfl (lv_at hl 0 rfl) ?_
  refine lv_iconst (v := 1) hx hb dL_law_1477 (by decide) ?_
  refine lv_iadd hx hb dL_law_1478 ?_
  refine va_sld hx hb hX hbl hbA hS v1 dL_law_1479 ?_
  refine lm_without C0 hN hK hMI hl.1 (Nat.le_of_ble_eq_true rfl) hc0 dL_law_1480 hP hD hS (fun r_4 u_6 H locs hMI hp_5 hP hD hS => ?_)
  refine lv_pop hx hb dL_law_1483 rfl ?_
  refine lv_goto (tgt := 2660) hx hb dL_law_1484 (by decide) ?_
  refine W.widen (k := 200 + 9 * (n + 1)) (n := 10000 + 132 * (n + 1)) (by omega) (by omega) ?_
  refine lv_iinc (v := i + 6) (lv' := [(3, .int (i + 6)), (2, .ref (g 0)), (1, .ref (a 0)), (0, .ref b)]) hx hb dL_law_2660 hl (k := 0) rfl rfl (by decide) rfl (fun ls hl => ?_)
  refine lv_goto (tgt := 18) hx hb dL_law_2663 (by decide) ?_
  have hJ2 : JI (XSf u_3) (MSf u_6) := (by rw [hp_2, hp_5]; exact hJ)
  exact KK _ _ _ _ _ _ _ (i6F hi hn) hXI hMI hJ2 hP hD hS hl
set_option maxHeartbeats 8000000 in
set_option maxRecDepth 100000 in
theorem lw_case_45 {p : Program} {l : Launch} {e : Env} {s : State} {m : MethodId} {below : List Frame} {meth : Method} {c : Code} {b L : Nat} {xs : Nat → Int32} {dC : Nat → ClassId} {dI : Nat → Nat → Nat} {cB cI cJ cZ cL : ClassId} (C0 : lw_At p s m meth c b L xs) (hN : NW s) (hK : va_K (dC, dI) vwCl (tyL cB cI cJ cZ cL) s) {a g adK adV : Nat → Nat} (hV : SW adK adV (fun q : Nat => s.heap.size ≤ q) s s.heap) {n : Nat} {i : Int32} {u : XT} {v : MT} {T : va_W} (hn : n ≤ 511) (hi : Int32.toInt i = 6 * (n : Int)) (hiL : 6 * n + 6 ≤ L) (hXI : XI cB cI cJ cZ cL u T) (hMI : MI v) (hJ : JI (XSf u) (MSf v)) {H : Heap} {locs : List Loc} (hP : va_P (dC, dI) vwCl (WX a cB cI cJ cZ cL u ++ (WM g cB cI cJ cZ cL v ++ T)) H) (hD : va_D (fun q : Nat => s.heap.size ≤ q) (WX a cB cI cJ cZ cL u ++ (WM g cB cI cJ cZ cL v ++ T))) (hS : va_S (fun q : Nat => s.heap.size ≤ q) s.heap H locs) {ls : Array Slot} (hl : lv_has ls 4 [(3, .int i), (2, .ref (g 0)), (1, .ref (a 0)), (0, .ref b)]) (KK : ∀ (i : Int32) (u : XT) (v : MT) (T : va_W) (H : Heap) (locs : List Loc) (ls : Array Slot), Int32.toInt i = 6 * ((n + 1 : Nat) : Int) → XI cB cI cJ cZ cL u T → MI v → JI (XSf u) (MSf v) → va_P (dC, dI) vwCl (WX a cB cI cJ cZ cL u ++ (WM g cB cI cJ cZ cL v ++ T)) H → va_D (fun q : Nat => s.heap.size ≤ q) (WX a cB cI cJ cZ cL u ++ (WM g cB cI cJ cZ cL v ++ T)) → va_S (fun q : Nat => s.heap.size ≤ q) s.heap H locs → lv_has ls 4 [(3, .int i), (2, .ref (g 0)), (1, .ref (a 0)), (0, .ref b)] → W p l e room_1 s m #[Value.ref b] below meth c H locs (200 + 9 * (n + 1)) (10000 + 132 * (n + 1)) (lw_Z below #[Value.ref b] s) (F0 m 18 ls [])) : W p l e room_1 s m #[Value.ref b] below meth c H locs (200 + 9 * n) (10000 + 132 * n) (lw_Z below #[Value.ref b] s) (F0 m 1487 ls []) := by
  obtain ⟨hx, hb, hr, hml, hown, hts, hX, hbl, hlocks, hgv⟩ := id C0
  have ht : ∀ w ∈ lw_ok, w.before #[Value.ref b] s = true := fun w h => hts w (List.mem_filter.mp h).1
  have hbA : ¬ (fun q : Nat => s.heap.size ≤ q) b := Nat.not_le.mpr hbl
  have hc0 : 200 + 9 * n + 0 ≤ room_1.cells ∧ 10000 + 132 * n + 0 ≤ room_1.slots := ⟨by show 200 + 9 * n + 0 ≤ 600000; omega, by show 10000 + 132 * n + 0 ≤ 7302249; omega⟩
  have v1 : vp_in (i + 1) L := ijF hi hn hiL (by decide) (by decide)
  have v2 : vp_in (i + 2) L := ijF hi hn hiL (by decide) (by decide)
  refine lv_aload_n hx hb dL_law_1487 rfl (lv_at hl 2 rfl) ?_
  refine lv_aload_n hx hb dL_law_1488 rfl (lv_at hl 3 rfl) ?_
  refine lv_iload_n hx hb dL_law_1489 rfl (lv_at hl 0 rfl) ?_
  refine lv_iconst (v := 1) hx hb dL_law_1490 (by decide) ?_
  refine lv_iadd hx hb dL_law_1491 ?_
  refine va_sld hx hb hX hbl hbA hS v1 dL_law_1492 ?_
  refine lv_aload_n hx hb dL_law_1493 rfl (lv_at hl 3 rfl) ?_
  refine lv_iload_n hx hb dL_law_1494 rfl (lv_at hl 0 rfl) ?_
  refine lv_iconst (v := 2) hx hb dL_law_1495 (by decide) ?_
  refine lv_iadd hx hb dL_law_1496 ?_
  refine va_sld hx hb hX hbl hbA hS v2 dL_law_1497 ?_
  refine lx_cupped C0 hN hK hXI hl.1 (Nat.le_of_ble_eq_true rfl) hc0 dL_law_1498 hP hD hS (fun r_1 u_3 H locs hXI hp_2 hP hD hS => ?_)
  refine lv_pop hx hb dL_law_1501 rfl ?_
  refine lv_aload_n hx hb dL_law_1502 rfl (lv_at hl 1 rfl) ?_
  refine lv_aload_n hx hb dL_law_1503 rfl (lv_at hl 3 rfl) ?_
  refine lv_iload_n hx hb dL_law_1504 rfl (lv_at hl 0 rfl) ?_
  refine lv_iconst (v := 1) hx hb dL_law_1505 (by decide) ?_
  refine lv_iadd hx hb dL_law_1506 ?_
  refine va_sld hx hb hX hbl hbA hS v1 dL_law_1507 ?_
  refine lv_aload_n hx hb dL_law_1508 rfl (lv_at hl 3 rfl) ?_
  refine lv_iload_n hx hb dL_law_1509 rfl (lv_at hl 0 rfl) ?_
  refine lv_iconst (v := 2) hx hb dL_law_1510 (by decide) ?_
  refine lv_iadd hx hb dL_law_1511 ?_
  refine va_sld hx hb hX hbl hbA hS v2 dL_law_1512 ?_
  refine lm_cupped C0 hN hK hMI hl.1 (Nat.le_of_ble_eq_true rfl) hc0 dL_law_1513 hP hD hS (fun r_4 u_6 H locs hMI hp_5 hP hD hS => ?_)
  refine lv_pop hx hb dL_law_1516 rfl ?_
  refine lv_goto (tgt := 2660) hx hb dL_law_1517 (by decide) ?_
  refine W.widen (k := 200 + 9 * (n + 1)) (n := 10000 + 132 * (n + 1)) (by omega) (by omega) ?_
  refine lv_iinc (v := i + 6) (lv' := [(3, .int (i + 6)), (2, .ref (g 0)), (1, .ref (a 0)), (0, .ref b)]) hx hb dL_law_2660 hl (k := 0) rfl rfl (by decide) rfl (fun ls hl => ?_)
  refine lv_goto (tgt := 18) hx hb dL_law_2663 (by decide) ?_
  have hJ2 : JI (XSf u_3) (MSf u_6) := (by rw [hp_2, hp_5]; exact hJ)
  exact KK _ _ _ _ _ _ _ (i6F hi hn) hXI hMI hJ2 hP hD hS hl
set_option maxHeartbeats 8000000 in
set_option maxRecDepth 100000 in
theorem lw_case_46 {p : Program} {l : Launch} {e : Env} {s : State} {m : MethodId} {below : List Frame} {meth : Method} {c : Code} {b L : Nat} {xs : Nat → Int32} {dC : Nat → ClassId} {dI : Nat → Nat → Nat} {cB cI cJ cZ cL : ClassId} (C0 : lw_At p s m meth c b L xs) (hN : NW s) (hK : va_K (dC, dI) vwCl (tyL cB cI cJ cZ cL) s) {a g adK adV : Nat → Nat} (hV : SW adK adV (fun q : Nat => s.heap.size ≤ q) s s.heap) {n : Nat} {i : Int32} {u : XT} {v : MT} {T : va_W} (hn : n ≤ 511) (hi : Int32.toInt i = 6 * (n : Int)) (hiL : 6 * n + 6 ≤ L) (hXI : XI cB cI cJ cZ cL u T) (hMI : MI v) (hJ : JI (XSf u) (MSf v)) {H : Heap} {locs : List Loc} (hP : va_P (dC, dI) vwCl (WX a cB cI cJ cZ cL u ++ (WM g cB cI cJ cZ cL v ++ T)) H) (hD : va_D (fun q : Nat => s.heap.size ≤ q) (WX a cB cI cJ cZ cL u ++ (WM g cB cI cJ cZ cL v ++ T))) (hS : va_S (fun q : Nat => s.heap.size ≤ q) s.heap H locs) {ls : Array Slot} (hl : lv_has ls 4 [(3, .int i), (2, .ref (g 0)), (1, .ref (a 0)), (0, .ref b)]) (KK : ∀ (i : Int32) (u : XT) (v : MT) (T : va_W) (H : Heap) (locs : List Loc) (ls : Array Slot), Int32.toInt i = 6 * ((n + 1 : Nat) : Int) → XI cB cI cJ cZ cL u T → MI v → JI (XSf u) (MSf v) → va_P (dC, dI) vwCl (WX a cB cI cJ cZ cL u ++ (WM g cB cI cJ cZ cL v ++ T)) H → va_D (fun q : Nat => s.heap.size ≤ q) (WX a cB cI cJ cZ cL u ++ (WM g cB cI cJ cZ cL v ++ T)) → va_S (fun q : Nat => s.heap.size ≤ q) s.heap H locs → lv_has ls 4 [(3, .int i), (2, .ref (g 0)), (1, .ref (a 0)), (0, .ref b)] → W p l e room_1 s m #[Value.ref b] below meth c H locs (200 + 9 * (n + 1)) (10000 + 132 * (n + 1)) (lw_Z below #[Value.ref b] s) (F0 m 18 ls [])) : W p l e room_1 s m #[Value.ref b] below meth c H locs (200 + 9 * n) (10000 + 132 * n) (lw_Z below #[Value.ref b] s) (F0 m 1520 ls []) := by
  obtain ⟨hx, hb, hr, hml, hown, hts, hX, hbl, hlocks, hgv⟩ := id C0
  have ht : ∀ w ∈ lw_ok, w.before #[Value.ref b] s = true := fun w h => hts w (List.mem_filter.mp h).1
  have hbA : ¬ (fun q : Nat => s.heap.size ≤ q) b := Nat.not_le.mpr hbl
  have hc0 : 200 + 9 * n + 0 ≤ room_1.cells ∧ 10000 + 132 * n + 0 ≤ room_1.slots := ⟨by show 200 + 9 * n + 0 ≤ 600000; omega, by show 10000 + 132 * n + 0 ≤ 7302249; omega⟩
  have v1 : vp_in (i + 1) L := ijF hi hn hiL (by decide) (by decide)
  refine lv_aload_n hx hb dL_law_1520 rfl (lv_at hl 2 rfl) ?_
  refine lv_aload_n hx hb dL_law_1521 rfl (lv_at hl 3 rfl) ?_
  refine lv_iload_n hx hb dL_law_1522 rfl (lv_at hl 0 rfl) ?_
  refine lv_iconst (v := 1) hx hb dL_law_1523 (by decide) ?_
  refine lv_iadd hx hb dL_law_1524 ?_
  refine va_sld hx hb hX hbl hbA hS v1 dL_law_1525 ?_
  refine lx_snapped C0 hN hK hXI hl.1 (Nat.le_of_ble_eq_true rfl) hc0 dL_law_1526 hP hD hS (fun r_1 u_3 H locs hXI hp_2 hP hD hS => ?_)
  refine lv_pop hx hb dL_law_1529 rfl ?_
  refine lv_aload_n hx hb dL_law_1530 rfl (lv_at hl 1 rfl) ?_
  refine lv_aload_n hx hb dL_law_1531 rfl (lv_at hl 3 rfl) ?_
  refine lv_iload_n hx hb dL_law_1532 rfl (lv_at hl 0 rfl) ?_
  refine lv_iconst (v := 1) hx hb dL_law_1533 (by decide) ?_
  refine lv_iadd hx hb dL_law_1534 ?_
  refine va_sld hx hb hX hbl hbA hS v1 dL_law_1535 ?_
  refine lm_snapped C0 hN hK hMI hl.1 (Nat.le_of_ble_eq_true rfl) hc0 dL_law_1536 hP hD hS (fun r_4 u_6 H locs hMI hp_5 hP hD hS => ?_)
  refine lv_pop hx hb dL_law_1539 rfl ?_
  refine lv_goto (tgt := 2660) hx hb dL_law_1540 (by decide) ?_
  refine W.widen (k := 200 + 9 * (n + 1)) (n := 10000 + 132 * (n + 1)) (by omega) (by omega) ?_
  refine lv_iinc (v := i + 6) (lv' := [(3, .int (i + 6)), (2, .ref (g 0)), (1, .ref (a 0)), (0, .ref b)]) hx hb dL_law_2660 hl (k := 0) rfl rfl (by decide) rfl (fun ls hl => ?_)
  refine lv_goto (tgt := 18) hx hb dL_law_2663 (by decide) ?_
  have hJ2 : JI (XSf u_3) (MSf u_6) := (by rw [hp_2, hp_5]; exact hJ)
  exact KK _ _ _ _ _ _ _ (i6F hi hn) hXI hMI hJ2 hP hD hS hl
set_option maxHeartbeats 8000000 in
set_option maxRecDepth 100000 in
theorem lw_case_47 {p : Program} {l : Launch} {e : Env} {s : State} {m : MethodId} {below : List Frame} {meth : Method} {c : Code} {b L : Nat} {xs : Nat → Int32} {dC : Nat → ClassId} {dI : Nat → Nat → Nat} {cB cI cJ cZ cL : ClassId} (C0 : lw_At p s m meth c b L xs) (hN : NW s) (hK : va_K (dC, dI) vwCl (tyL cB cI cJ cZ cL) s) {a g adK adV : Nat → Nat} (hV : SW adK adV (fun q : Nat => s.heap.size ≤ q) s s.heap) {n : Nat} {i : Int32} {u : XT} {v : MT} {T : va_W} (hn : n ≤ 511) (hi : Int32.toInt i = 6 * (n : Int)) (hiL : 6 * n + 6 ≤ L) (hXI : XI cB cI cJ cZ cL u T) (hMI : MI v) (hJ : JI (XSf u) (MSf v)) {H : Heap} {locs : List Loc} (hP : va_P (dC, dI) vwCl (WX a cB cI cJ cZ cL u ++ (WM g cB cI cJ cZ cL v ++ T)) H) (hD : va_D (fun q : Nat => s.heap.size ≤ q) (WX a cB cI cJ cZ cL u ++ (WM g cB cI cJ cZ cL v ++ T))) (hS : va_S (fun q : Nat => s.heap.size ≤ q) s.heap H locs) {ls : Array Slot} (hl : lv_has ls 4 [(3, .int i), (2, .ref (g 0)), (1, .ref (a 0)), (0, .ref b)]) (KK : ∀ (i : Int32) (u : XT) (v : MT) (T : va_W) (H : Heap) (locs : List Loc) (ls : Array Slot), Int32.toInt i = 6 * ((n + 1 : Nat) : Int) → XI cB cI cJ cZ cL u T → MI v → JI (XSf u) (MSf v) → va_P (dC, dI) vwCl (WX a cB cI cJ cZ cL u ++ (WM g cB cI cJ cZ cL v ++ T)) H → va_D (fun q : Nat => s.heap.size ≤ q) (WX a cB cI cJ cZ cL u ++ (WM g cB cI cJ cZ cL v ++ T)) → va_S (fun q : Nat => s.heap.size ≤ q) s.heap H locs → lv_has ls 4 [(3, .int i), (2, .ref (g 0)), (1, .ref (a 0)), (0, .ref b)] → W p l e room_1 s m #[Value.ref b] below meth c H locs (200 + 9 * (n + 1)) (10000 + 132 * (n + 1)) (lw_Z below #[Value.ref b] s) (F0 m 18 ls [])) : W p l e room_1 s m #[Value.ref b] below meth c H locs (200 + 9 * n) (10000 + 132 * n) (lw_Z below #[Value.ref b] s) (F0 m 1543 ls []) := by
  obtain ⟨hx, hb, hr, hml, hown, hts, hX, hbl, hlocks, hgv⟩ := id C0
  have ht : ∀ w ∈ lw_ok, w.before #[Value.ref b] s = true := fun w h => hts w (List.mem_filter.mp h).1
  have hbA : ¬ (fun q : Nat => s.heap.size ≤ q) b := Nat.not_le.mpr hbl
  have hc0 : 200 + 9 * n + 0 ≤ room_1.cells ∧ 10000 + 132 * n + 0 ≤ room_1.slots := ⟨by show 200 + 9 * n + 0 ≤ 600000; omega, by show 10000 + 132 * n + 0 ≤ 7302249; omega⟩
  have v1 : vp_in (i + 1) L := ijF hi hn hiL (by decide) (by decide)
  refine lv_aload_n hx hb dL_law_1543 rfl (lv_at hl 2 rfl) ?_
  refine lv_aload_n hx hb dL_law_1544 rfl (lv_at hl 3 rfl) ?_
  refine lv_iload_n hx hb dL_law_1545 rfl (lv_at hl 0 rfl) ?_
  refine lv_iconst (v := 1) hx hb dL_law_1546 (by decide) ?_
  refine lv_iadd hx hb dL_law_1547 ?_
  refine va_sld hx hb hX hbl hbA hS v1 dL_law_1548 ?_
  refine lx_lack C0 hN hK hXI hl.1 (Nat.le_of_ble_eq_true rfl) hc0 dL_law_1549 hP hD hS (fun r_1 u_3 H locs hXI hp_2 hP hD hS => ?_)
  refine lv_pop hx hb dL_law_1552 rfl ?_
  refine lv_aload_n hx hb dL_law_1553 rfl (lv_at hl 1 rfl) ?_
  refine lv_aload_n hx hb dL_law_1554 rfl (lv_at hl 3 rfl) ?_
  refine lv_iload_n hx hb dL_law_1555 rfl (lv_at hl 0 rfl) ?_
  refine lv_iconst (v := 1) hx hb dL_law_1556 (by decide) ?_
  refine lv_iadd hx hb dL_law_1557 ?_
  refine va_sld hx hb hX hbl hbA hS v1 dL_law_1558 ?_
  refine lm_lack C0 hN hK hMI hl.1 (Nat.le_of_ble_eq_true rfl) hc0 dL_law_1559 hP hD hS (fun r_4 u_6 H locs hMI hp_5 hP hD hS => ?_)
  refine lv_pop hx hb dL_law_1562 rfl ?_
  refine lv_goto (tgt := 2660) hx hb dL_law_1563 (by decide) ?_
  refine W.widen (k := 200 + 9 * (n + 1)) (n := 10000 + 132 * (n + 1)) (by omega) (by omega) ?_
  refine lv_iinc (v := i + 6) (lv' := [(3, .int (i + 6)), (2, .ref (g 0)), (1, .ref (a 0)), (0, .ref b)]) hx hb dL_law_2660 hl (k := 0) rfl rfl (by decide) rfl (fun ls hl => ?_)
  refine lv_goto (tgt := 18) hx hb dL_law_2663 (by decide) ?_
  have hJ2 : JI (XSf u_3) (MSf u_6) := (by rw [hp_2, hp_5]; exact hJ)
  exact KK _ _ _ _ _ _ _ (i6F hi hn) hXI hMI hJ2 hP hD hS hl
set_option maxHeartbeats 8000000 in
set_option maxRecDepth 100000 in
theorem lw_case_48 {p : Program} {l : Launch} {e : Env} {s : State} {m : MethodId} {below : List Frame} {meth : Method} {c : Code} {b L : Nat} {xs : Nat → Int32} {dC : Nat → ClassId} {dI : Nat → Nat → Nat} {cB cI cJ cZ cL : ClassId} (C0 : lw_At p s m meth c b L xs) (hN : NW s) (hK : va_K (dC, dI) vwCl (tyL cB cI cJ cZ cL) s) {a g adK adV : Nat → Nat} (hV : SW adK adV (fun q : Nat => s.heap.size ≤ q) s s.heap) {n : Nat} {i : Int32} {u : XT} {v : MT} {T : va_W} (hn : n ≤ 511) (hi : Int32.toInt i = 6 * (n : Int)) (hiL : 6 * n + 6 ≤ L) (hXI : XI cB cI cJ cZ cL u T) (hMI : MI v) (hJ : JI (XSf u) (MSf v)) {H : Heap} {locs : List Loc} (hP : va_P (dC, dI) vwCl (WX a cB cI cJ cZ cL u ++ (WM g cB cI cJ cZ cL v ++ T)) H) (hD : va_D (fun q : Nat => s.heap.size ≤ q) (WX a cB cI cJ cZ cL u ++ (WM g cB cI cJ cZ cL v ++ T))) (hS : va_S (fun q : Nat => s.heap.size ≤ q) s.heap H locs) {ls : Array Slot} (hl : lv_has ls 4 [(3, .int i), (2, .ref (g 0)), (1, .ref (a 0)), (0, .ref b)]) (KK : ∀ (i : Int32) (u : XT) (v : MT) (T : va_W) (H : Heap) (locs : List Loc) (ls : Array Slot), Int32.toInt i = 6 * ((n + 1 : Nat) : Int) → XI cB cI cJ cZ cL u T → MI v → JI (XSf u) (MSf v) → va_P (dC, dI) vwCl (WX a cB cI cJ cZ cL u ++ (WM g cB cI cJ cZ cL v ++ T)) H → va_D (fun q : Nat => s.heap.size ≤ q) (WX a cB cI cJ cZ cL u ++ (WM g cB cI cJ cZ cL v ++ T)) → va_S (fun q : Nat => s.heap.size ≤ q) s.heap H locs → lv_has ls 4 [(3, .int i), (2, .ref (g 0)), (1, .ref (a 0)), (0, .ref b)] → W p l e room_1 s m #[Value.ref b] below meth c H locs (200 + 9 * (n + 1)) (10000 + 132 * (n + 1)) (lw_Z below #[Value.ref b] s) (F0 m 18 ls [])) : W p l e room_1 s m #[Value.ref b] below meth c H locs (200 + 9 * n) (10000 + 132 * n) (lw_Z below #[Value.ref b] s) (F0 m 1566 ls []) := by
  obtain ⟨hx, hb, hr, hml, hown, hts, hX, hbl, hlocks, hgv⟩ := id C0
  have ht : ∀ w ∈ lw_ok, w.before #[Value.ref b] s = true := fun w h => hts w (List.mem_filter.mp h).1
  have hbA : ¬ (fun q : Nat => s.heap.size ≤ q) b := Nat.not_le.mpr hbl
  have hc0 : 200 + 9 * n + 0 ≤ room_1.cells ∧ 10000 + 132 * n + 0 ≤ room_1.slots := ⟨by show 200 + 9 * n + 0 ≤ 600000; omega, by show 10000 + 132 * n + 0 ≤ 7302249; omega⟩
  have v1 : vp_in (i + 1) L := ijF hi hn hiL (by decide) (by decide)
  refine lv_aload_n hx hb dL_law_1566 rfl (lv_at hl 2 rfl) ?_
  refine lv_aload_n hx hb dL_law_1567 rfl (lv_at hl 3 rfl) ?_
  refine lv_iload_n hx hb dL_law_1568 rfl (lv_at hl 0 rfl) ?_
  refine lv_iconst (v := 1) hx hb dL_law_1569 (by decide) ?_
  refine lv_iadd hx hb dL_law_1570 ?_
  refine va_sld hx hb hX hbl hbA hS v1 dL_law_1571 ?_
  refine lx_loud C0 hN hK hXI hl.1 (Nat.le_of_ble_eq_true rfl) hc0 dL_law_1572 hP hD hS (fun r_1 u_3 H locs hXI hp_2 hP hD hS => ?_)
  refine lv_pop hx hb dL_law_1575 rfl ?_
  refine lv_aload_n hx hb dL_law_1576 rfl (lv_at hl 1 rfl) ?_
  refine lv_aload_n hx hb dL_law_1577 rfl (lv_at hl 3 rfl) ?_
  refine lv_iload_n hx hb dL_law_1578 rfl (lv_at hl 0 rfl) ?_
  refine lv_iconst (v := 1) hx hb dL_law_1579 (by decide) ?_
  refine lv_iadd hx hb dL_law_1580 ?_
  refine va_sld hx hb hX hbl hbA hS v1 dL_law_1581 ?_
  refine lm_loud C0 hN hK hMI hl.1 (Nat.le_of_ble_eq_true rfl) hc0 dL_law_1582 hP hD hS (fun r_4 u_6 H locs hMI hp_5 hP hD hS => ?_)
  refine lv_pop hx hb dL_law_1585 rfl ?_
  refine lv_goto (tgt := 2660) hx hb dL_law_1586 (by decide) ?_
  refine W.widen (k := 200 + 9 * (n + 1)) (n := 10000 + 132 * (n + 1)) (by omega) (by omega) ?_
  refine lv_iinc (v := i + 6) (lv' := [(3, .int (i + 6)), (2, .ref (g 0)), (1, .ref (a 0)), (0, .ref b)]) hx hb dL_law_2660 hl (k := 0) rfl rfl (by decide) rfl (fun ls hl => ?_)
  refine lv_goto (tgt := 18) hx hb dL_law_2663 (by decide) ?_
  have hJ2 : JI (XSf u_3) (MSf u_6) := (by rw [hp_2, hp_5]; exact hJ)
  exact KK _ _ _ _ _ _ _ (i6F hi hn) hXI hMI hJ2 hP hD hS hl
set_option maxHeartbeats 8000000 in
set_option maxRecDepth 100000 in
theorem lw_case_49 {p : Program} {l : Launch} {e : Env} {s : State} {m : MethodId} {below : List Frame} {meth : Method} {c : Code} {b L : Nat} {xs : Nat → Int32} {dC : Nat → ClassId} {dI : Nat → Nat → Nat} {cB cI cJ cZ cL : ClassId} (C0 : lw_At p s m meth c b L xs) (hN : NW s) (hK : va_K (dC, dI) vwCl (tyL cB cI cJ cZ cL) s) {a g adK adV : Nat → Nat} (hV : SW adK adV (fun q : Nat => s.heap.size ≤ q) s s.heap) {n : Nat} {i : Int32} {u : XT} {v : MT} {T : va_W} (hn : n ≤ 511) (hi : Int32.toInt i = 6 * (n : Int)) (hiL : 6 * n + 6 ≤ L) (hXI : XI cB cI cJ cZ cL u T) (hMI : MI v) (hJ : JI (XSf u) (MSf v)) {H : Heap} {locs : List Loc} (hP : va_P (dC, dI) vwCl (WX a cB cI cJ cZ cL u ++ (WM g cB cI cJ cZ cL v ++ T)) H) (hD : va_D (fun q : Nat => s.heap.size ≤ q) (WX a cB cI cJ cZ cL u ++ (WM g cB cI cJ cZ cL v ++ T))) (hS : va_S (fun q : Nat => s.heap.size ≤ q) s.heap H locs) {ls : Array Slot} (hl : lv_has ls 4 [(3, .int i), (2, .ref (g 0)), (1, .ref (a 0)), (0, .ref b)]) (KK : ∀ (i : Int32) (u : XT) (v : MT) (T : va_W) (H : Heap) (locs : List Loc) (ls : Array Slot), Int32.toInt i = 6 * ((n + 1 : Nat) : Int) → XI cB cI cJ cZ cL u T → MI v → JI (XSf u) (MSf v) → va_P (dC, dI) vwCl (WX a cB cI cJ cZ cL u ++ (WM g cB cI cJ cZ cL v ++ T)) H → va_D (fun q : Nat => s.heap.size ≤ q) (WX a cB cI cJ cZ cL u ++ (WM g cB cI cJ cZ cL v ++ T)) → va_S (fun q : Nat => s.heap.size ≤ q) s.heap H locs → lv_has ls 4 [(3, .int i), (2, .ref (g 0)), (1, .ref (a 0)), (0, .ref b)] → W p l e room_1 s m #[Value.ref b] below meth c H locs (200 + 9 * (n + 1)) (10000 + 132 * (n + 1)) (lw_Z below #[Value.ref b] s) (F0 m 18 ls [])) : W p l e room_1 s m #[Value.ref b] below meth c H locs (200 + 9 * n) (10000 + 132 * n) (lw_Z below #[Value.ref b] s) (F0 m 1589 ls []) := by
  obtain ⟨hx, hb, hr, hml, hown, hts, hX, hbl, hlocks, hgv⟩ := id C0
  have ht : ∀ w ∈ lw_ok, w.before #[Value.ref b] s = true := fun w h => hts w (List.mem_filter.mp h).1
  have hbA : ¬ (fun q : Nat => s.heap.size ≤ q) b := Nat.not_le.mpr hbl
  have hc0 : 200 + 9 * n + 0 ≤ room_1.cells ∧ 10000 + 132 * n + 0 ≤ room_1.slots := ⟨by show 200 + 9 * n + 0 ≤ 600000; omega, by show 10000 + 132 * n + 0 ≤ 7302249; omega⟩
  refine lv_aload_n hx hb dL_law_1589 rfl (lv_at hl 2 rfl) ?_
  refine lx_weakest C0 hN hK hXI hl.1 (Nat.le_of_ble_eq_true rfl) hc0 dL_law_1590 hP hD hS (fun r_1 u_3 H locs hXI hp_2 hP hD hS => ?_)
  refine lv_pop hx hb dL_law_1593 rfl ?_
  refine lv_aload_n hx hb dL_law_1594 rfl (lv_at hl 1 rfl) ?_
  refine lm_weakest C0 hN hK hMI hl.1 (Nat.le_of_ble_eq_true rfl) hc0 dL_law_1595 hP hD hS (fun r_4 u_6 H locs hMI hp_5 hP hD hS => ?_)
  refine lv_pop hx hb dL_law_1598 rfl ?_
  refine lv_goto (tgt := 2660) hx hb dL_law_1599 (by decide) ?_
  refine W.widen (k := 200 + 9 * (n + 1)) (n := 10000 + 132 * (n + 1)) (by omega) (by omega) ?_
  refine lv_iinc (v := i + 6) (lv' := [(3, .int (i + 6)), (2, .ref (g 0)), (1, .ref (a 0)), (0, .ref b)]) hx hb dL_law_2660 hl (k := 0) rfl rfl (by decide) rfl (fun ls hl => ?_)
  refine lv_goto (tgt := 18) hx hb dL_law_2663 (by decide) ?_
  have hJ2 : JI (XSf u_3) (MSf u_6) := (by rw [hp_2, hp_5]; exact hJ)
  exact KK _ _ _ _ _ _ _ (i6F hi hn) hXI hMI hJ2 hP hD hS hl
set_option maxHeartbeats 8000000 in
set_option maxRecDepth 100000 in
theorem lw_case_50 {p : Program} {l : Launch} {e : Env} {s : State} {m : MethodId} {below : List Frame} {meth : Method} {c : Code} {b L : Nat} {xs : Nat → Int32} {dC : Nat → ClassId} {dI : Nat → Nat → Nat} {cB cI cJ cZ cL : ClassId} (C0 : lw_At p s m meth c b L xs) (hN : NW s) (hK : va_K (dC, dI) vwCl (tyL cB cI cJ cZ cL) s) {a g adK adV : Nat → Nat} (hV : SW adK adV (fun q : Nat => s.heap.size ≤ q) s s.heap) {n : Nat} {i : Int32} {u : XT} {v : MT} {T : va_W} (hn : n ≤ 511) (hi : Int32.toInt i = 6 * (n : Int)) (hiL : 6 * n + 6 ≤ L) (hXI : XI cB cI cJ cZ cL u T) (hMI : MI v) (hJ : JI (XSf u) (MSf v)) {H : Heap} {locs : List Loc} (hP : va_P (dC, dI) vwCl (WX a cB cI cJ cZ cL u ++ (WM g cB cI cJ cZ cL v ++ T)) H) (hD : va_D (fun q : Nat => s.heap.size ≤ q) (WX a cB cI cJ cZ cL u ++ (WM g cB cI cJ cZ cL v ++ T))) (hS : va_S (fun q : Nat => s.heap.size ≤ q) s.heap H locs) {ls : Array Slot} (hl : lv_has ls 4 [(3, .int i), (2, .ref (g 0)), (1, .ref (a 0)), (0, .ref b)]) (KK : ∀ (i : Int32) (u : XT) (v : MT) (T : va_W) (H : Heap) (locs : List Loc) (ls : Array Slot), Int32.toInt i = 6 * ((n + 1 : Nat) : Int) → XI cB cI cJ cZ cL u T → MI v → JI (XSf u) (MSf v) → va_P (dC, dI) vwCl (WX a cB cI cJ cZ cL u ++ (WM g cB cI cJ cZ cL v ++ T)) H → va_D (fun q : Nat => s.heap.size ≤ q) (WX a cB cI cJ cZ cL u ++ (WM g cB cI cJ cZ cL v ++ T)) → va_S (fun q : Nat => s.heap.size ≤ q) s.heap H locs → lv_has ls 4 [(3, .int i), (2, .ref (g 0)), (1, .ref (a 0)), (0, .ref b)] → W p l e room_1 s m #[Value.ref b] below meth c H locs (200 + 9 * (n + 1)) (10000 + 132 * (n + 1)) (lw_Z below #[Value.ref b] s) (F0 m 18 ls [])) : W p l e room_1 s m #[Value.ref b] below meth c H locs (200 + 9 * n) (10000 + 132 * n) (lw_Z below #[Value.ref b] s) (F0 m 1602 ls []) := by
  obtain ⟨hx, hb, hr, hml, hown, hts, hX, hbl, hlocks, hgv⟩ := id C0
  have ht : ∀ w ∈ lw_ok, w.before #[Value.ref b] s = true := fun w h => hts w (List.mem_filter.mp h).1
  have hbA : ¬ (fun q : Nat => s.heap.size ≤ q) b := Nat.not_le.mpr hbl
  have hc0 : 200 + 9 * n + 0 ≤ room_1.cells ∧ 10000 + 132 * n + 0 ≤ room_1.slots := ⟨by show 200 + 9 * n + 0 ≤ 600000; omega, by show 10000 + 132 * n + 0 ≤ 7302249; omega⟩
  refine lv_aload_n hx hb dL_law_1602 rfl (lv_at hl 2 rfl) ?_
  refine lx_strong C0 hN hK hXI hl.1 (Nat.le_of_ble_eq_true rfl) hc0 dL_law_1603 hP hD hS (fun r_1 u_3 H locs hXI hp_2 hP hD hS => ?_)
  refine lv_pop hx hb dL_law_1606 rfl ?_
  refine lv_aload_n hx hb dL_law_1607 rfl (lv_at hl 1 rfl) ?_
  refine lm_strong C0 hN hK hMI hl.1 (Nat.le_of_ble_eq_true rfl) hc0 dL_law_1608 hP hD hS (fun r_4 u_6 H locs hMI hp_5 hP hD hS => ?_)
  refine lv_pop hx hb dL_law_1611 rfl ?_
  refine lv_goto (tgt := 2660) hx hb dL_law_1612 (by decide) ?_
  refine W.widen (k := 200 + 9 * (n + 1)) (n := 10000 + 132 * (n + 1)) (by omega) (by omega) ?_
  refine lv_iinc (v := i + 6) (lv' := [(3, .int (i + 6)), (2, .ref (g 0)), (1, .ref (a 0)), (0, .ref b)]) hx hb dL_law_2660 hl (k := 0) rfl rfl (by decide) rfl (fun ls hl => ?_)
  refine lv_goto (tgt := 18) hx hb dL_law_2663 (by decide) ?_
  have hJ2 : JI (XSf u_3) (MSf u_6) := (by rw [hp_2, hp_5]; exact hJ)
  exact KK _ _ _ _ _ _ _ (i6F hi hn) hXI hMI hJ2 hP hD hS hl
