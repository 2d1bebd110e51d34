set_option maxHeartbeats 4000000 in
set_option maxRecDepth 100000 in
theorem lw_case_85 {p : Program} {l : Launch} {e : Env} {s : State} {m : MethodId} {below : List Frame} {meth : Method} {c : Code} {b : Nat} {xs : Nat → Int32} {dC : Nat → ClassId} {dI : Nat → Nat → Nat} {cB cI cJ cZ cL : ClassId} {a g : Nat → Nat} {fz fw : Nat → Int32} (hfz : ∀ j, j < 4 → fz j = -1) (hfw : ∀ j, j < 4 → fw j = -1) (C0 : lw_At p s m meth c b 6 xs) (hN : NW s) (hK : va_K (dC, dI) vwCl (tyL cB cI cJ cZ cL) s) {H : Heap} {locs : List Loc} (hP : va_P (dC, dI) vwCl (wXM a g fz fw cB cI cJ cZ cL) H) (hD : va_D (fun q : Nat => s.heap.size ≤ q) (wXM a g fz fw cB cI cJ cZ cL)) (hS : va_S (fun q : Nat => s.heap.size ≤ q) s.heap H locs) {ls : Array Slot} (hl : lv_has ls 4 [(3, .int 0), (2, .ref (g 0)), (1, .ref (a 0)), (0, .ref b)]) : W p l e room_1 s m #[Value.ref b] below meth c H locs 122 7554 (lw_Z below #[Value.ref b] s) (F0 m 2603 ls []) := by
  obtain ⟨hx, hb, hr, hml, hown, hts, hX, hbl, hlocks, hgv⟩ := id C0
  have ht : ∀ w ∈ lw_ok, w.before #[Value.ref b] s = true := fun w h => hts w (List.mem_filter.mp h).1
  have hA : ∀ q : Nat, s.heap.size ≤ q → (fun q : Nat => s.heap.size ≤ q) q := fun _ h => h
  have hbA : ¬ (fun q : Nat => s.heap.size ≤ q) b := Nat.not_le.mpr hbl
  refine lv_aload_n hx hb dL_law_2603 rfl (lv_at hl 2 rfl) ?_
  refine lv_aload_n hx hb dL_law_2604 rfl (lv_at hl 3 rfl) ?_
  refine lv_iload_n hx hb dL_law_2605 rfl (lv_at hl 0 rfl) ?_
  refine lv_iconst (v := 1) hx hb dL_law_2606 (by decide) ?_
  refine lv_iadd hx hb dL_law_2607 ?_
  refine lv_topi (fun y_1 ey_1 => ?_)
  obtain rfl : y_1 = 1 := ey_1.trans (by decide)
  refine va_sld hx hb hX hbl hbA hS (by unfold vp_in; decide) dL_law_2608 ?_
  refine lv_aload_n hx hb dL_law_2609 rfl (lv_at hl 3 rfl) ?_
  refine lv_iload_n hx hb dL_law_2610 rfl (lv_at hl 0 rfl) ?_
  refine lv_iconst (v := 2) hx hb dL_law_2611 (by decide) ?_
  refine lv_iadd hx hb dL_law_2612 ?_
  refine lv_topi (fun y_2 ey_2 => ?_)
  obtain rfl : y_2 = 2 := ey_2.trans (by decide)
  refine va_sld hx hb hX hbl hbA hS (by unfold vp_in; decide) dL_law_2613 ?_
  refine lv_aload_n hx hb dL_law_2614 rfl (lv_at hl 3 rfl) ?_
  refine lv_iload_n hx hb dL_law_2615 rfl (lv_at hl 0 rfl) ?_
  refine lv_iconst (v := 3) hx hb dL_law_2616 (by decide) ?_
  refine lv_iadd hx hb dL_law_2617 ?_
  refine lv_topi (fun y_3 ey_3 => ?_)
  obtain rfl : y_3 = 3 := ey_3.trans (by decide)
  refine va_sld hx hb hX hbl hbA hS (by unfold vp_in; decide) dL_law_2618 ?_
  refine lv_aload_n hx hb dL_law_2619 rfl (lv_at hl 3 rfl) ?_
  refine lv_iload_n hx hb dL_law_2620 rfl (lv_at hl 0 rfl) ?_
  refine lv_iconst (v := 4) hx hb dL_law_2621 (by decide) ?_
  refine lv_iadd hx hb dL_law_2622 ?_
  refine lv_topi (fun y_4 ey_4 => ?_)
  obtain rfl : y_4 = 4 := ey_4.trans (by decide)
  refine va_sld hx hb hX hbl hbA hS (by unfold vp_in; decide) dL_law_2623 ?_
  refine lv_aload_n hx hb dL_law_2624 rfl (lv_at hl 3 rfl) ?_
  refine lv_iload_n hx hb dL_law_2625 rfl (lv_at hl 0 rfl) ?_
  refine lv_iconst (v := 5) hx hb dL_law_2626 (by decide) ?_
  refine lv_iadd hx hb dL_law_2627 ?_
  refine lv_topi (fun y_5 ey_5 => ?_)
  obtain rfl : y_5 = 5 := ey_5.trans (by decide)
  refine va_sld hx hb hX hbl hbA hS (by unfold vp_in; decide) dL_law_2628 ?_
  have hPc := hP.sub (ws' := [((a 0), .inr (8, [.ref (a 1), .ref (a 2), .ref (a 3), .ref (a 4), .ref (a 5), .ref (a 6), .ref (a 7), .ref (a 8), .ref (a 9), .ref (a 10), .ref (a 11), .ref (a 12), .ref (a 13), .ref (a 14), .int 0, .int (-1)])), ((a 7), .inr (3, [.ref (a 35), .ref (a 36), .ref (a 37)])), ((a 37), .inl (cI, 4, .inl fz))]) [0, 7, 30] rfl
  refine vp_callSi (W.runV (As := [.int (xs (Int32.toNatClampNeg 1)), .int (xs (Int32.toNatClampNeg 2)), .int (xs (Int32.toNatClampNeg 3)), .int (xs (Int32.toNatClampNeg 4)), .int (xs (Int32.toNatClampNeg 5))]) (rest := []) ⟨hx, hb, hml, hown, ht⟩ (k_X8_paste l dC dI cB cI cJ cZ cL a fz (xs (Int32.toNatClampNeg 1)) (xs (Int32.toNatClampNeg 2)) (xs (Int32.toNatClampNeg 3)) (xs (Int32.toNatClampNeg 4)) (xs (Int32.toNatClampNeg 5)) hfz) (cwV 5 ht (gV w_1243 w_1244 w_1245 w_105 w_1246) rfl rfl rfl (by decide +kernel) ⟨Nat.le_of_ble_eq_true rfl, Nat.le_of_ble_eq_true rfl⟩) (pVS hK hPc (ci := 8) (q0 := 0) rfl rfl) rfl rfl hl.1 rfl (lv_room (Nat.le_of_ble_eq_true rfl)) dL_law_2629 ⟨Nat.le_of_ble_eq_true rfl, Nat.le_of_ble_eq_true rfl⟩) (fun r_6 hw => ?_)
  have hw_7 := hw
  refine lv_aload_n hx hb dL_law_2632 rfl (lv_at hl 1 rfl) ?_
  refine lv_aload_n hx hb dL_law_2633 rfl (lv_at hl 3 rfl) ?_
  refine lv_iload_n hx hb dL_law_2634 rfl (lv_at hl 0 rfl) ?_
  refine lv_iconst (v := 1) hx hb dL_law_2635 (by decide) ?_
  refine lv_iadd hx hb dL_law_2636 ?_
  refine lv_topi (fun y_8 ey_8 => ?_)
  obtain rfl : y_8 = 1 := ey_8.trans (by decide)
  refine va_sld hx hb hX hbl hbA hS (by unfold vp_in; decide) dL_law_2637 ?_
  refine lv_aload_n hx hb dL_law_2638 rfl (lv_at hl 3 rfl) ?_
  refine lv_iload_n hx hb dL_law_2639 rfl (lv_at hl 0 rfl) ?_
  refine lv_iconst (v := 2) hx hb dL_law_2640 (by decide) ?_
  refine lv_iadd hx hb dL_law_2641 ?_
  refine lv_topi (fun y_9 ey_9 => ?_)
  obtain rfl : y_9 = 2 := ey_9.trans (by decide)
  refine va_sld hx hb hX hbl hbA hS (by unfold vp_in; decide) dL_law_2642 ?_
  refine lv_aload_n hx hb dL_law_2643 rfl (lv_at hl 3 rfl) ?_
  refine lv_iload_n hx hb dL_law_2644 rfl (lv_at hl 0 rfl) ?_
  refine lv_iconst (v := 3) hx hb dL_law_2645 (by decide) ?_
  refine lv_iadd hx hb dL_law_2646 ?_
  refine lv_topi (fun y_10 ey_10 => ?_)
  obtain rfl : y_10 = 3 := ey_10.trans (by decide)
  refine va_sld hx hb hX hbl hbA hS (by unfold vp_in; decide) dL_law_2647 ?_
  refine lv_aload_n hx hb dL_law_2648 rfl (lv_at hl 3 rfl) ?_
  refine lv_iload_n hx hb dL_law_2649 rfl (lv_at hl 0 rfl) ?_
  refine lv_iconst (v := 4) hx hb dL_law_2650 (by decide) ?_
  refine lv_iadd hx hb dL_law_2651 ?_
  refine lv_topi (fun y_11 ey_11 => ?_)
  obtain rfl : y_11 = 4 := ey_11.trans (by decide)
  refine va_sld hx hb hX hbl hbA hS (by unfold vp_in; decide) dL_law_2652 ?_
  refine lv_aload_n hx hb dL_law_2653 rfl (lv_at hl 3 rfl) ?_
  refine lv_iload_n hx hb dL_law_2654 rfl (lv_at hl 0 rfl) ?_
  refine lv_iconst (v := 5) hx hb dL_law_2655 (by decide) ?_
  refine lv_iadd hx hb dL_law_2656 ?_
  refine lv_topi (fun y_12 ey_12 => ?_)
  obtain rfl : y_12 = 5 := ey_12.trans (by decide)
  refine va_sld hx hb hX hbl hbA hS (by unfold vp_in; decide) dL_law_2657 ?_
  have hPc := hP.sub (ws' := [((g 0), .inr (9, [.int 0, .ref (g 1), .ref (g 2), .ref (g 3), .ref (g 4), .ref (g 5), .int 0, .int 0, .int 0, .int 0, .int 0, .long 0, .int 0, .int 0, .int 0, .int (-1), .ref (g 6), .ref (g 7), .ref (g 8), .ref (g 9), .ref (g 10), .ref (g 11), .int 0, .int 0, .int 0, .int 0, .int 0, .ref (g 12), .ref (g 13), .int 0, .ref (g 14), .ref (g 15), .long 0, .int 0, .int 0, .int 0, .ref (g 16), .ref (g 17)])), ((g 1), .inl (cI, 4, .inl fw))]) [31, 32] rfl
  have hDc := hD.sub (ws' := [((g 0), .inr (9, [.int 0, .ref (g 1), .ref (g 2), .ref (g 3), .ref (g 4), .ref (g 5), .int 0, .int 0, .int 0, .int 0, .int 0, .long 0, .int 0, .int 0, .int 0, .int (-1), .ref (g 6), .ref (g 7), .ref (g 8), .ref (g 9), .ref (g 10), .ref (g 11), .int 0, .int 0, .int 0, .int 0, .int 0, .ref (g 12), .ref (g 13), .int 0, .ref (g 14), .ref (g 15), .long 0, .int 0, .int 0, .int 0, .ref (g 16), .ref (g 17)])), ((g 1), .inl (cI, 4, .inl fw))]) [31, 32] (by decide) rfl
  have hFc := va_free (wc := [((g 0), .inr (9, [.int 0, .ref (g 1), .ref (g 2), .ref (g 3), .ref (g 4), .ref (g 5), .int 0, .int 0, .int 0, .int 0, .int 0, .long 0, .int 0, .int 0, .int 0, .int (-1), .ref (g 6), .ref (g 7), .ref (g 8), .ref (g 9), .ref (g 10), .ref (g 11), .int 0, .int 0, .int 0, .int 0, .int 0, .ref (g 12), .ref (g 13), .int 0, .ref (g 14), .ref (g 15), .long 0, .int 0, .int 0, .int 0, .ref (g 16), .ref (g 17)])), ((g 1), .inl (cI, 4, .inl fw))]) hD hS hA [31, 32] rfl
  refine va_calli (va_runV (As := [.int (xs (Int32.toNatClampNeg 1)), .int (xs (Int32.toNatClampNeg 2)), .int (xs (Int32.toNatClampNeg 3)), .int (xs (Int32.toNatClampNeg 4)), .int (xs (Int32.toNatClampNeg 5))]) (rest := [.int r_6]) ⟨hx, hb, hml, hown, ht⟩ (k_X9_paste l dC dI cB cI cJ cZ cL H.size g fw (xs (Int32.toNatClampNeg 1)) (xs (Int32.toNatClampNeg 2)) (xs (Int32.toNatClampNeg 3)) (xs (Int32.toNatClampNeg 4)) (xs (Int32.toNatClampNeg 5)) hfw) (cwV 5 ht (gV w_1396 w_1397 w_1398 w_114 w_1399) rfl rfl rfl (by decide +kernel) ⟨Nat.le_of_ble_eq_true rfl, Nat.le_of_ble_eq_true rfl⟩) (pVQ hK hPc hDc (ci := 9) (q0 := 0) rfl rfl) rfl rfl hl.1 rfl (lv_room (Nat.le_of_ble_eq_true rfl)) dL_law_2658 ⟨Nat.le_of_ble_eq_true rfl, Nat.le_of_ble_eq_true rfl⟩) hS (fun q _ h => hFc q h) hFc (fun r_13 u_14 t1 H1 locs ht1 hvm hw hB hz1 hk1 hS => ?_)
  obtain ⟨hP, hD⟩ := va_join (wr := [((a 0), .inr (8, [.ref (a 1), .ref (a 2), .ref (a 3), .ref (a 4), .ref (a 5), .ref (a 6), .ref (a 7), .ref (a 8), .ref (a 9), .ref (a 10), .ref (a 11), .ref (a 12), .ref (a 13), .ref (a 14), .int 0, .int (-1)])), ((a 1), .inr (5, [.ref (a 15), .int 0])), ((a 2), .inr (7, [.ref (a 16), .ref (a 17), .ref (a 18), .int 0])), ((a 3), .inr (6, [.int 0, .int 0, .int 0, .int 0, .int 0])), ((a 4), .inr (2, [.int 0, .int 0, .int 0, .int 0, .int 0, .int 0, .int 0, .int 0, .int 0, .ref (a 19), .ref (a 20), .ref (a 21), .ref (a 22), .ref (a 23), .ref (a 24), .ref (a 25), .ref (a 26)])), ((a 5), .inr (2, [.int 0, .int 0, .int 0, .int 0, .int 0, .int 0, .int 0, .int 0, .int 0, .ref (a 27), .ref (a 28), .ref (a 29), .ref (a 30), .ref (a 31), .ref (a 32), .ref (a 33), .ref (a 34)])), ((a 6), .inl (cL, 3, .inr (.inr (.inr (.inr (fun _ => none)))))), ((a 7), .inr (3, [.ref (a 35), .ref (a 36), .ref (a 37)])), ((a 15), .inl (cB, 500, .inl (fun _ => 0))), ((a 16), .inl (cI, 501, .inl (fun _ => 0))), ((a 17), .inl (cI, 501, .inl (fun _ => 0))), ((a 18), .inl (cI, 501, .inl (fun _ => 0))), ((a 19), .inl (cI, 5, .inl (fun _ => 0))), ((a 20), .inl (cI, 5, .inl (fun _ => 0))), ((a 21), .inl (cI, 5, .inl (fun _ => 0))), ((a 22), .inl (cI, 30, .inl (fun _ => 0))), ((a 23), .inl (cI, 30, .inl (fun _ => 0))), ((a 24), .inl (cI, 30, .inl (fun _ => 0))), ((a 25), .inl (cI, 5, .inl (fun _ => 0))), ((a 26), .inl (cI, 5, .inl (fun _ => 0))), ((a 27), .inl (cI, 5, .inl (fun _ => 0))), ((a 28), .inl (cI, 5, .inl (fun _ => 0))), ((a 29), .inl (cI, 5, .inl (fun _ => 0))), ((a 30), .inl (cI, 30, .inl (fun _ => 0))), ((a 31), .inl (cI, 30, .inl (fun _ => 0))), ((a 32), .inl (cI, 30, .inl (fun _ => 0))), ((a 33), .inl (cI, 5, .inl (fun _ => 0))), ((a 34), .inl (cI, 5, .inl (fun _ => 0))), ((a 35), .inl (cJ, 240, .inr (.inl (fun _ => 0)))), ((a 36), .inl (cI, 4, .inl (fun _ => 0))), ((a 37), .inl (cI, 4, .inl fz)), ((g 2), .inl (cI, 4, .inl (fun _ => 0))), ((g 3), .inl (cJ, 240, .inr (.inl (fun _ => 0)))), ((g 5), .inl (cB, 500, .inl (fun _ => 0))), ((g 6), .inl (cI, 5, .inl (fun _ => 0))), ((g 7), .inl (cI, 35, .inl (fun _ => 0))), ((g 8), .inl (cI, 75, .inl (fun _ => 0))), ((g 9), .inl (cI, 40, .inl (fun _ => 0))), ((g 10), .inl (cI, 450, .inl (fun _ => 0))), ((g 11), .inl (cZ, 3, .inl (fun _ => 0)))]) (w1 := []) hP hD [31, 32] [0, 1, 2, 3, 4, 5, 6, 7, 8, 9, 10, 11, 12, 13, 14, 15, 16, 17, 18, 19, 20, 21, 22, 23, 24, 25, 26, 27, 28, 29, 30, 33, 34, 35, 36, 37, 38, 39, 40, 41] rfl rfl (by decide) (by decide) hk1 hFc P_nil D_nil
  clear hFc hDc hPc
  generalize H1 = H at hP hS ⊢
  have hP : va_P (dC, dI) vwCl [((a 0), .inr (8, [.ref (a 1), .ref (a 2), .ref (a 3), .ref (a 4), .ref (a 5), .ref (a 6), .ref (a 7), .ref (a 8), .ref (a 9), .ref (a 10), .ref (a 11), .ref (a 12), .ref (a 13), .ref (a 14), .int 0, .int (-1)])), ((a 1), .inr (5, [.ref (a 15), .int 0])), ((a 2), .inr (7, [.ref (a 16), .ref (a 17), .ref (a 18), .int 0])), ((a 3), .inr (6, [.int 0, .int 0, .int 0, .int 0, .int 0])), ((a 4), .inr (2, [.int 0, .int 0, .int 0, .int 0, .int 0, .int 0, .int 0, .int 0, .int 0, .ref (a 19), .ref (a 20), .ref (a 21), .ref (a 22), .ref (a 23), .ref (a 24), .ref (a 25), .ref (a 26)])), ((a 5), .inr (2, [.int 0, .int 0, .int 0, .int 0, .int 0, .int 0, .int 0, .int 0, .int 0, .ref (a 27), .ref (a 28), .ref (a 29), .ref (a 30), .ref (a 31), .ref (a 32), .ref (a 33), .ref (a 34)])), ((a 6), .inl (cL, 3, .inr (.inr (.inr (.inr (fun _ => none)))))), ((a 7), .inr (3, [.ref (a 35), .ref (a 36), .ref (a 37)])), ((a 15), .inl (cB, 500, .inl (fun _ => 0))), ((a 16), .inl (cI, 501, .inl (fun _ => 0))), ((a 17), .inl (cI, 501, .inl (fun _ => 0))), ((a 18), .inl (cI, 501, .inl (fun _ => 0))), ((a 19), .inl (cI, 5, .inl (fun _ => 0))), ((a 20), .inl (cI, 5, .inl (fun _ => 0))), ((a 21), .inl (cI, 5, .inl (fun _ => 0))), ((a 22), .inl (cI, 30, .inl (fun _ => 0))), ((a 23), .inl (cI, 30, .inl (fun _ => 0))), ((a 24), .inl (cI, 30, .inl (fun _ => 0))), ((a 25), .inl (cI, 5, .inl (fun _ => 0))), ((a 26), .inl (cI, 5, .inl (fun _ => 0))), ((a 27), .inl (cI, 5, .inl (fun _ => 0))), ((a 28), .inl (cI, 5, .inl (fun _ => 0))), ((a 29), .inl (cI, 5, .inl (fun _ => 0))), ((a 30), .inl (cI, 30, .inl (fun _ => 0))), ((a 31), .inl (cI, 30, .inl (fun _ => 0))), ((a 32), .inl (cI, 30, .inl (fun _ => 0))), ((a 33), .inl (cI, 5, .inl (fun _ => 0))), ((a 34), .inl (cI, 5, .inl (fun _ => 0))), ((a 35), .inl (cJ, 240, .inr (.inl (fun _ => 0)))), ((a 36), .inl (cI, 4, .inl (fun _ => 0))), ((a 37), .inl (cI, 4, .inl fz)), ((g 2), .inl (cI, 4, .inl (fun _ => 0))), ((g 3), .inl (cJ, 240, .inr (.inl (fun _ => 0)))), ((g 5), .inl (cB, 500, .inl (fun _ => 0))), ((g 6), .inl (cI, 5, .inl (fun _ => 0))), ((g 7), .inl (cI, 35, .inl (fun _ => 0))), ((g 8), .inl (cI, 75, .inl (fun _ => 0))), ((g 9), .inl (cI, 40, .inl (fun _ => 0))), ((g 10), .inl (cI, 450, .inl (fun _ => 0))), ((g 11), .inl (cZ, 3, .inl (fun _ => 0)))] H := hP
  have hD : va_D (fun q : Nat => s.heap.size ≤ q) [((a 0), .inr (8, [.ref (a 1), .ref (a 2), .ref (a 3), .ref (a 4), .ref (a 5), .ref (a 6), .ref (a 7), .ref (a 8), .ref (a 9), .ref (a 10), .ref (a 11), .ref (a 12), .ref (a 13), .ref (a 14), .int 0, .int (-1)])), ((a 1), .inr (5, [.ref (a 15), .int 0])), ((a 2), .inr (7, [.ref (a 16), .ref (a 17), .ref (a 18), .int 0])), ((a 3), .inr (6, [.int 0, .int 0, .int 0, .int 0, .int 0])), ((a 4), .inr (2, [.int 0, .int 0, .int 0, .int 0, .int 0, .int 0, .int 0, .int 0, .int 0, .ref (a 19), .ref (a 20), .ref (a 21), .ref (a 22), .ref (a 23), .ref (a 24), .ref (a 25), .ref (a 26)])), ((a 5), .inr (2, [.int 0, .int 0, .int 0, .int 0, .int 0, .int 0, .int 0, .int 0, .int 0, .ref (a 27), .ref (a 28), .ref (a 29), .ref (a 30), .ref (a 31), .ref (a 32), .ref (a 33), .ref (a 34)])), ((a 6), .inl (cL, 3, .inr (.inr (.inr (.inr (fun _ => none)))))), ((a 7), .inr (3, [.ref (a 35), .ref (a 36), .ref (a 37)])), ((a 15), .inl (cB, 500, .inl (fun _ => 0))), ((a 16), .inl (cI, 501, .inl (fun _ => 0))), ((a 17), .inl (cI, 501, .inl (fun _ => 0))), ((a 18), .inl (cI, 501, .inl (fun _ => 0))), ((a 19), .inl (cI, 5, .inl (fun _ => 0))), ((a 20), .inl (cI, 5, .inl (fun _ => 0))), ((a 21), .inl (cI, 5, .inl (fun _ => 0))), ((a 22), .inl (cI, 30, .inl (fun _ => 0))), ((a 23), .inl (cI, 30, .inl (fun _ => 0))), ((a 24), .inl (cI, 30, .inl (fun _ => 0))), ((a 25), .inl (cI, 5, .inl (fun _ => 0))), ((a 26), .inl (cI, 5, .inl (fun _ => 0))), ((a 27), .inl (cI, 5, .inl (fun _ => 0))), ((a 28), .inl (cI, 5, .inl (fun _ => 0))), ((a 29), .inl (cI, 5, .inl (fun _ => 0))), ((a 30), .inl (cI, 30, .inl (fun _ => 0))), ((a 31), .inl (cI, 30, .inl (fun _ => 0))), ((a 32), .inl (cI, 30, .inl (fun _ => 0))), ((a 33), .inl (cI, 5, .inl (fun _ => 0))), ((a 34), .inl (cI, 5, .inl (fun _ => 0))), ((a 35), .inl (cJ, 240, .inr (.inl (fun _ => 0)))), ((a 36), .inl (cI, 4, .inl (fun _ => 0))), ((a 37), .inl (cI, 4, .inl fz)), ((g 2), .inl (cI, 4, .inl (fun _ => 0))), ((g 3), .inl (cJ, 240, .inr (.inl (fun _ => 0)))), ((g 5), .inl (cB, 500, .inl (fun _ => 0))), ((g 6), .inl (cI, 5, .inl (fun _ => 0))), ((g 7), .inl (cI, 35, .inl (fun _ => 0))), ((g 8), .inl (cI, 75, .inl (fun _ => 0))), ((g 9), .inl (cI, 40, .inl (fun _ => 0))), ((g 10), .inl (cI, 450, .inl (fun _ => 0))), ((g 11), .inl (cZ, 3, .inl (fun _ => 0)))] := hD
  have hw_15 := hw
  refine lv_icmp_eq (tgt := 2666) hx hb dL_law_2661 (by decide) (fun _ => ?_) (fun c9 => absurd (PPas_fn hw_7 hw_15) c9)
  exact lw_end C0 hS (Nat.le_of_ble_eq_true rfl) (Nat.le_of_ble_eq_true rfl) (lv_sub hl [0, 1, 2, 3] rfl)
