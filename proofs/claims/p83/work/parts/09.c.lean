set_option maxHeartbeats 8000000 in
set_option maxRecDepth 100000 in
theorem lw_loop {p : Program} {l : Launch} {e : Env} {s : State} {m : MethodId} {below : List Frame} {meth : Method} {c : Code} {b L : Nat} {xs : Nat → Int32} {dC : Nat → ClassId} {dI : Nat → Nat → Nat} {cB cI cJ cZ cL : ClassId} (C0 : lw_At p s m meth c b L xs) (hN : NW s) (hK : va_K (dC, dI) vwCl (tyL cB cI cJ cZ cL) s) {a g adK adV : Nat → Nat} (hV : SW adK adV (fun q : Nat => s.heap.size ≤ q) s s.heap) (hL : L ≤ 3072) : ∀ (d n : Nat), 513 ≤ n + d → n ≤ 512 → ∀ (i : Int32) (u : XT) (v : MT) (T : va_W) (H : Heap) (locs : List Loc) (ls : Array Slot), Int32.toInt i = 6 * ((n : Nat) : Int) → XI cB cI cJ cZ cL u T → MI v → JI (XSf u) (MSf v) → va_P (dC, dI) vwCl (WX a cB cI cJ cZ cL u ++ (WM g cB cI cJ cZ cL v ++ T)) H → va_D (fun q : Nat => s.heap.size ≤ q) (WX a cB cI cJ cZ cL u ++ (WM g cB cI cJ cZ cL v ++ T)) → va_S (fun q : Nat => s.heap.size ≤ q) s.heap H locs → lv_has ls 4 [(3, .int i), (2, .ref (g 0)), (1, .ref (a 0)), (0, .ref b)] → W p l e room_1 s m #[Value.ref b] below meth c H locs (200 + 9 * (n)) (10000 + 132 * (n)) (lw_Z below #[Value.ref b] s) (F0 m 18 ls []) := by
  obtain ⟨hx, hb, hr, hml, hown, hts, hX, hbl, hlocks, hgv⟩ := id C0
  have ht : ∀ w ∈ lw_ok, w.before #[Value.ref b] s = true := fun w h => hts w (List.mem_filter.mp h).1
  have hbA : ¬ (fun q : Nat => s.heap.size ≤ q) b := Nat.not_le.mpr hbl
  intro d
  induction d with
  | zero => intro n h1 h2; exfalso; omega
  | succ d ih =>
    intro n h1 h2 i u v T H locs ls hi hXI hMI hJ hP hD hS hl
    refine lv_iload_n hx hb dL_law_18 rfl (lv_at hl 0 rfl) ?_
    refine lv_aload_n hx hb dL_law_19 rfl (lv_at hl 3 rfl) ?_
    refine va_slen hx hb hX hbl hbA hS dL_law_20 ?_
    refine lv_bipush (v := 6) hx hb dL_law_21 (by decide) ?_
    refine lv_isub hx hb dL_law_23 ?_
    refine lv_topi (fun y ey => ?_)
    have ty := isubF ey
    simp only [T6, slF hL] at ty
    refine lv_icmp_gt (tgt := 2666) hx hb dL_law_24 (by decide) (fun cg => ?_) (fun cg => ?_)
    · refine lv_iconst (v := 1) hx hb dL_law_2666 (by decide) ?_
      refine va_forget (fun q hq => hS.2.2 q hq) ?_
      refine W.widen (k := 600000) (n := 7302249) (by omega) (by omega) ?_
      exact lw_ret hx hb hr hlocks dL_law_2667
    · (try simp only [i_lt, i_le, i_eq] at cg)
      have hiL : 6 * n + 6 ≤ L := by omega
      have hn : n ≤ 511 := by omega
      refine lv_aload_n hx hb dL_law_27 rfl (lv_at hl 3 rfl) ?_
      refine lv_iload_n hx hb dL_law_28 rfl (lv_at hl 0 rfl) ?_
      refine va_sld hx hb hX hbl hbA hS (vp_in_iff.mpr (by omega)) dL_law_29 ?_
      refine lv_bipush (v := 127) hx hb dL_law_30 (by decide) ?_
      refine lv_iand hx hb dL_law_32 ?_
      obtain ⟨j, hj, ej⟩ := pk_andE (xs (Int32.toNatClampNeg i)) (m := 127) 7 (by decide)
      rw [ej]
      exact lw_sw C0 hN hK hV hn hi hiL hXI hMI hJ hP hD hS hl (fun i u v T H locs ls hi hXI hMI hJ hP hD hS hl => ih (n + 1) (by omega) (by omega) i u v T H locs ls hi hXI hMI hJ hP hD hS hl) hj
