set_option maxHeartbeats 4000000 in
set_option maxRecDepth 100000 in
theorem lw_sw_0 {p : Program} {l : Launch} {e : Env} {s : State} {m : MethodId} {below : List Frame} {meth : Method} {c : Code} {b : Nat} {xs : Nat → Int32} {dC : Nat → ClassId} {dI : Nat → Nat → Nat} {cB cI cJ cZ cL : ClassId} {a g : Nat → Nat} {fz fw : Nat → Int32} (hfz : ∀ j, j < 4 → fz j = -1) (hfw : ∀ j, j < 4 → fw j = -1) (C0 : lw_At p s m meth c b 6 xs) (hN : NW s) (hK : va_K (dC, dI) vwCl (tyL cB cI cJ cZ cL) s) {H : Heap} {locs : List Loc} (hP : va_P (dC, dI) vwCl (wXM a g fz fw cB cI cJ cZ cL) H) (hD : va_D (fun q : Nat => s.heap.size ≤ q) (wXM a g fz fw cB cI cJ cZ cL)) (hS : va_S (fun q : Nat => s.heap.size ≤ q) s.heap H locs) {ls : Array Slot} (hl : lv_has ls 4 [(3, .int 0), (2, .ref (g 0)), (1, .ref (a 0)), (0, .ref b)]) : W p l e room_1 s m #[Value.ref b] below meth c H locs 122 7554 (lw_Z below #[Value.ref b] s) (F0 m 33 ls [.int (nI 0)]) :=
  lv_tableIn (off := 359) (tgt := 392) C0.1 C0.2.1 dL_law_33 (by decide) (by decide) (by decide) (by decide) (lw_case_0 (a := a) (g := g) hfz hfw C0 hN hK hP hD hS hl)
set_option maxHeartbeats 4000000 in
set_option maxRecDepth 100000 in
theorem lw_sw_1 {p : Program} {l : Launch} {e : Env} {s : State} {m : MethodId} {below : List Frame} {meth : Method} {c : Code} {b : Nat} {xs : Nat → Int32} {dC : Nat → ClassId} {dI : Nat → Nat → Nat} {cB cI cJ cZ cL : ClassId} {a g : Nat → Nat} {fz fw : Nat → Int32} (hfz : ∀ j, j < 4 → fz j = -1) (hfw : ∀ j, j < 4 → fw j = -1) (C0 : lw_At p s m meth c b 6 xs) (hN : NW s) (hK : va_K (dC, dI) vwCl (tyL cB cI cJ cZ cL) s) {H : Heap} {locs : List Loc} (hP : va_P (dC, dI) vwCl (wXM a g fz fw cB cI cJ cZ cL) H) (hD : va_D (fun q : Nat => s.heap.size ≤ q) (wXM a g fz fw cB cI cJ cZ cL)) (hS : va_S (fun q : Nat => s.heap.size ≤ q) s.heap H locs) {ls : Array Slot} (hl : lv_has ls 4 [(3, .int 0), (2, .ref (g 0)), (1, .ref (a 0)), (0, .ref b)]) : W p l e room_1 s m #[Value.ref b] below meth c H locs 122 7554 (lw_Z below #[Value.ref b] s) (F0 m 33 ls [.int (nI 1)]) :=
  lv_tableIn (off := 422) (tgt := 455) C0.1 C0.2.1 dL_law_33 (by decide) (by decide) (by decide) (by decide) (lw_case_1 (a := a) (g := g) hfz hfw C0 hN hK hP hD hS hl)
set_option maxHeartbeats 4000000 in
set_option maxRecDepth 100000 in
theorem lw_sw_2 {p : Program} {l : Launch} {e : Env} {s : State} {m : MethodId} {below : List Frame} {meth : Method} {c : Code} {b : Nat} {xs : Nat → Int32} {dC : Nat → ClassId} {dI : Nat → Nat → Nat} {cB cI cJ cZ cL : ClassId} {a g : Nat → Nat} {fz fw : Nat → Int32} (hfz : ∀ j, j < 4 → fz j = -1) (hfw : ∀ j, j < 4 → fw j = -1) (C0 : lw_At p s m meth c b 6 xs) (hN : NW s) (hK : va_K (dC, dI) vwCl (tyL cB cI cJ cZ cL) s) {H : Heap} {locs : List Loc} (hP : va_P (dC, dI) vwCl (wXM a g fz fw cB cI cJ cZ cL) H) (hD : va_D (fun q : Nat => s.heap.size ≤ q) (wXM a g fz fw cB cI cJ cZ cL)) (hS : va_S (fun q : Nat => s.heap.size ≤ q) s.heap H locs) {ls : Array Slot} (hl : lv_has ls 4 [(3, .int 0), (2, .ref (g 0)), (1, .ref (a 0)), (0, .ref b)]) : W p l e room_1 s m #[Value.ref b] below meth c H locs 122 7554 (lw_Z below #[Value.ref b] s) (F0 m 33 ls [.int (nI 2)]) :=
  lv_tableIn (off := 445) (tgt := 478) C0.1 C0.2.1 dL_law_33 (by decide) (by decide) (by decide) (by decide) (lw_case_2 (a := a) (g := g) hfz hfw C0 hN hK hP hD hS hl)
set_option maxHeartbeats 4000000 in
set_option maxRecDepth 100000 in
theorem lw_sw_3 {p : Program} {l : Launch} {e : Env} {s : State} {m : MethodId} {below : List Frame} {meth : Method} {c : Code} {b : Nat} {xs : Nat → Int32} {dC : Nat → ClassId} {dI : Nat → Nat → Nat} {cB cI cJ cZ cL : ClassId} {a g : Nat → Nat} {fz fw : Nat → Int32} (hfz : ∀ j, j < 4 → fz j = -1) (hfw : ∀ j, j < 4 → fw j = -1) (C0 : lw_At p s m meth c b 6 xs) (hN : NW s) (hK : va_K (dC, dI) vwCl (tyL cB cI cJ cZ cL) s) {H : Heap} {locs : List Loc} (hP : va_P (dC, dI) vwCl (wXM a g fz fw cB cI cJ cZ cL) H) (hD : va_D (fun q : Nat => s.heap.size ≤ q) (wXM a g fz fw cB cI cJ cZ cL)) (hS : va_S (fun q : Nat => s.heap.size ≤ q) s.heap H locs) {ls : Array Slot} (hl : lv_has ls 4 [(3, .int 0), (2, .ref (g 0)), (1, .ref (a 0)), (0, .ref b)]) : W p l e room_1 s m #[Value.ref b] below meth c H locs 122 7554 (lw_Z below #[Value.ref b] s) (F0 m 33 ls [.int (nI 3)]) :=
  lv_tableIn (off := 458) (tgt := 491) C0.1 C0.2.1 dL_law_33 (by decide) (by decide) (by decide) (by decide) (lw_case_3 (a := a) (g := g) hfz hfw C0 hN hK hP hD hS hl)
set_option maxHeartbeats 4000000 in
set_option maxRecDepth 100000 in
theorem lw_sw_4 {p : Program} {l : Launch} {e : Env} {s : State} {m : MethodId} {below : List Frame} {meth : Method} {c : Code} {b : Nat} {xs : Nat → Int32} {dC : Nat → ClassId} {dI : Nat → Nat → Nat} {cB cI cJ cZ cL : ClassId} {a g : Nat → Nat} {fz fw : Nat → Int32} (hfz : ∀ j, j < 4 → fz j = -1) (hfw : ∀ j, j < 4 → fw j = -1) (C0 : lw_At p s m meth c b 6 xs) (hN : NW s) (hK : va_K (dC, dI) vwCl (tyL cB cI cJ cZ cL) s) {H : Heap} {locs : List Loc} (hP : va_P (dC, dI) vwCl (wXM a g fz fw cB cI cJ cZ cL) H) (hD : va_D (fun q : Nat => s.heap.size ≤ q) (wXM a g fz fw cB cI cJ cZ cL)) (hS : va_S (fun q : Nat => s.heap.size ≤ q) s.heap H locs) {ls : Array Slot} (hl : lv_has ls 4 [(3, .int 0), (2, .ref (g 0)), (1, .ref (a 0)), (0, .ref b)]) : W p l e room_1 s m #[Value.ref b] below meth c H locs 122 7554 (lw_Z below #[Value.ref b] s) (F0 m 33 ls [.int (nI 4)]) :=
  lv_tableIn (off := 481) (tgt := 514) C0.1 C0.2.1 dL_law_33 (by decide) (by decide) (by decide) (by decide) (lw_case_4 (a := a) (g := g) hfz hfw C0 hN hK hP hD hS hl)
set_option maxHeartbeats 4000000 in
set_option maxRecDepth 100000 in
theorem lw_sw_5 {p : Program} {l : Launch} {e : Env} {s : State} {m : MethodId} {below : List Frame} {meth : Method} {c : Code} {b : Nat} {xs : Nat → Int32} {dC : Nat → ClassId} {dI : Nat → Nat → Nat} {cB cI cJ cZ cL : ClassId} {a g : Nat → Nat} {fz fw : Nat → Int32} (hfz : ∀ j, j < 4 → fz j = -1) (hfw : ∀ j, j < 4 → fw j = -1) (C0 : lw_At p s m meth c b 6 xs) (hN : NW s) (hK : va_K (dC, dI) vwCl (tyL cB cI cJ cZ cL) s) {H : Heap} {locs : List Loc} (hP : va_P (dC, dI) vwCl (wXM a g fz fw cB cI cJ cZ cL) H) (hD : va_D (fun q : Nat => s.heap.size ≤ q) (wXM a g fz fw cB cI cJ cZ cL)) (hS : va_S (fun q : Nat => s.heap.size ≤ q) s.heap H locs) {ls : Array Slot} (hl : lv_has ls 4 [(3, .int 0), (2, .ref (g 0)), (1, .ref (a 0)), (0, .ref b)]) : W p l e room_1 s m #[Value.ref b] below meth c H locs 122 7554 (lw_Z below #[Value.ref b] s) (F0 m 33 ls [.int (nI 5)]) :=
  lv_tableIn (off := 514) (tgt := 547) C0.1 C0.2.1 dL_law_33 (by decide) (by decide) (by decide) (by decide) (lw_case_5 (a := a) (g := g) hfz hfw C0 hN hK hP hD hS hl)
set_option maxHeartbeats 4000000 in
set_option maxRecDepth 100000 in
theorem lw_sw_6 {p : Program} {l : Launch} {e : Env} {s : State} {m : MethodId} {below : List Frame} {meth : Method} {c : Code} {b : Nat} {xs : Nat → Int32} {dC : Nat → ClassId} {dI : Nat → Nat → Nat} {cB cI cJ cZ cL : ClassId} {a g : Nat → Nat} {fz fw : Nat → Int32} (hfz : ∀ j, j < 4 → fz j = -1) (hfw : ∀ j, j < 4 → fw j = -1) (C0 : lw_At p s m meth c b 6 xs) (hN : NW s) (hK : va_K (dC, dI) vwCl (tyL cB cI cJ cZ cL) s) {H : Heap} {locs : List Loc} (hP : va_P (dC, dI) vwCl (wXM a g fz fw cB cI cJ cZ cL) H) (hD : va_D (fun q : Nat => s.heap.size ≤ q) (wXM a g fz fw cB cI cJ cZ cL)) (hS : va_S (fun q : Nat => s.heap.size ≤ q) s.heap H locs) {ls : Array Slot} (hl : lv_has ls 4 [(3, .int 0), (2, .ref (g 0)), (1, .ref (a 0)), (0, .ref b)]) : W p l e room_1 s m #[Value.ref b] below meth c H locs 122 7554 (lw_Z below #[Value.ref b] s) (F0 m 33 ls [.int (nI 6)]) :=
  lv_tableIn (off := 527) (tgt := 560) C0.1 C0.2.1 dL_law_33 (by decide) (by decide) (by decide) (by decide) (lw_case_6 (a := a) (g := g) hfz hfw C0 hN hK hP hD hS hl)
set_option maxHeartbeats 4000000 in
set_option maxRecDepth 100000 in
theorem lw_sw_7 {p : Program} {l : Launch} {e : Env} {s : State} {m : MethodId} {below : List Frame} {meth : Method} {c : Code} {b : Nat} {xs : Nat → Int32} {dC : Nat → ClassId} {dI : Nat → Nat → Nat} {cB cI cJ cZ cL : ClassId} {a g : Nat → Nat} {fz fw : Nat → Int32} (hfz : ∀ j, j < 4 → fz j = -1) (hfw : ∀ j, j < 4 → fw j = -1) (C0 : lw_At p s m meth c b 6 xs) (hN : NW s) (hK : va_K (dC, dI) vwCl (tyL cB cI cJ cZ cL) s) {H : Heap} {locs : List Loc} (hP : va_P (dC, dI) vwCl (wXM a g fz fw cB cI cJ cZ cL) H) (hD : va_D (fun q : Nat => s.heap.size ≤ q) (wXM a g fz fw cB cI cJ cZ cL)) (hS : va_S (fun q : Nat => s.heap.size ≤ q) s.heap H locs) {ls : Array Slot} (hl : lv_has ls 4 [(3, .int 0), (2, .ref (g 0)), (1, .ref (a 0)), (0, .ref b)]) : W p l e room_1 s m #[Value.ref b] below meth c H locs 122 7554 (lw_Z below #[Value.ref b] s) (F0 m 33 ls [.int (nI 7)]) :=
  lv_tableIn (off := 540) (tgt := 573) C0.1 C0.2.1 dL_law_33 (by decide) (by decide) (by decide) (by decide) (lw_case_7 (a := a) (g := g) hfz hfw C0 hN hK hP hD hS hl)
set_option maxHeartbeats 4000000 in
set_option maxRecDepth 100000 in
theorem lw_sw_8 {p : Program} {l : Launch} {e : Env} {s : State} {m : MethodId} {below : List Frame} {meth : Method} {c : Code} {b : Nat} {xs : Nat → Int32} {dC : Nat → ClassId} {dI : Nat → Nat → Nat} {cB cI cJ cZ cL : ClassId} {a g : Nat → Nat} {fz fw : Nat → Int32} (hfz : ∀ j, j < 4 → fz j = -1) (hfw : ∀ j, j < 4 → fw j = -1) (C0 : lw_At p s m meth c b 6 xs) (hN : NW s) (hK : va_K (dC, dI) vwCl (tyL cB cI cJ cZ cL) s) {H : Heap} {locs : List Loc} (hP : va_P (dC, dI) vwCl (wXM a g fz fw cB cI cJ cZ cL) H) (hD : va_D (fun q : Nat => s.heap.size ≤ q) (wXM a g fz fw cB cI cJ cZ cL)) (hS : va_S (fun q : Nat => s.heap.size ≤ q) s.heap H locs) {ls : Array Slot} (hl : lv_has ls 4 [(3, .int 0), (2, .ref (g 0)), (1, .ref (a 0)), (0, .ref b)]) : W p l e room_1 s m #[Value.ref b] below meth c H locs 122 7554 (lw_Z below #[Value.ref b] s) (F0 m 33 ls [.int (nI 8)]) :=
  lv_tableIn (off := 573) (tgt := 606) C0.1 C0.2.1 dL_law_33 (by decide) (by decide) (by decide) (by decide) (lw_case_8 (a := a) (g := g) hfz hfw C0 hN hK hP hD hS hl)
set_option maxHeartbeats 4000000 in
set_option maxRecDepth 100000 in
theorem lw_sw_9 {p : Program} {l : Launch} {e : Env} {s : State} {m : MethodId} {below : List Frame} {meth : Method} {c : Code} {b : Nat} {xs : Nat → Int32} {dC : Nat → ClassId} {dI : Nat → Nat → Nat} {cB cI cJ cZ cL : ClassId} {a g : Nat → Nat} {fz fw : Nat → Int32} (hfz : ∀ j, j < 4 → fz j = -1) (hfw : ∀ j, j < 4 → fw j = -1) (C0 : lw_At p s m meth c b 6 xs) (hN : NW s) (hK : va_K (dC, dI) vwCl (tyL cB cI cJ cZ cL) s) {H : Heap} {locs : List Loc} (hP : va_P (dC, dI) vwCl (wXM a g fz fw cB cI cJ cZ cL) H) (hD : va_D (fun q : Nat => s.heap.size ≤ q) (wXM a g fz fw cB cI cJ cZ cL)) (hS : va_S (fun q : Nat => s.heap.size ≤ q) s.heap H locs) {ls : Array Slot} (hl : lv_has ls 4 [(3, .int 0), (2, .ref (g 0)), (1, .ref (a 0)), (0, .ref b)]) : W p l e room_1 s m #[Value.ref b] below meth c H locs 122 7554 (lw_Z below #[Value.ref b] s) (F0 m 33 ls [.int (nI 9)]) :=
  lv_tableIn (off := 596) (tgt := 629) C0.1 C0.2.1 dL_law_33 (by decide) (by decide) (by decide) (by decide) (lw_case_9 (a := a) (g := g) hfz hfw C0 hN hK hP hD hS hl)
set_option maxHeartbeats 4000000 in
set_option maxRecDepth 100000 in
theorem lw_sw_10 {p : Program} {l : Launch} {e : Env} {s : State} {m : MethodId} {below : List Frame} {meth : Method} {c : Code} {b : Nat} {xs : Nat → Int32} {dC : Nat → ClassId} {dI : Nat → Nat → Nat} {cB cI cJ cZ cL : ClassId} {a g : Nat → Nat} {fz fw : Nat → Int32} (hfz : ∀ j, j < 4 → fz j = -1) (hfw : ∀ j, j < 4 → fw j = -1) (C0 : lw_At p s m meth c b 6 xs) (hN : NW s) (hK : va_K (dC, dI) vwCl (tyL cB cI cJ cZ cL) s) {H : Heap} {locs : List Loc} (hP : va_P (dC, dI) vwCl (wXM a g fz fw cB cI cJ cZ cL) H) (hD : va_D (fun q : Nat => s.heap.size ≤ q) (wXM a g fz fw cB cI cJ cZ cL)) (hS : va_S (fun q : Nat => s.heap.size ≤ q) s.heap H locs) {ls : Array Slot} (hl : lv_has ls 4 [(3, .int 0), (2, .ref (g 0)), (1, .ref (a 0)), (0, .ref b)]) : W p l e room_1 s m #[Value.ref b] below meth c H locs 122 7554 (lw_Z below #[Value.ref b] s) (F0 m 33 ls [.int (nI 10)]) :=
  lv_tableIn (off := 630) (tgt := 663) C0.1 C0.2.1 dL_law_33 (by decide) (by decide) (by decide) (by decide) (lw_case_10 (a := a) (g := g) hfz hfw C0 hN hK hP hD hS hl)
set_option maxHeartbeats 4000000 in
set_option maxRecDepth 100000 in
theorem lw_sw_11 {p : Program} {l : Launch} {e : Env} {s : State} {m : MethodId} {below : List Frame} {meth : Method} {c : Code} {b : Nat} {xs : Nat → Int32} {dC : Nat → ClassId} {dI : Nat → Nat → Nat} {cB cI cJ cZ cL : ClassId} {a g : Nat → Nat} {fz fw : Nat → Int32} (hfz : ∀ j, j < 4 → fz j = -1) (hfw : ∀ j, j < 4 → fw j = -1) (C0 : lw_At p s m meth c b 6 xs) (hN : NW s) (hK : va_K (dC, dI) vwCl (tyL cB cI cJ cZ cL) s) {H : Heap} {locs : List Loc} (hP : va_P (dC, dI) vwCl (wXM a g fz fw cB cI cJ cZ cL) H) (hD : va_D (fun q : Nat => s.heap.size ≤ q) (wXM a g fz fw cB cI cJ cZ cL)) (hS : va_S (fun q : Nat => s.heap.size ≤ q) s.heap H locs) {ls : Array Slot} (hl : lv_has ls 4 [(3, .int 0), (2, .ref (g 0)), (1, .ref (a 0)), (0, .ref b)]) : W p l e room_1 s m #[Value.ref b] below meth c H locs 122 7554 (lw_Z below #[Value.ref b] s) (F0 m 33 ls [.int (nI 11)]) :=
  lv_tableIn (off := 664) (tgt := 697) C0.1 C0.2.1 dL_law_33 (by decide) (by decide) (by decide) (by decide) (lw_case_11 (a := a) (g := g) hfz hfw C0 hN hK hP hD hS hl)
set_option maxHeartbeats 4000000 in
set_option maxRecDepth 100000 in
theorem lw_sw_12 {p : Program} {l : Launch} {e : Env} {s : State} {m : MethodId} {below : List Frame} {meth : Method} {c : Code} {b : Nat} {xs : Nat → Int32} {dC : Nat → ClassId} {dI : Nat → Nat → Nat} {cB cI cJ cZ cL : ClassId} {a g : Nat → Nat} {fz fw : Nat → Int32} (hfz : ∀ j, j < 4 → fz j = -1) (hfw : ∀ j, j < 4 → fw j = -1) (C0 : lw_At p s m meth c b 6 xs) (hN : NW s) (hK : va_K (dC, dI) vwCl (tyL cB cI cJ cZ cL) s) {H : Heap} {locs : List Loc} (hP : va_P (dC, dI) vwCl (wXM a g fz fw cB cI cJ cZ cL) H) (hD : va_D (fun q : Nat => s.heap.size ≤ q) (wXM a g fz fw cB cI cJ cZ cL)) (hS : va_S (fun q : Nat => s.heap.size ≤ q) s.heap H locs) {ls : Array Slot} (hl : lv_has ls 4 [(3, .int 0), (2, .ref (g 0)), (1, .ref (a 0)), (0, .ref b)]) : W p l e room_1 s m #[Value.ref b] below meth c H locs 122 7554 (lw_Z below #[Value.ref b] s) (F0 m 33 ls [.int (nI 12)]) :=
  lv_tableIn (off := 708) (tgt := 741) C0.1 C0.2.1 dL_law_33 (by decide) (by decide) (by decide) (by decide) (lw_case_12 (a := a) (g := g) hfz hfw C0 hN hK hP hD hS hl)
set_option maxHeartbeats 4000000 in
set_option maxRecDepth 100000 in
theorem lw_sw_13 {p : Program} {l : Launch} {e : Env} {s : State} {m : MethodId} {below : List Frame} {meth : Method} {c : Code} {b : Nat} {xs : Nat → Int32} {dC : Nat → ClassId} {dI : Nat → Nat → Nat} {cB cI cJ cZ cL : ClassId} {a g : Nat → Nat} {fz fw : Nat → Int32} (hfz : ∀ j, j < 4 → fz j = -1) (hfw : ∀ j, j < 4 → fw j = -1) (C0 : lw_At p s m meth c b 6 xs) (hN : NW s) (hK : va_K (dC, dI) vwCl (tyL cB cI cJ cZ cL) s) {H : Heap} {locs : List Loc} (hP : va_P (dC, dI) vwCl (wXM a g fz fw cB cI cJ cZ cL) H) (hD : va_D (fun q : Nat => s.heap.size ≤ q) (wXM a g fz fw cB cI cJ cZ cL)) (hS : va_S (fun q : Nat => s.heap.size ≤ q) s.heap H locs) {ls : Array Slot} (hl : lv_has ls 4 [(3, .int 0), (2, .ref (g 0)), (1, .ref (a 0)), (0, .ref b)]) : W p l e room_1 s m #[Value.ref b] below meth c H locs 122 7554 (lw_Z below #[Value.ref b] s) (F0 m 33 ls [.int (nI 13)]) :=
  lv_tableIn (off := 741) (tgt := 774) C0.1 C0.2.1 dL_law_33 (by decide) (by decide) (by decide) (by decide) (lw_case_13 (a := a) (g := g) hfz hfw C0 hN hK hP hD hS hl)
set_option maxHeartbeats 4000000 in
set_option maxRecDepth 100000 in
theorem lw_sw_14 {p : Program} {l : Launch} {e : Env} {s : State} {m : MethodId} {below : List Frame} {meth : Method} {c : Code} {b : Nat} {xs : Nat → Int32} {dC : Nat → ClassId} {dI : Nat → Nat → Nat} {cB cI cJ cZ cL : ClassId} {a g : Nat → Nat} {fz fw : Nat → Int32} (hfz : ∀ j, j < 4 → fz j = -1) (hfw : ∀ j, j < 4 → fw j = -1) (C0 : lw_At p s m meth c b 6 xs) (hN : NW s) (hK : va_K (dC, dI) vwCl (tyL cB cI cJ cZ cL) s) {H : Heap} {locs : List Loc} (hP : va_P (dC, dI) vwCl (wXM a g fz fw cB cI cJ cZ cL) H) (hD : va_D (fun q : Nat => s.heap.size ≤ q) (wXM a g fz fw cB cI cJ cZ cL)) (hS : va_S (fun q : Nat => s.heap.size ≤ q) s.heap H locs) {ls : Array Slot} (hl : lv_has ls 4 [(3, .int 0), (2, .ref (g 0)), (1, .ref (a 0)), (0, .ref b)]) : W p l e room_1 s m #[Value.ref b] below meth c H locs 122 7554 (lw_Z below #[Value.ref b] s) (F0 m 33 ls [.int (nI 14)]) :=
  lv_tableIn (off := 785) (tgt := 818) C0.1 C0.2.1 dL_law_33 (by decide) (by decide) (by decide) (by decide) (lw_case_14 (a := a) (g := g) hfz hfw C0 hN hK hP hD hS hl)
set_option maxHeartbeats 4000000 in
set_option maxRecDepth 100000 in
theorem lw_sw_15 {p : Program} {l : Launch} {e : Env} {s : State} {m : MethodId} {below : List Frame} {meth : Method} {c : Code} {b : Nat} {xs : Nat → Int32} {dC : Nat → ClassId} {dI : Nat → Nat → Nat} {cB cI cJ cZ cL : ClassId} {a g : Nat → Nat} {fz fw : Nat → Int32} (hfz : ∀ j, j < 4 → fz j = -1) (hfw : ∀ j, j < 4 → fw j = -1) (C0 : lw_At p s m meth c b 6 xs) (hN : NW s) (hK : va_K (dC, dI) vwCl (tyL cB cI cJ cZ cL) s) {H : Heap} {locs : List Loc} (hP : va_P (dC, dI) vwCl (wXM a g fz fw cB cI cJ cZ cL) H) (hD : va_D (fun q : Nat => s.heap.size ≤ q) (wXM a g fz fw cB cI cJ cZ cL)) (hS : va_S (fun q : Nat => s.heap.size ≤ q) s.heap H locs) {ls : Array Slot} (hl : lv_has ls 4 [(3, .int 0), (2, .ref (g 0)), (1, .ref (a 0)), (0, .ref b)]) : W p l e room_1 s m #[Value.ref b] below meth c H locs 122 7554 (lw_Z below #[Value.ref b] s) (F0 m 33 ls [.int (nI 15)]) :=
  lv_tableIn (off := 829) (tgt := 862) C0.1 C0.2.1 dL_law_33 (by decide) (by decide) (by decide) (by decide) (lw_case_15 (a := a) (g := g) hfz hfw C0 hN hK hP hD hS hl)
set_option maxHeartbeats 4000000 in
set_option maxRecDepth 100000 in
theorem lw_sw_16 {p : Program} {l : Launch} {e : Env} {s : State} {m : MethodId} {below : List Frame} {meth : Method} {c : Code} {b : Nat} {xs : Nat → Int32} {dC : Nat → ClassId} {dI : Nat → Nat → Nat} {cB cI cJ cZ cL : ClassId} {a g : Nat → Nat} {fz fw : Nat → Int32} (hfz : ∀ j, j < 4 → fz j = -1) (hfw : ∀ j, j < 4 → fw j = -1) (C0 : lw_At p s m meth c b 6 xs) (hN : NW s) (hK : va_K (dC, dI) vwCl (tyL cB cI cJ cZ cL) s) {H : Heap} {locs : List Loc} (hP : va_P (dC, dI) vwCl (wXM a g fz fw cB cI cJ cZ cL) H) (hD : va_D (fun q : Nat => s.heap.size ≤ q) (wXM a g fz fw cB cI cJ cZ cL)) (hS : va_S (fun q : Nat => s.heap.size ≤ q) s.heap H locs) {ls : Array Slot} (hl : lv_has ls 4 [(3, .int 0), (2, .ref (g 0)), (1, .ref (a 0)), (0, .ref b)]) : W p l e room_1 s m #[Value.ref b] below meth c H locs 122 7554 (lw_Z below #[Value.ref b] s) (F0 m 33 ls [.int (nI 16)]) :=
  lv_tableIn (off := 852) (tgt := 885) C0.1 C0.2.1 dL_law_33 (by decide) (by decide) (by decide) (by decide) (lw_case_16 (a := a) (g := g) hfz hfw C0 hN hK hP hD hS hl)
set_option maxHeartbeats 4000000 in
set_option maxRecDepth 100000 in
theorem lw_sw_17 {p : Program} {l : Launch} {e : Env} {s : State} {m : MethodId} {below : List Frame} {meth : Method} {c : Code} {b : Nat} {xs : Nat → Int32} {dC : Nat → ClassId} {dI : Nat → Nat → Nat} {cB cI cJ cZ cL : ClassId} {a g : Nat → Nat} {fz fw : Nat → Int32} (hfz : ∀ j, j < 4 → fz j = -1) (hfw : ∀ j, j < 4 → fw j = -1) (C0 : lw_At p s m meth c b 6 xs) (hN : NW s) (hK : va_K (dC, dI) vwCl (tyL cB cI cJ cZ cL) s) {H : Heap} {locs : List Loc} (hP : va_P (dC, dI) vwCl (wXM a g fz fw cB cI cJ cZ cL) H) (hD : va_D (fun q : Nat => s.heap.size ≤ q) (wXM a g fz fw cB cI cJ cZ cL)) (hS : va_S (fun q : Nat => s.heap.size ≤ q) s.heap H locs) {ls : Array Slot} (hl : lv_has ls 4 [(3, .int 0), (2, .ref (g 0)), (1, .ref (a 0)), (0, .ref b)]) : W p l e room_1 s m #[Value.ref b] below meth c H locs 122 7554 (lw_Z below #[Value.ref b] s) (F0 m 33 ls [.int (nI 17)]) :=
  lv_tableIn (off := 875) (tgt := 908) C0.1 C0.2.1 dL_law_33 (by decide) (by decide) (by decide) (by decide) (lw_case_17 (a := a) (g := g) hfz hfw C0 hN hK hP hD hS hl)
set_option maxHeartbeats 4000000 in
set_option maxRecDepth 100000 in
theorem lw_sw_18 {p : Program} {l : Launch} {e : Env} {s : State} {m : MethodId} {below : List Frame} {meth : Method} {c : Code} {b : Nat} {xs : Nat → Int32} {dC : Nat → ClassId} {dI : Nat → Nat → Nat} {cB cI cJ cZ cL : ClassId} {a g : Nat → Nat} {fz fw : Nat → Int32} (hfz : ∀ j, j < 4 → fz j = -1) (hfw : ∀ j, j < 4 → fw j = -1) (C0 : lw_At p s m meth c b 6 xs) (hN : NW s) (hK : va_K (dC, dI) vwCl (tyL cB cI cJ cZ cL) s) {H : Heap} {locs : List Loc} (hP : va_P (dC, dI) vwCl (wXM a g fz fw cB cI cJ cZ cL) H) (hD : va_D (fun q : Nat => s.heap.size ≤ q) (wXM a g fz fw cB cI cJ cZ cL)) (hS : va_S (fun q : Nat => s.heap.size ≤ q) s.heap H locs) {ls : Array Slot} (hl : lv_has ls 4 [(3, .int 0), (2, .ref (g 0)), (1, .ref (a 0)), (0, .ref b)]) : W p l e room_1 s m #[Value.ref b] below meth c H locs 122 7554 (lw_Z below #[Value.ref b] s) (F0 m 33 ls [.int (nI 18)]) :=
  lv_tableIn (off := 898) (tgt := 931) C0.1 C0.2.1 dL_law_33 (by decide) (by decide) (by decide) (by decide) (lw_case_18 (a := a) (g := g) hfz hfw C0 hN hK hP hD hS hl)
set_option maxHeartbeats 4000000 in
set_option maxRecDepth 100000 in
theorem lw_sw_19 {p : Program} {l : Launch} {e : Env} {s : State} {m : MethodId} {below : List Frame} {meth : Method} {c : Code} {b : Nat} {xs : Nat → Int32} {dC : Nat → ClassId} {dI : Nat → Nat → Nat} {cB cI cJ cZ cL : ClassId} {a g : Nat → Nat} {fz fw : Nat → Int32} (hfz : ∀ j, j < 4 → fz j = -1) (hfw : ∀ j, j < 4 → fw j = -1) (C0 : lw_At p s m meth c b 6 xs) (hN : NW s) (hK : va_K (dC, dI) vwCl (tyL cB cI cJ cZ cL) s) {H : Heap} {locs : List Loc} (hP : va_P (dC, dI) vwCl (wXM a g fz fw cB cI cJ cZ cL) H) (hD : va_D (fun q : Nat => s.heap.size ≤ q) (wXM a g fz fw cB cI cJ cZ cL)) (hS : va_S (fun q : Nat => s.heap.size ≤ q) s.heap H locs) {ls : Array Slot} (hl : lv_has ls 4 [(3, .int 0), (2, .ref (g 0)), (1, .ref (a 0)), (0, .ref b)]) : W p l e room_1 s m #[Value.ref b] below meth c H locs 122 7554 (lw_Z below #[Value.ref b] s) (F0 m 33 ls [.int (nI 19)]) :=
  lv_tableIn (off := 921) (tgt := 954) C0.1 C0.2.1 dL_law_33 (by decide) (by decide) (by decide) (by decide) (lw_case_19 (a := a) (g := g) hfz hfw C0 hN hK hP hD hS hl)
set_option maxHeartbeats 4000000 in
set_option maxRecDepth 100000 in
theorem lw_sw_20 {p : Program} {l : Launch} {e : Env} {s : State} {m : MethodId} {below : List Frame} {meth : Method} {c : Code} {b : Nat} {xs : Nat → Int32} {dC : Nat → ClassId} {dI : Nat → Nat → Nat} {cB cI cJ cZ cL : ClassId} {a g : Nat → Nat} {fz fw : Nat → Int32} (hfz : ∀ j, j < 4 → fz j = -1) (hfw : ∀ j, j < 4 → fw j = -1) (C0 : lw_At p s m meth c b 6 xs) (hN : NW s) (hK : va_K (dC, dI) vwCl (tyL cB cI cJ cZ cL) s) {H : Heap} {locs : List Loc} (hP : va_P (dC, dI) vwCl (wXM a g fz fw cB cI cJ cZ cL) H) (hD : va_D (fun q : Nat => s.heap.size ≤ q) (wXM a g fz fw cB cI cJ cZ cL)) (hS : va_S (fun q : Nat => s.heap.size ≤ q) s.heap H locs) {ls : Array Slot} (hl : lv_has ls 4 [(3, .int 0), (2, .ref (g 0)), (1, .ref (a 0)), (0, .ref b)]) : W p l e room_1 s m #[Value.ref b] below meth c H locs 122 7554 (lw_Z below #[Value.ref b] s) (F0 m 33 ls [.int (nI 20)]) :=
  lv_tableIn (off := 944) (tgt := 977) C0.1 C0.2.1 dL_law_33 (by decide) (by decide) (by decide) (by decide) (lw_case_20 (a := a) (g := g) hfz hfw C0 hN hK hP hD hS hl)
set_option maxHeartbeats 4000000 in
set_option maxRecDepth 100000 in
theorem lw_sw_21 {p : Program} {l : Launch} {e : Env} {s : State} {m : MethodId} {below : List Frame} {meth : Method} {c : Code} {b : Nat} {xs : Nat → Int32} {dC : Nat → ClassId} {dI : Nat → Nat → Nat} {cB cI cJ cZ cL : ClassId} {a g : Nat → Nat} {fz fw : Nat → Int32} (hfz : ∀ j, j < 4 → fz j = -1) (hfw : ∀ j, j < 4 → fw j = -1) (C0 : lw_At p s m meth c b 6 xs) (hN : NW s) (hK : va_K (dC, dI) vwCl (tyL cB cI cJ cZ cL) s) {H : Heap} {locs : List Loc} (hP : va_P (dC, dI) vwCl (wXM a g fz fw cB cI cJ cZ cL) H) (hD : va_D (fun q : Nat => s.heap.size ≤ q) (wXM a g fz fw cB cI cJ cZ cL)) (hS : va_S (fun q : Nat => s.heap.size ≤ q) s.heap H locs) {ls : Array Slot} (hl : lv_has ls 4 [(3, .int 0), (2, .ref (g 0)), (1, .ref (a 0)), (0, .ref b)]) : W p l e room_1 s m #[Value.ref b] below meth c H locs 122 7554 (lw_Z below #[Value.ref b] s) (F0 m 33 ls [.int (nI 21)]) :=
  lv_tableIn (off := 967) (tgt := 1000) C0.1 C0.2.1 dL_law_33 (by decide) (by decide) (by decide) (by decide) (lw_case_21 (a := a) (g := g) hfz hfw C0 hN hK hP hD hS hl)
set_option maxHeartbeats 4000000 in
set_option maxRecDepth 100000 in
theorem lw_sw_22 {p : Program} {l : Launch} {e : Env} {s : State} {m : MethodId} {below : List Frame} {meth : Method} {c : Code} {b : Nat} {xs : Nat → Int32} {dC : Nat → ClassId} {dI : Nat → Nat → Nat} {cB cI cJ cZ cL : ClassId} {a g : Nat → Nat} {fz fw : Nat → Int32} (hfz : ∀ j, j < 4 → fz j = -1) (hfw : ∀ j, j < 4 → fw j = -1) (C0 : lw_At p s m meth c b 6 xs) (hN : NW s) (hK : va_K (dC, dI) vwCl (tyL cB cI cJ cZ cL) s) {H : Heap} {locs : List Loc} (hP : va_P (dC, dI) vwCl (wXM a g fz fw cB cI cJ cZ cL) H) (hD : va_D (fun q : Nat => s.heap.size ≤ q) (wXM a g fz fw cB cI cJ cZ cL)) (hS : va_S (fun q : Nat => s.heap.size ≤ q) s.heap H locs) {ls : Array Slot} (hl : lv_has ls 4 [(3, .int 0), (2, .ref (g 0)), (1, .ref (a 0)), (0, .ref b)]) : W p l e room_1 s m #[Value.ref b] below meth c H locs 122 7554 (lw_Z below #[Value.ref b] s) (F0 m 33 ls [.int (nI 22)]) :=
  lv_tableIn (off := 990) (tgt := 1023) C0.1 C0.2.1 dL_law_33 (by decide) (by decide) (by decide) (by decide) (lw_case_22 (a := a) (g := g) hfz hfw C0 hN hK hP hD hS hl)
set_option maxHeartbeats 4000000 in
set_option maxRecDepth 100000 in
theorem lw_sw_23 {p : Program} {l : Launch} {e : Env} {s : State} {m : MethodId} {below : List Frame} {meth : Method} {c : Code} {b : Nat} {xs : Nat → Int32} {dC : Nat → ClassId} {dI : Nat → Nat → Nat} {cB cI cJ cZ cL : ClassId} {a g : Nat → Nat} {fz fw : Nat → Int32} (hfz : ∀ j, j < 4 → fz j = -1) (hfw : ∀ j, j < 4 → fw j = -1) (C0 : lw_At p s m meth c b 6 xs) (hN : NW s) (hK : va_K (dC, dI) vwCl (tyL cB cI cJ cZ cL) s) {H : Heap} {locs : List Loc} (hP : va_P (dC, dI) vwCl (wXM a g fz fw cB cI cJ cZ cL) H) (hD : va_D (fun q : Nat => s.heap.size ≤ q) (wXM a g fz fw cB cI cJ cZ cL)) (hS : va_S (fun q : Nat => s.heap.size ≤ q) s.heap H locs) {ls : Array Slot} (hl : lv_has ls 4 [(3, .int 0), (2, .ref (g 0)), (1, .ref (a 0)), (0, .ref b)]) : W p l e room_1 s m #[Value.ref b] below meth c H locs 122 7554 (lw_Z below #[Value.ref b] s) (F0 m 33 ls [.int (nI 23)]) :=
  lv_tableIn (off := 1013) (tgt := 1046) C0.1 C0.2.1 dL_law_33 (by decide) (by decide) (by decide) (by decide) (lw_case_23 (a := a) (g := g) hfz hfw C0 hN hK hP hD hS hl)
set_option maxHeartbeats 4000000 in
set_option maxRecDepth 100000 in
theorem lw_sw_24 {p : Program} {l : Launch} {e : Env} {s : State} {m : MethodId} {below : List Frame} {meth : Method} {c : Code} {b : Nat} {xs : Nat → Int32} {dC : Nat → ClassId} {dI : Nat → Nat → Nat} {cB cI cJ cZ cL : ClassId} {a g : Nat → Nat} {fz fw : Nat → Int32} (hfz : ∀ j, j < 4 → fz j = -1) (hfw : ∀ j, j < 4 → fw j = -1) (C0 : lw_At p s m meth c b 6 xs) (hN : NW s) (hK : va_K (dC, dI) vwCl (tyL cB cI cJ cZ cL) s) {H : Heap} {locs : List Loc} (hP : va_P (dC, dI) vwCl (wXM a g fz fw cB cI cJ cZ cL) H) (hD : va_D (fun q : Nat => s.heap.size ≤ q) (wXM a g fz fw cB cI cJ cZ cL)) (hS : va_S (fun q : Nat => s.heap.size ≤ q) s.heap H locs) {ls : Array Slot} (hl : lv_has ls 4 [(3, .int 0), (2, .ref (g 0)), (1, .ref (a 0)), (0, .ref b)]) : W p l e room_1 s m #[Value.ref b] below meth c H locs 122 7554 (lw_Z below #[Value.ref b] s) (F0 m 33 ls [.int (nI 24)]) :=
  lv_tableIn (off := 1026) (tgt := 1059) C0.1 C0.2.1 dL_law_33 (by decide) (by decide) (by decide) (by decide) (lw_case_24 (a := a) (g := g) hfz hfw C0 hN hK hP hD hS hl)
set_option maxHeartbeats 4000000 in
set_option maxRecDepth 100000 in
theorem lw_sw_25 {p : Program} {l : Launch} {e : Env} {s : State} {m : MethodId} {below : List Frame} {meth : Method} {c : Code} {b : Nat} {xs : Nat → Int32} {dC : Nat → ClassId} {dI : Nat → Nat → Nat} {cB cI cJ cZ cL : ClassId} {a g : Nat → Nat} {fz fw : Nat → Int32} (hfz : ∀ j, j < 4 → fz j = -1) (hfw : ∀ j, j < 4 → fw j = -1) (C0 : lw_At p s m meth c b 6 xs) (hN : NW s) (hK : va_K (dC, dI) vwCl (tyL cB cI cJ cZ cL) s) {H : Heap} {locs : List Loc} (hP : va_P (dC, dI) vwCl (wXM a g fz fw cB cI cJ cZ cL) H) (hD : va_D (fun q : Nat => s.heap.size ≤ q) (wXM a g fz fw cB cI cJ cZ cL)) (hS : va_S (fun q : Nat => s.heap.size ≤ q) s.heap H locs) {ls : Array Slot} (hl : lv_has ls 4 [(3, .int 0), (2, .ref (g 0)), (1, .ref (a 0)), (0, .ref b)]) : W p l e room_1 s m #[Value.ref b] below meth c H locs 122 7554 (lw_Z below #[Value.ref b] s) (F0 m 33 ls [.int (nI 25)]) :=
  lv_tableIn (off := 1039) (tgt := 1072) C0.1 C0.2.1 dL_law_33 (by decide) (by decide) (by decide) (by decide) (lw_case_25 (a := a) (g := g) hfz hfw C0 hN hK hP hD hS hl)
set_option maxHeartbeats 4000000 in
set_option maxRecDepth 100000 in
theorem lw_sw_26 {p : Program} {l : Launch} {e : Env} {s : State} {m : MethodId} {below : List Frame} {meth : Method} {c : Code} {b : Nat} {xs : Nat → Int32} {dC : Nat → ClassId} {dI : Nat → Nat → Nat} {cB cI cJ cZ cL : ClassId} {a g : Nat → Nat} {fz fw : Nat → Int32} (hfz : ∀ j, j < 4 → fz j = -1) (hfw : ∀ j, j < 4 → fw j = -1) (C0 : lw_At p s m meth c b 6 xs) (hN : NW s) (hK : va_K (dC, dI) vwCl (tyL cB cI cJ cZ cL) s) {H : Heap} {locs : List Loc} (hP : va_P (dC, dI) vwCl (wXM a g fz fw cB cI cJ cZ cL) H) (hD : va_D (fun q : Nat => s.heap.size ≤ q) (wXM a g fz fw cB cI cJ cZ cL)) (hS : va_S (fun q : Nat => s.heap.size ≤ q) s.heap H locs) {ls : Array Slot} (hl : lv_has ls 4 [(3, .int 0), (2, .ref (g 0)), (1, .ref (a 0)), (0, .ref b)]) : W p l e room_1 s m #[Value.ref b] below meth c H locs 122 7554 (lw_Z below #[Value.ref b] s) (F0 m 33 ls [.int (nI 26)]) :=
  lv_tableIn (off := 1052) (tgt := 1085) C0.1 C0.2.1 dL_law_33 (by decide) (by decide) (by decide) (by decide) (lw_case_26 (a := a) (g := g) hfz hfw C0 hN hK hP hD hS hl)
set_option maxHeartbeats 4000000 in
set_option maxRecDepth 100000 in
theorem lw_sw_27 {p : Program} {l : Launch} {e : Env} {s : State} {m : MethodId} {below : List Frame} {meth : Method} {c : Code} {b : Nat} {xs : Nat → Int32} {dC : Nat → ClassId} {dI : Nat → Nat → Nat} {cB cI cJ cZ cL : ClassId} {a g : Nat → Nat} {fz fw : Nat → Int32} (hfz : ∀ j, j < 4 → fz j = -1) (hfw : ∀ j, j < 4 → fw j = -1) (C0 : lw_At p s m meth c b 6 xs) (hN : NW s) (hK : va_K (dC, dI) vwCl (tyL cB cI cJ cZ cL) s) {H : Heap} {locs : List Loc} (hP : va_P (dC, dI) vwCl (wXM a g fz fw cB cI cJ cZ cL) H) (hD : va_D (fun q : Nat => s.heap.size ≤ q) (wXM a g fz fw cB cI cJ cZ cL)) (hS : va_S (fun q : Nat => s.heap.size ≤ q) s.heap H locs) {ls : Array Slot} (hl : lv_has ls 4 [(3, .int 0), (2, .ref (g 0)), (1, .ref (a 0)), (0, .ref b)]) : W p l e room_1 s m #[Value.ref b] below meth c H locs 122 7554 (lw_Z below #[Value.ref b] s) (F0 m 33 ls [.int (nI 27)]) :=
  lv_tableIn (off := 1065) (tgt := 1098) C0.1 C0.2.1 dL_law_33 (by decide) (by decide) (by decide) (by decide) (lw_case_27 (a := a) (g := g) hfz hfw C0 hN hK hP hD hS hl)
set_option maxHeartbeats 4000000 in
set_option maxRecDepth 100000 in
theorem lw_sw_28 {p : Program} {l : Launch} {e : Env} {s : State} {m : MethodId} {below : List Frame} {meth : Method} {c : Code} {b : Nat} {xs : Nat → Int32} {dC : Nat → ClassId} {dI : Nat → Nat → Nat} {cB cI cJ cZ cL : ClassId} {a g : Nat → Nat} {fz fw : Nat → Int32} (hfz : ∀ j, j < 4 → fz j = -1) (hfw : ∀ j, j < 4 → fw j = -1) (C0 : lw_At p s m meth c b 6 xs) (hN : NW s) (hK : va_K (dC, dI) vwCl (tyL cB cI cJ cZ cL) s) {H : Heap} {locs : List Loc} (hP : va_P (dC, dI) vwCl (wXM a g fz fw cB cI cJ cZ cL) H) (hD : va_D (fun q : Nat => s.heap.size ≤ q) (wXM a g fz fw cB cI cJ cZ cL)) (hS : va_S (fun q : Nat => s.heap.size ≤ q) s.heap H locs) {ls : Array Slot} (hl : lv_has ls 4 [(3, .int 0), (2, .ref (g 0)), (1, .ref (a 0)), (0, .ref b)]) : W p l e room_1 s m #[Value.ref b] below meth c H locs 122 7554 (lw_Z below #[Value.ref b] s) (F0 m 33 ls [.int (nI 28)]) :=
  lv_tableIn (off := 1088) (tgt := 1121) C0.1 C0.2.1 dL_law_33 (by decide) (by decide) (by decide) (by decide) (lw_case_28 (a := a) (g := g) hfz hfw C0 hN hK hP hD hS hl)
set_option maxHeartbeats 4000000 in
set_option maxRecDepth 100000 in
theorem lw_sw_29 {p : Program} {l : Launch} {e : Env} {s : State} {m : MethodId} {below : List Frame} {meth : Method} {c : Code} {b : Nat} {xs : Nat → Int32} {dC : Nat → ClassId} {dI : Nat → Nat → Nat} {cB cI cJ cZ cL : ClassId} {a g : Nat → Nat} {fz fw : Nat → Int32} (hfz : ∀ j, j < 4 → fz j = -1) (hfw : ∀ j, j < 4 → fw j = -1) (C0 : lw_At p s m meth c b 6 xs) (hN : NW s) (hK : va_K (dC, dI) vwCl (tyL cB cI cJ cZ cL) s) {H : Heap} {locs : List Loc} (hP : va_P (dC, dI) vwCl (wXM a g fz fw cB cI cJ cZ cL) H) (hD : va_D (fun q : Nat => s.heap.size ≤ q) (wXM a g fz fw cB cI cJ cZ cL)) (hS : va_S (fun q : Nat => s.heap.size ≤ q) s.heap H locs) {ls : Array Slot} (hl : lv_has ls 4 [(3, .int 0), (2, .ref (g 0)), (1, .ref (a 0)), (0, .ref b)]) : W p l e room_1 s m #[Value.ref b] below meth c H locs 122 7554 (lw_Z below #[Value.ref b] s) (F0 m 33 ls [.int (nI 29)]) :=
  lv_tableIn (off := 1121) (tgt := 1154) C0.1 C0.2.1 dL_law_33 (by decide) (by decide) (by decide) (by decide) (lw_case_29 (a := a) (g := g) hfz hfw C0 hN hK hP hD hS hl)
set_option maxHeartbeats 4000000 in
set_option maxRecDepth 100000 in
theorem lw_sw_30 {p : Program} {l : Launch} {e : Env} {s : State} {m : MethodId} {below : List Frame} {meth : Method} {c : Code} {b : Nat} {xs : Nat → Int32} {dC : Nat → ClassId} {dI : Nat → Nat → Nat} {cB cI cJ cZ cL : ClassId} {a g : Nat → Nat} {fz fw : Nat → Int32} (hfz : ∀ j, j < 4 → fz j = -1) (hfw : ∀ j, j < 4 → fw j = -1) (C0 : lw_At p s m meth c b 6 xs) (hN : NW s) (hK : va_K (dC, dI) vwCl (tyL cB cI cJ cZ cL) s) {H : Heap} {locs : List Loc} (hP : va_P (dC, dI) vwCl (wXM a g fz fw cB cI cJ cZ cL) H) (hD : va_D (fun q : Nat => s.heap.size ≤ q) (wXM a g fz fw cB cI cJ cZ cL)) (hS : va_S (fun q : Nat => s.heap.size ≤ q) s.heap H locs) {ls : Array Slot} (hl : lv_has ls 4 [(3, .int 0), (2, .ref (g 0)), (1, .ref (a 0)), (0, .ref b)]) : W p l e room_1 s m #[Value.ref b] below meth c H locs 122 7554 (lw_Z below #[Value.ref b] s) (F0 m 33 ls [.int (nI 30)]) :=
  lv_tableIn (off := 1134) (tgt := 1167) C0.1 C0.2.1 dL_law_33 (by decide) (by decide) (by decide) (by decide) (lw_case_30 (a := a) (g := g) hfz hfw C0 hN hK hP hD hS hl)
set_option maxHeartbeats 4000000 in
set_option maxRecDepth 100000 in
theorem lw_sw_31 {p : Program} {l : Launch} {e : Env} {s : State} {m : MethodId} {below : List Frame} {meth : Method} {c : Code} {b : Nat} {xs : Nat → Int32} {dC : Nat → ClassId} {dI : Nat → Nat → Nat} {cB cI cJ cZ cL : ClassId} {a g : Nat → Nat} {fz fw : Nat → Int32} (hfz : ∀ j, j < 4 → fz j = -1) (hfw : ∀ j, j < 4 → fw j = -1) (C0 : lw_At p s m meth c b 6 xs) (hN : NW s) (hK : va_K (dC, dI) vwCl (tyL cB cI cJ cZ cL) s) {H : Heap} {locs : List Loc} (hP : va_P (dC, dI) vwCl (wXM a g fz fw cB cI cJ cZ cL) H) (hD : va_D (fun q : Nat => s.heap.size ≤ q) (wXM a g fz fw cB cI cJ cZ cL)) (hS : va_S (fun q : Nat => s.heap.size ≤ q) s.heap H locs) {ls : Array Slot} (hl : lv_has ls 4 [(3, .int 0), (2, .ref (g 0)), (1, .ref (a 0)), (0, .ref b)]) : W p l e room_1 s m #[Value.ref b] below meth c H locs 122 7554 (lw_Z below #[Value.ref b] s) (F0 m 33 ls [.int (nI 31)]) :=
  lv_tableIn (off := 1167) (tgt := 1200) C0.1 C0.2.1 dL_law_33 (by decide) (by decide) (by decide) (by decide) (lw_case_31 (a := a) (g := g) hfz hfw C0 hN hK hP hD hS hl)
set_option maxHeartbeats 4000000 in
set_option maxRecDepth 100000 in
theorem lw_sw_32 {p : Program} {l : Launch} {e : Env} {s : State} {m : MethodId} {below : List Frame} {meth : Method} {c : Code} {b : Nat} {xs : Nat → Int32} {dC : Nat → ClassId} {dI : Nat → Nat → Nat} {cB cI cJ cZ cL : ClassId} {a g : Nat → Nat} {fz fw : Nat → Int32} (hfz : ∀ j, j < 4 → fz j = -1) (hfw : ∀ j, j < 4 → fw j = -1) (C0 : lw_At p s m meth c b 6 xs) (hN : NW s) (hK : va_K (dC, dI) vwCl (tyL cB cI cJ cZ cL) s) {H : Heap} {locs : List Loc} (hP : va_P (dC, dI) vwCl (wXM a g fz fw cB cI cJ cZ cL) H) (hD : va_D (fun q : Nat => s.heap.size ≤ q) (wXM a g fz fw cB cI cJ cZ cL)) (hS : va_S (fun q : Nat => s.heap.size ≤ q) s.heap H locs) {ls : Array Slot} (hl : lv_has ls 4 [(3, .int 0), (2, .ref (g 0)), (1, .ref (a 0)), (0, .ref b)]) : W p l e room_1 s m #[Value.ref b] below meth c H locs 122 7554 (lw_Z below #[Value.ref b] s) (F0 m 33 ls [.int (nI 32)]) :=
  lv_tableIn (off := 1180) (tgt := 1213) C0.1 C0.2.1 dL_law_33 (by decide) (by decide) (by decide) (by decide) (lw_case_32 (a := a) (g := g) hfz hfw C0 hN hK hP hD hS hl)
set_option maxHeartbeats 4000000 in
set_option maxRecDepth 100000 in
theorem lw_sw_33 {p : Program} {l : Launch} {e : Env} {s : State} {m : MethodId} {below : List Frame} {meth : Method} {c : Code} {b : Nat} {xs : Nat → Int32} {dC : Nat → ClassId} {dI : Nat → Nat → Nat} {cB cI cJ cZ cL : ClassId} {a g : Nat → Nat} {fz fw : Nat → Int32} (hfz : ∀ j, j < 4 → fz j = -1) (hfw : ∀ j, j < 4 → fw j = -1) (C0 : lw_At p s m meth c b 6 xs) (hN : NW s) (hK : va_K (dC, dI) vwCl (tyL cB cI cJ cZ cL) s) {H : Heap} {locs : List Loc} (hP : va_P (dC, dI) vwCl (wXM a g fz fw cB cI cJ cZ cL) H) (hD : va_D (fun q : Nat => s.heap.size ≤ q) (wXM a g fz fw cB cI cJ cZ cL)) (hS : va_S (fun q : Nat => s.heap.size ≤ q) s.heap H locs) {ls : Array Slot} (hl : lv_has ls 4 [(3, .int 0), (2, .ref (g 0)), (1, .ref (a 0)), (0, .ref b)]) : W p l e room_1 s m #[Value.ref b] below meth c H locs 122 7554 (lw_Z below #[Value.ref b] s) (F0 m 33 ls [.int (nI 33)]) :=
  lv_tableIn (off := 1203) (tgt := 1236) C0.1 C0.2.1 dL_law_33 (by decide) (by decide) (by decide) (by decide) (lw_case_33 (a := a) (g := g) hfz hfw C0 hN hK hP hD hS hl)
set_option maxHeartbeats 4000000 in
set_option maxRecDepth 100000 in
theorem lw_sw_34 {p : Program} {l : Launch} {e : Env} {s : State} {m : MethodId} {below : List Frame} {meth : Method} {c : Code} {b : Nat} {xs : Nat → Int32} {dC : Nat → ClassId} {dI : Nat → Nat → Nat} {cB cI cJ cZ cL : ClassId} {a g : Nat → Nat} {fz fw : Nat → Int32} (hfz : ∀ j, j < 4 → fz j = -1) (hfw : ∀ j, j < 4 → fw j = -1) (C0 : lw_At p s m meth c b 6 xs) (hN : NW s) (hK : va_K (dC, dI) vwCl (tyL cB cI cJ cZ cL) s) {H : Heap} {locs : List Loc} (hP : va_P (dC, dI) vwCl (wXM a g fz fw cB cI cJ cZ cL) H) (hD : va_D (fun q : Nat => s.heap.size ≤ q) (wXM a g fz fw cB cI cJ cZ cL)) (hS : va_S (fun q : Nat => s.heap.size ≤ q) s.heap H locs) {ls : Array Slot} (hl : lv_has ls 4 [(3, .int 0), (2, .ref (g 0)), (1, .ref (a 0)), (0, .ref b)]) : W p l e room_1 s m #[Value.ref b] below meth c H locs 122 7554 (lw_Z below #[Value.ref b] s) (F0 m 33 ls [.int (nI 34)]) :=
  lv_tableIn (off := 1216) (tgt := 1249) C0.1 C0.2.1 dL_law_33 (by decide) (by decide) (by decide) (by decide) (lw_case_34 (a := a) (g := g) hfz hfw C0 hN hK hP hD hS hl)
set_option maxHeartbeats 4000000 in
set_option maxRecDepth 100000 in
theorem lw_sw_35 {p : Program} {l : Launch} {e : Env} {s : State} {m : MethodId} {below : List Frame} {meth : Method} {c : Code} {b : Nat} {xs : Nat → Int32} {dC : Nat → ClassId} {dI : Nat → Nat → Nat} {cB cI cJ cZ cL : ClassId} {a g : Nat → Nat} {fz fw : Nat → Int32} (hfz : ∀ j, j < 4 → fz j = -1) (hfw : ∀ j, j < 4 → fw j = -1) (C0 : lw_At p s m meth c b 6 xs) (hN : NW s) (hK : va_K (dC, dI) vwCl (tyL cB cI cJ cZ cL) s) {H : Heap} {locs : List Loc} (hP : va_P (dC, dI) vwCl (wXM a g fz fw cB cI cJ cZ cL) H) (hD : va_D (fun q : Nat => s.heap.size ≤ q) (wXM a g fz fw cB cI cJ cZ cL)) (hS : va_S (fun q : Nat => s.heap.size ≤ q) s.heap H locs) {ls : Array Slot} (hl : lv_has ls 4 [(3, .int 0), (2, .ref (g 0)), (1, .ref (a 0)), (0, .ref b)]) : W p l e room_1 s m #[Value.ref b] below meth c H locs 122 7554 (lw_Z below #[Value.ref b] s) (F0 m 33 ls [.int (nI 35)]) :=
  lv_tableIn (off := 1239) (tgt := 1272) C0.1 C0.2.1 dL_law_33 (by decide) (by decide) (by decide) (by decide) (lw_case_35 (a := a) (g := g) hfz hfw C0 hN hK hP hD hS hl)
set_option maxHeartbeats 4000000 in
set_option maxRecDepth 100000 in
theorem lw_sw_36 {p : Program} {l : Launch} {e : Env} {s : State} {m : MethodId} {below : List Frame} {meth : Method} {c : Code} {b : Nat} {xs : Nat → Int32} {dC : Nat → ClassId} {dI : Nat → Nat → Nat} {cB cI cJ cZ cL : ClassId} {a g : Nat → Nat} {fz fw : Nat → Int32} (hfz : ∀ j, j < 4 → fz j = -1) (hfw : ∀ j, j < 4 → fw j = -1) (C0 : lw_At p s m meth c b 6 xs) (hN : NW s) (hK : va_K (dC, dI) vwCl (tyL cB cI cJ cZ cL) s) {H : Heap} {locs : List Loc} (hP : va_P (dC, dI) vwCl (wXM a g fz fw cB cI cJ cZ cL) H) (hD : va_D (fun q : Nat => s.heap.size ≤ q) (wXM a g fz fw cB cI cJ cZ cL)) (hS : va_S (fun q : Nat => s.heap.size ≤ q) s.heap H locs) {ls : Array Slot} (hl : lv_has ls 4 [(3, .int 0), (2, .ref (g 0)), (1, .ref (a 0)), (0, .ref b)]) : W p l e room_1 s m #[Value.ref b] below meth c H locs 122 7554 (lw_Z below #[Value.ref b] s) (F0 m 33 ls [.int (nI 36)]) :=
  lv_tableIn (off := 1262) (tgt := 1295) C0.1 C0.2.1 dL_law_33 (by decide) (by decide) (by decide) (by decide) (lw_case_36 (a := a) (g := g) hfz hfw C0 hN hK hP hD hS hl)
set_option maxHeartbeats 4000000 in
set_option maxRecDepth 100000 in
theorem lw_sw_37 {p : Program} {l : Launch} {e : Env} {s : State} {m : MethodId} {below : List Frame} {meth : Method} {c : Code} {b : Nat} {xs : Nat → Int32} {dC : Nat → ClassId} {dI : Nat → Nat → Nat} {cB cI cJ cZ cL : ClassId} {a g : Nat → Nat} {fz fw : Nat → Int32} (hfz : ∀ j, j < 4 → fz j = -1) (hfw : ∀ j, j < 4 → fw j = -1) (C0 : lw_At p s m meth c b 6 xs) (hN : NW s) (hK : va_K (dC, dI) vwCl (tyL cB cI cJ cZ cL) s) {H : Heap} {locs : List Loc} (hP : va_P (dC, dI) vwCl (wXM a g fz fw cB cI cJ cZ cL) H) (hD : va_D (fun q : Nat => s.heap.size ≤ q) (wXM a g fz fw cB cI cJ cZ cL)) (hS : va_S (fun q : Nat => s.heap.size ≤ q) s.heap H locs) {ls : Array Slot} (hl : lv_has ls 4 [(3, .int 0), (2, .ref (g 0)), (1, .ref (a 0)), (0, .ref b)]) : W p l e room_1 s m #[Value.ref b] below meth c H locs 122 7554 (lw_Z below #[Value.ref b] s) (F0 m 33 ls [.int (nI 37)]) :=
  lv_tableIn (off := 1295) (tgt := 1328) C0.1 C0.2.1 dL_law_33 (by decide) (by decide) (by decide) (by decide) (lw_case_37 (a := a) (g := g) hfz hfw C0 hN hK hP hD hS hl)
set_option maxHeartbeats 4000000 in
set_option maxRecDepth 100000 in
theorem lw_sw_38 {p : Program} {l : Launch} {e : Env} {s : State} {m : MethodId} {below : List Frame} {meth : Method} {c : Code} {b : Nat} {xs : Nat → Int32} {dC : Nat → ClassId} {dI : Nat → Nat → Nat} {cB cI cJ cZ cL : ClassId} {a g : Nat → Nat} {fz fw : Nat → Int32} (hfz : ∀ j, j < 4 → fz j = -1) (hfw : ∀ j, j < 4 → fw j = -1) (C0 : lw_At p s m meth c b 6 xs) (hN : NW s) (hK : va_K (dC, dI) vwCl (tyL cB cI cJ cZ cL) s) {H : Heap} {locs : List Loc} (hP : va_P (dC, dI) vwCl (wXM a g fz fw cB cI cJ cZ cL) H) (hD : va_D (fun q : Nat => s.heap.size ≤ q) (wXM a g fz fw cB cI cJ cZ cL)) (hS : va_S (fun q : Nat => s.heap.size ≤ q) s.heap H locs) {ls : Array Slot} (hl : lv_has ls 4 [(3, .int 0), (2, .ref (g 0)), (1, .ref (a 0)), (0, .ref b)]) : W p l e room_1 s m #[Value.ref b] below meth c H locs 122 7554 (lw_Z below #[Value.ref b] s) (F0 m 33 ls [.int (nI 38)]) :=
  lv_tableIn (off := 1328) (tgt := 1361) C0.1 C0.2.1 dL_law_33 (by decide) (by decide) (by decide) (by decide) (lw_case_38 (a := a) (g := g) hfz hfw C0 hN hK hP hD hS hl)
set_option maxHeartbeats 4000000 in
set_option maxRecDepth 100000 in
theorem lw_sw_39 {p : Program} {l : Launch} {e : Env} {s : State} {m : MethodId} {below : List Frame} {meth : Method} {c : Code} {b : Nat} {xs : Nat → Int32} {dC : Nat → ClassId} {dI : Nat → Nat → Nat} {cB cI cJ cZ cL : ClassId} {a g : Nat → Nat} {fz fw : Nat → Int32} (hfz : ∀ j, j < 4 → fz j = -1) (hfw : ∀ j, j < 4 → fw j = -1) (C0 : lw_At p s m meth c b 6 xs) (hN : NW s) (hK : va_K (dC, dI) vwCl (tyL cB cI cJ cZ cL) s) {H : Heap} {locs : List Loc} (hP : va_P (dC, dI) vwCl (wXM a g fz fw cB cI cJ cZ cL) H) (hD : va_D (fun q : Nat => s.heap.size ≤ q) (wXM a g fz fw cB cI cJ cZ cL)) (hS : va_S (fun q : Nat => s.heap.size ≤ q) s.heap H locs) {ls : Array Slot} (hl : lv_has ls 4 [(3, .int 0), (2, .ref (g 0)), (1, .ref (a 0)), (0, .ref b)]) : W p l e room_1 s m #[Value.ref b] below meth c H locs 122 7554 (lw_Z below #[Value.ref b] s) (F0 m 33 ls [.int (nI 39)]) :=
  lv_tableIn (off := 1351) (tgt := 1384) C0.1 C0.2.1 dL_law_33 (by decide) (by decide) (by decide) (by decide) (lw_case_39 (a := a) (g := g) hfz hfw C0 hN hK hP hD hS hl)
set_option maxHeartbeats 4000000 in
set_option maxRecDepth 100000 in
theorem lw_sw_40 {p : Program} {l : Launch} {e : Env} {s : State} {m : MethodId} {below : List Frame} {meth : Method} {c : Code} {b : Nat} {xs : Nat → Int32} {dC : Nat → ClassId} {dI : Nat → Nat → Nat} {cB cI cJ cZ cL : ClassId} {a g : Nat → Nat} {fz fw : Nat → Int32} (hfz : ∀ j, j < 4 → fz j = -1) (hfw : ∀ j, j < 4 → fw j = -1) (C0 : lw_At p s m meth c b 6 xs) (hN : NW s) (hK : va_K (dC, dI) vwCl (tyL cB cI cJ cZ cL) s) {H : Heap} {locs : List Loc} (hP : va_P (dC, dI) vwCl (wXM a g fz fw cB cI cJ cZ cL) H) (hD : va_D (fun q : Nat => s.heap.size ≤ q) (wXM a g fz fw cB cI cJ cZ cL)) (hS : va_S (fun q : Nat => s.heap.size ≤ q) s.heap H locs) {ls : Array Slot} (hl : lv_has ls 4 [(3, .int 0), (2, .ref (g 0)), (1, .ref (a 0)), (0, .ref b)]) : W p l e room_1 s m #[Value.ref b] below meth c H locs 122 7554 (lw_Z below #[Value.ref b] s) (F0 m 33 ls [.int (nI 40)]) :=
  lv_tableIn (off := 1374) (tgt := 1407) C0.1 C0.2.1 dL_law_33 (by decide) (by decide) (by decide) (by decide) (lw_case_40 (a := a) (g := g) hfz hfw C0 hN hK hP hD hS hl)
set_option maxHeartbeats 4000000 in
set_option maxRecDepth 100000 in
theorem lw_sw_41 {p : Program} {l : Launch} {e : Env} {s : State} {m : MethodId} {below : List Frame} {meth : Method} {c : Code} {b : Nat} {xs : Nat → Int32} {dC : Nat → ClassId} {dI : Nat → Nat → Nat} {cB cI cJ cZ cL : ClassId} {a g : Nat → Nat} {fz fw : Nat → Int32} (hfz : ∀ j, j < 4 → fz j = -1) (hfw : ∀ j, j < 4 → fw j = -1) (C0 : lw_At p s m meth c b 6 xs) (hN : NW s) (hK : va_K (dC, dI) vwCl (tyL cB cI cJ cZ cL) s) {H : Heap} {locs : List Loc} (hP : va_P (dC, dI) vwCl (wXM a g fz fw cB cI cJ cZ cL) H) (hD : va_D (fun q : Nat => s.heap.size ≤ q) (wXM a g fz fw cB cI cJ cZ cL)) (hS : va_S (fun q : Nat => s.heap.size ≤ q) s.heap H locs) {ls : Array Slot} (hl : lv_has ls 4 [(3, .int 0), (2, .ref (g 0)), (1, .ref (a 0)), (0, .ref b)]) : W p l e room_1 s m #[Value.ref b] below meth c H locs 122 7554 (lw_Z below #[Value.ref b] s) (F0 m 33 ls [.int (nI 41)]) :=
  lv_tableIn (off := 1397) (tgt := 1430) C0.1 C0.2.1 dL_law_33 (by decide) (by decide) (by decide) (by decide) (lw_case_41 (a := a) (g := g) hfz hfw C0 hN hK hP hD hS hl)
set_option maxHeartbeats 4000000 in
set_option maxRecDepth 100000 in
theorem lw_sw_42 {p : Program} {l : Launch} {e : Env} {s : State} {m : MethodId} {below : List Frame} {meth : Method} {c : Code} {b : Nat} {xs : Nat → Int32} {dC : Nat → ClassId} {dI : Nat → Nat → Nat} {cB cI cJ cZ cL : ClassId} {a g : Nat → Nat} {fz fw : Nat → Int32} (hfz : ∀ j, j < 4 → fz j = -1) (hfw : ∀ j, j < 4 → fw j = -1) (C0 : lw_At p s m meth c b 6 xs) (hN : NW s) (hK : va_K (dC, dI) vwCl (tyL cB cI cJ cZ cL) s) {H : Heap} {locs : List Loc} (hP : va_P (dC, dI) vwCl (wXM a g fz fw cB cI cJ cZ cL) H) (hD : va_D (fun q : Nat => s.heap.size ≤ q) (wXM a g fz fw cB cI cJ cZ cL)) (hS : va_S (fun q : Nat => s.heap.size ≤ q) s.heap H locs) {ls : Array Slot} (hl : lv_has ls 4 [(3, .int 0), (2, .ref (g 0)), (1, .ref (a 0)), (0, .ref b)]) : W p l e room_1 s m #[Value.ref b] below meth c H locs 122 7554 (lw_Z below #[Value.ref b] s) (F0 m 33 ls [.int (nI 42)]) :=
  lv_tableIn (off := 1410) (tgt := 1443) C0.1 C0.2.1 dL_law_33 (by decide) (by decide) (by decide) (by decide) (lw_case_42 (a := a) (g := g) hfz hfw C0 hN hK hP hD hS hl)
set_option maxHeartbeats 4000000 in
set_option maxRecDepth 100000 in
theorem lw_sw_43 {p : Program} {l : Launch} {e : Env} {s : State} {m : MethodId} {below : List Frame} {meth : Method} {c : Code} {b : Nat} {xs : Nat → Int32} {dC : Nat → ClassId} {dI : Nat → Nat → Nat} {cB cI cJ cZ cL : ClassId} {a g : Nat → Nat} {fz fw : Nat → Int32} (hfz : ∀ j, j < 4 → fz j = -1) (hfw : ∀ j, j < 4 → fw j = -1) (C0 : lw_At p s m meth c b 6 xs) (hN : NW s) (hK : va_K (dC, dI) vwCl (tyL cB cI cJ cZ cL) s) {H : Heap} {locs : List Loc} (hP : va_P (dC, dI) vwCl (wXM a g fz fw cB cI cJ cZ cL) H) (hD : va_D (fun q : Nat => s.heap.size ≤ q) (wXM a g fz fw cB cI cJ cZ cL)) (hS : va_S (fun q : Nat => s.heap.size ≤ q) s.heap H locs) {ls : Array Slot} (hl : lv_has ls 4 [(3, .int 0), (2, .ref (g 0)), (1, .ref (a 0)), (0, .ref b)]) : W p l e room_1 s m #[Value.ref b] below meth c H locs 122 7554 (lw_Z below #[Value.ref b] s) (F0 m 33 ls [.int (nI 43)]) :=
  lv_tableIn (off := 1423) (tgt := 1456) C0.1 C0.2.1 dL_law_33 (by decide) (by decide) (by decide) (by decide) (lw_case_43 (a := a) (g := g) hfz hfw C0 hN hK hP hD hS hl)
set_option maxHeartbeats 4000000 in
set_option maxRecDepth 100000 in
theorem lw_sw_44 {p : Program} {l : Launch} {e : Env} {s : State} {m : MethodId} {below : List Frame} {meth : Method} {c : Code} {b : Nat} {xs : Nat → Int32} {dC : Nat → ClassId} {dI : Nat → Nat → Nat} {cB cI cJ cZ cL : ClassId} {a g : Nat → Nat} {fz fw : Nat → Int32} (hfz : ∀ j, j < 4 → fz j = -1) (hfw : ∀ j, j < 4 → fw j = -1) (C0 : lw_At p s m meth c b 6 xs) (hN : NW s) (hK : va_K (dC, dI) vwCl (tyL cB cI cJ cZ cL) s) {H : Heap} {locs : List Loc} (hP : va_P (dC, dI) vwCl (wXM a g fz fw cB cI cJ cZ cL) H) (hD : va_D (fun q : Nat => s.heap.size ≤ q) (wXM a g fz fw cB cI cJ cZ cL)) (hS : va_S (fun q : Nat => s.heap.size ≤ q) s.heap H locs) {ls : Array Slot} (hl : lv_has ls 4 [(3, .int 0), (2, .ref (g 0)), (1, .ref (a 0)), (0, .ref b)]) : W p l e room_1 s m #[Value.ref b] below meth c H locs 122 7554 (lw_Z below #[Value.ref b] s) (F0 m 33 ls [.int (nI 44)]) :=
  lv_tableIn (off := 1436) (tgt := 1469) C0.1 C0.2.1 dL_law_33 (by decide) (by decide) (by decide) (by decide) (lw_case_44 (a := a) (g := g) hfz hfw C0 hN hK hP hD hS hl)
set_option maxHeartbeats 4000000 in
set_option maxRecDepth 100000 in
theorem lw_sw_45 {p : Program} {l : Launch} {e : Env} {s : State} {m : MethodId} {below : List Frame} {meth : Method} {c : Code} {b : Nat} {xs : Nat → Int32} {dC : Nat → ClassId} {dI : Nat → Nat → Nat} {cB cI cJ cZ cL : ClassId} {a g : Nat → Nat} {fz fw : Nat → Int32} (hfz : ∀ j, j < 4 → fz j = -1) (hfw : ∀ j, j < 4 → fw j = -1) (C0 : lw_At p s m meth c b 6 xs) (hN : NW s) (hK : va_K (dC, dI) vwCl (tyL cB cI cJ cZ cL) s) {H : Heap} {locs : List Loc} (hP : va_P (dC, dI) vwCl (wXM a g fz fw cB cI cJ cZ cL) H) (hD : va_D (fun q : Nat => s.heap.size ≤ q) (wXM a g fz fw cB cI cJ cZ cL)) (hS : va_S (fun q : Nat => s.heap.size ≤ q) s.heap H locs) {ls : Array Slot} (hl : lv_has ls 4 [(3, .int 0), (2, .ref (g 0)), (1, .ref (a 0)), (0, .ref b)]) : W p l e room_1 s m #[Value.ref b] below meth c H locs 122 7554 (lw_Z below #[Value.ref b] s) (F0 m 33 ls [.int (nI 45)]) :=
  lv_tableIn (off := 1459) (tgt := 1492) C0.1 C0.2.1 dL_law_33 (by decide) (by decide) (by decide) (by decide) (lw_case_45 (a := a) (g := g) hfz hfw C0 hN hK hP hD hS hl)
set_option maxHeartbeats 4000000 in
set_option maxRecDepth 100000 in
theorem lw_sw_46 {p : Program} {l : Launch} {e : Env} {s : State} {m : MethodId} {below : List Frame} {meth : Method} {c : Code} {b : Nat} {xs : Nat → Int32} {dC : Nat → ClassId} {dI : Nat → Nat → Nat} {cB cI cJ cZ cL : ClassId} {a g : Nat → Nat} {fz fw : Nat → Int32} (hfz : ∀ j, j < 4 → fz j = -1) (hfw : ∀ j, j < 4 → fw j = -1) (C0 : lw_At p s m meth c b 6 xs) (hN : NW s) (hK : va_K (dC, dI) vwCl (tyL cB cI cJ cZ cL) s) {H : Heap} {locs : List Loc} (hP : va_P (dC, dI) vwCl (wXM a g fz fw cB cI cJ cZ cL) H) (hD : va_D (fun q : Nat => s.heap.size ≤ q) (wXM a g fz fw cB cI cJ cZ cL)) (hS : va_S (fun q : Nat => s.heap.size ≤ q) s.heap H locs) {ls : Array Slot} (hl : lv_has ls 4 [(3, .int 0), (2, .ref (g 0)), (1, .ref (a 0)), (0, .ref b)]) : W p l e room_1 s m #[Value.ref b] below meth c H locs 122 7554 (lw_Z below #[Value.ref b] s) (F0 m 33 ls [.int (nI 46)]) :=
  lv_tableIn (off := 1492) (tgt := 1525) C0.1 C0.2.1 dL_law_33 (by decide) (by decide) (by decide) (by decide) (lw_case_46 (a := a) (g := g) hfz hfw C0 hN hK hP hD hS hl)
set_option maxHeartbeats 4000000 in
set_option maxRecDepth 100000 in
theorem lw_sw_47 {p : Program} {l : Launch} {e : Env} {s : State} {m : MethodId} {below : List Frame} {meth : Method} {c : Code} {b : Nat} {xs : Nat → Int32} {dC : Nat → ClassId} {dI : Nat → Nat → Nat} {cB cI cJ cZ cL : ClassId} {a g : Nat → Nat} {fz fw : Nat → Int32} (hfz : ∀ j, j < 4 → fz j = -1) (hfw : ∀ j, j < 4 → fw j = -1) (C0 : lw_At p s m meth c b 6 xs) (hN : NW s) (hK : va_K (dC, dI) vwCl (tyL cB cI cJ cZ cL) s) {H : Heap} {locs : List Loc} (hP : va_P (dC, dI) vwCl (wXM a g fz fw cB cI cJ cZ cL) H) (hD : va_D (fun q : Nat => s.heap.size ≤ q) (wXM a g fz fw cB cI cJ cZ cL)) (hS : va_S (fun q : Nat => s.heap.size ≤ q) s.heap H locs) {ls : Array Slot} (hl : lv_has ls 4 [(3, .int 0), (2, .ref (g 0)), (1, .ref (a 0)), (0, .ref b)]) : W p l e room_1 s m #[Value.ref b] below meth c H locs 122 7554 (lw_Z below #[Value.ref b] s) (F0 m 33 ls [.int (nI 47)]) :=
  lv_tableIn (off := 1515) (tgt := 1548) C0.1 C0.2.1 dL_law_33 (by decide) (by decide) (by decide) (by decide) (lw_case_47 (a := a) (g := g) hfz hfw C0 hN hK hP hD hS hl)
set_option maxHeartbeats 4000000 in
set_option maxRecDepth 100000 in
theorem lw_sw_48 {p : Program} {l : Launch} {e : Env} {s : State} {m : MethodId} {below : List Frame} {meth : Method} {c : Code} {b : Nat} {xs : Nat → Int32} {dC : Nat → ClassId} {dI : Nat → Nat → Nat} {cB cI cJ cZ cL : ClassId} {a g : Nat → Nat} {fz fw : Nat → Int32} (hfz : ∀ j, j < 4 → fz j = -1) (hfw : ∀ j, j < 4 → fw j = -1) (C0 : lw_At p s m meth c b 6 xs) (hN : NW s) (hK : va_K (dC, dI) vwCl (tyL cB cI cJ cZ cL) s) {H : Heap} {locs : List Loc} (hP : va_P (dC, dI) vwCl (wXM a g fz fw cB cI cJ cZ cL) H) (hD : va_D (fun q : Nat => s.heap.size ≤ q) (wXM a g fz fw cB cI cJ cZ cL)) (hS : va_S (fun q : Nat => s.heap.size ≤ q) s.heap H locs) {ls : Array Slot} (hl : lv_has ls 4 [(3, .int 0), (2, .ref (g 0)), (1, .ref (a 0)), (0, .ref b)]) : W p l e room_1 s m #[Value.ref b] below meth c H locs 122 7554 (lw_Z below #[Value.ref b] s) (F0 m 33 ls [.int (nI 48)]) :=
  lv_tableIn (off := 1538) (tgt := 1571) C0.1 C0.2.1 dL_law_33 (by decide) (by decide) (by decide) (by decide) (lw_case_48 (a := a) (g := g) hfz hfw C0 hN hK hP hD hS hl)
set_option maxHeartbeats 4000000 in
set_option maxRecDepth 100000 in
theorem lw_sw_49 {p : Program} {l : Launch} {e : Env} {s : State} {m : MethodId} {below : List Frame} {meth : Method} {c : Code} {b : Nat} {xs : Nat → Int32} {dC : Nat → ClassId} {dI : Nat → Nat → Nat} {cB cI cJ cZ cL : ClassId} {a g : Nat → Nat} {fz fw : Nat → Int32} (hfz : ∀ j, j < 4 → fz j = -1) (hfw : ∀ j, j < 4 → fw j = -1) (C0 : lw_At p s m meth c b 6 xs) (hN : NW s) (hK : va_K (dC, dI) vwCl (tyL cB cI cJ cZ cL) s) {H : Heap} {locs : List Loc} (hP : va_P (dC, dI) vwCl (wXM a g fz fw cB cI cJ cZ cL) H) (hD : va_D (fun q : Nat => s.heap.size ≤ q) (wXM a g fz fw cB cI cJ cZ cL)) (hS : va_S (fun q : Nat => s.heap.size ≤ q) s.heap H locs) {ls : Array Slot} (hl : lv_has ls 4 [(3, .int 0), (2, .ref (g 0)), (1, .ref (a 0)), (0, .ref b)]) : W p l e room_1 s m #[Value.ref b] below meth c H locs 122 7554 (lw_Z below #[Value.ref b] s) (F0 m 33 ls [.int (nI 49)]) :=
  lv_tableIn (off := 1561) (tgt := 1594) C0.1 C0.2.1 dL_law_33 (by decide) (by decide) (by decide) (by decide) (lw_case_49 (a := a) (g := g) hfz hfw C0 hN hK hP hD hS hl)
set_option maxHeartbeats 4000000 in
set_option maxRecDepth 100000 in
theorem lw_sw_50 {p : Program} {l : Launch} {e : Env} {s : State} {m : MethodId} {below : List Frame} {meth : Method} {c : Code} {b : Nat} {xs : Nat → Int32} {dC : Nat → ClassId} {dI : Nat → Nat → Nat} {cB cI cJ cZ cL : ClassId} {a g : Nat → Nat} {fz fw : Nat → Int32} (hfz : ∀ j, j < 4 → fz j = -1) (hfw : ∀ j, j < 4 → fw j = -1) (C0 : lw_At p s m meth c b 6 xs) (hN : NW s) (hK : va_K (dC, dI) vwCl (tyL cB cI cJ cZ cL) s) {H : Heap} {locs : List Loc} (hP : va_P (dC, dI) vwCl (wXM a g fz fw cB cI cJ cZ cL) H) (hD : va_D (fun q : Nat => s.heap.size ≤ q) (wXM a g fz fw cB cI cJ cZ cL)) (hS : va_S (fun q : Nat => s.heap.size ≤ q) s.heap H locs) {ls : Array Slot} (hl : lv_has ls 4 [(3, .int 0), (2, .ref (g 0)), (1, .ref (a 0)), (0, .ref b)]) : W p l e room_1 s m #[Value.ref b] below meth c H locs 122 7554 (lw_Z below #[Value.ref b] s) (F0 m 33 ls [.int (nI 50)]) :=
  lv_tableIn (off := 1574) (tgt := 1607) C0.1 C0.2.1 dL_law_33 (by decide) (by decide) (by decide) (by decide) (lw_case_50 (a := a) (g := g) hfz hfw C0 hN hK hP hD hS hl)
set_option maxHeartbeats 4000000 in
set_option maxRecDepth 100000 in
theorem lw_sw_51 {p : Program} {l : Launch} {e : Env} {s : State} {m : MethodId} {below : List Frame} {meth : Method} {c : Code} {b : Nat} {xs : Nat → Int32} {dC : Nat → ClassId} {dI : Nat → Nat → Nat} {cB cI cJ cZ cL : ClassId} {a g : Nat → Nat} {fz fw : Nat → Int32} (hfz : ∀ j, j < 4 → fz j = -1) (hfw : ∀ j, j < 4 → fw j = -1) (C0 : lw_At p s m meth c b 6 xs) (hN : NW s) (hK : va_K (dC, dI) vwCl (tyL cB cI cJ cZ cL) s) {H : Heap} {locs : List Loc} (hP : va_P (dC, dI) vwCl (wXM a g fz fw cB cI cJ cZ cL) H) (hD : va_D (fun q : Nat => s.heap.size ≤ q) (wXM a g fz fw cB cI cJ cZ cL)) (hS : va_S (fun q : Nat => s.heap.size ≤ q) s.heap H locs) {ls : Array Slot} (hl : lv_has ls 4 [(3, .int 0), (2, .ref (g 0)), (1, .ref (a 0)), (0, .ref b)]) : W p l e room_1 s m #[Value.ref b] below meth c H locs 122 7554 (lw_Z below #[Value.ref b] s) (F0 m 33 ls [.int (nI 51)]) :=
  lv_tableIn (off := 1587) (tgt := 1620) C0.1 C0.2.1 dL_law_33 (by decide) (by decide) (by decide) (by decide) (lw_case_51 (a := a) (g := g) hfz hfw C0 hN hK hP hD hS hl)
set_option maxHeartbeats 4000000 in
set_option maxRecDepth 100000 in
theorem lw_sw_52 {p : Program} {l : Launch} {e : Env} {s : State} {m : MethodId} {below : List Frame} {meth : Method} {c : Code} {b : Nat} {xs : Nat → Int32} {dC : Nat → ClassId} {dI : Nat → Nat → Nat} {cB cI cJ cZ cL : ClassId} {a g : Nat → Nat} {fz fw : Nat → Int32} (hfz : ∀ j, j < 4 → fz j = -1) (hfw : ∀ j, j < 4 → fw j = -1) (C0 : lw_At p s m meth c b 6 xs) (hN : NW s) (hK : va_K (dC, dI) vwCl (tyL cB cI cJ cZ cL) s) {H : Heap} {locs : List Loc} (hP : va_P (dC, dI) vwCl (wXM a g fz fw cB cI cJ cZ cL) H) (hD : va_D (fun q : Nat => s.heap.size ≤ q) (wXM a g fz fw cB cI cJ cZ cL)) (hS : va_S (fun q : Nat => s.heap.size ≤ q) s.heap H locs) {ls : Array Slot} (hl : lv_has ls 4 [(3, .int 0), (2, .ref (g 0)), (1, .ref (a 0)), (0, .ref b)]) : W p l e room_1 s m #[Value.ref b] below meth c H locs 122 7554 (lw_Z below #[Value.ref b] s) (F0 m 33 ls [.int (nI 52)]) :=
  lv_tableIn (off := 1610) (tgt := 1643) C0.1 C0.2.1 dL_law_33 (by decide) (by decide) (by decide) (by decide) (lw_case_52 (a := a) (g := g) hfz hfw C0 hN hK hP hD hS hl)
set_option maxHeartbeats 4000000 in
set_option maxRecDepth 100000 in
theorem lw_sw_53 {p : Program} {l : Launch} {e : Env} {s : State} {m : MethodId} {below : List Frame} {meth : Method} {c : Code} {b : Nat} {xs : Nat → Int32} {dC : Nat → ClassId} {dI : Nat → Nat → Nat} {cB cI cJ cZ cL : ClassId} {a g : Nat → Nat} {fz fw : Nat → Int32} (hfz : ∀ j, j < 4 → fz j = -1) (hfw : ∀ j, j < 4 → fw j = -1) (C0 : lw_At p s m meth c b 6 xs) (hN : NW s) (hK : va_K (dC, dI) vwCl (tyL cB cI cJ cZ cL) s) {H : Heap} {locs : List Loc} (hP : va_P (dC, dI) vwCl (wXM a g fz fw cB cI cJ cZ cL) H) (hD : va_D (fun q : Nat => s.heap.size ≤ q) (wXM a g fz fw cB cI cJ cZ cL)) (hS : va_S (fun q : Nat => s.heap.size ≤ q) s.heap H locs) {ls : Array Slot} (hl : lv_has ls 4 [(3, .int 0), (2, .ref (g 0)), (1, .ref (a 0)), (0, .ref b)]) : W p l e room_1 s m #[Value.ref b] below meth c H locs 122 7554 (lw_Z below #[Value.ref b] s) (F0 m 33 ls [.int (nI 53)]) :=
  lv_tableIn (off := 1623) (tgt := 1656) C0.1 C0.2.1 dL_law_33 (by decide) (by decide) (by decide) (by decide) (lw_case_53 (a := a) (g := g) hfz hfw C0 hN hK hP hD hS hl)
set_option maxHeartbeats 4000000 in
set_option maxRecDepth 100000 in
theorem lw_sw_54 {p : Program} {l : Launch} {e : Env} {s : State} {m : MethodId} {below : List Frame} {meth : Method} {c : Code} {b : Nat} {xs : Nat → Int32} {dC : Nat → ClassId} {dI : Nat → Nat → Nat} {cB cI cJ cZ cL : ClassId} {a g : Nat → Nat} {fz fw : Nat → Int32} (hfz : ∀ j, j < 4 → fz j = -1) (hfw : ∀ j, j < 4 → fw j = -1) (C0 : lw_At p s m meth c b 6 xs) (hN : NW s) (hK : va_K (dC, dI) vwCl (tyL cB cI cJ cZ cL) s) {H : Heap} {locs : List Loc} (hP : va_P (dC, dI) vwCl (wXM a g fz fw cB cI cJ cZ cL) H) (hD : va_D (fun q : Nat => s.heap.size ≤ q) (wXM a g fz fw cB cI cJ cZ cL)) (hS : va_S (fun q : Nat => s.heap.size ≤ q) s.heap H locs) {ls : Array Slot} (hl : lv_has ls 4 [(3, .int 0), (2, .ref (g 0)), (1, .ref (a 0)), (0, .ref b)]) : W p l e room_1 s m #[Value.ref b] below meth c H locs 122 7554 (lw_Z below #[Value.ref b] s) (F0 m 33 ls [.int (nI 54)]) :=
  lv_tableIn (off := 1646) (tgt := 1679) C0.1 C0.2.1 dL_law_33 (by decide) (by decide) (by decide) (by decide) (lw_case_54 (a := a) (g := g) hfz hfw C0 hN hK hP hD hS hl)
set_option maxHeartbeats 4000000 in
set_option maxRecDepth 100000 in
theorem lw_sw_55 {p : Program} {l : Launch} {e : Env} {s : State} {m : MethodId} {below : List Frame} {meth : Method} {c : Code} {b : Nat} {xs : Nat → Int32} {dC : Nat → ClassId} {dI : Nat → Nat → Nat} {cB cI cJ cZ cL : ClassId} {a g : Nat → Nat} {fz fw : Nat → Int32} (hfz : ∀ j, j < 4 → fz j = -1) (hfw : ∀ j, j < 4 → fw j = -1) (C0 : lw_At p s m meth c b 6 xs) (hN : NW s) (hK : va_K (dC, dI) vwCl (tyL cB cI cJ cZ cL) s) {H : Heap} {locs : List Loc} (hP : va_P (dC, dI) vwCl (wXM a g fz fw cB cI cJ cZ cL) H) (hD : va_D (fun q : Nat => s.heap.size ≤ q) (wXM a g fz fw cB cI cJ cZ cL)) (hS : va_S (fun q : Nat => s.heap.size ≤ q) s.heap H locs) {ls : Array Slot} (hl : lv_has ls 4 [(3, .int 0), (2, .ref (g 0)), (1, .ref (a 0)), (0, .ref b)]) : W p l e room_1 s m #[Value.ref b] below meth c H locs 122 7554 (lw_Z below #[Value.ref b] s) (F0 m 33 ls [.int (nI 55)]) :=
  lv_tableIn (off := 1669) (tgt := 1702) C0.1 C0.2.1 dL_law_33 (by decide) (by decide) (by decide) (by decide) (lw_case_55 (a := a) (g := g) hfz hfw C0 hN hK hP hD hS hl)
set_option maxHeartbeats 4000000 in
set_option maxRecDepth 100000 in
theorem lw_sw_56 {p : Program} {l : Launch} {e : Env} {s : State} {m : MethodId} {below : List Frame} {meth : Method} {c : Code} {b : Nat} {xs : Nat → Int32} {dC : Nat → ClassId} {dI : Nat → Nat → Nat} {cB cI cJ cZ cL : ClassId} {a g : Nat → Nat} {fz fw : Nat → Int32} (hfz : ∀ j, j < 4 → fz j = -1) (hfw : ∀ j, j < 4 → fw j = -1) (C0 : lw_At p s m meth c b 6 xs) (hN : NW s) (hK : va_K (dC, dI) vwCl (tyL cB cI cJ cZ cL) s) {H : Heap} {locs : List Loc} (hP : va_P (dC, dI) vwCl (wXM a g fz fw cB cI cJ cZ cL) H) (hD : va_D (fun q : Nat => s.heap.size ≤ q) (wXM a g fz fw cB cI cJ cZ cL)) (hS : va_S (fun q : Nat => s.heap.size ≤ q) s.heap H locs) {ls : Array Slot} (hl : lv_has ls 4 [(3, .int 0), (2, .ref (g 0)), (1, .ref (a 0)), (0, .ref b)]) : W p l e room_1 s m #[Value.ref b] below meth c H locs 122 7554 (lw_Z below #[Value.ref b] s) (F0 m 33 ls [.int (nI 56)]) :=
  lv_tableIn (off := 1682) (tgt := 1715) C0.1 C0.2.1 dL_law_33 (by decide) (by decide) (by decide) (by decide) (lw_case_56 (a := a) (g := g) hfz hfw C0 hN hK hP hD hS hl)
set_option maxHeartbeats 4000000 in
set_option maxRecDepth 100000 in
theorem lw_sw_57 {p : Program} {l : Launch} {e : Env} {s : State} {m : MethodId} {below : List Frame} {meth : Method} {c : Code} {b : Nat} {xs : Nat → Int32} {dC : Nat → ClassId} {dI : Nat → Nat → Nat} {cB cI cJ cZ cL : ClassId} {a g : Nat → Nat} {fz fw : Nat → Int32} (hfz : ∀ j, j < 4 → fz j = -1) (hfw : ∀ j, j < 4 → fw j = -1) (C0 : lw_At p s m meth c b 6 xs) (hN : NW s) (hK : va_K (dC, dI) vwCl (tyL cB cI cJ cZ cL) s) {H : Heap} {locs : List Loc} (hP : va_P (dC, dI) vwCl (wXM a g fz fw cB cI cJ cZ cL) H) (hD : va_D (fun q : Nat => s.heap.size ≤ q) (wXM a g fz fw cB cI cJ cZ cL)) (hS : va_S (fun q : Nat => s.heap.size ≤ q) s.heap H locs) {ls : Array Slot} (hl : lv_has ls 4 [(3, .int 0), (2, .ref (g 0)), (1, .ref (a 0)), (0, .ref b)]) : W p l e room_1 s m #[Value.ref b] below meth c H locs 122 7554 (lw_Z below #[Value.ref b] s) (F0 m 33 ls [.int (nI 57)]) :=
  lv_tableIn (off := 1695) (tgt := 1728) C0.1 C0.2.1 dL_law_33 (by decide) (by decide) (by decide) (by decide) (lw_case_57 (a := a) (g := g) hfz hfw C0 hN hK hP hD hS hl)
set_option maxHeartbeats 4000000 in
set_option maxRecDepth 100000 in
theorem lw_sw_58 {p : Program} {l : Launch} {e : Env} {s : State} {m : MethodId} {below : List Frame} {meth : Method} {c : Code} {b : Nat} {xs : Nat → Int32} {dC : Nat → ClassId} {dI : Nat → Nat → Nat} {cB cI cJ cZ cL : ClassId} {a g : Nat → Nat} {fz fw : Nat → Int32} (hfz : ∀ j, j < 4 → fz j = -1) (hfw : ∀ j, j < 4 → fw j = -1) (C0 : lw_At p s m meth c b 6 xs) (hN : NW s) (hK : va_K (dC, dI) vwCl (tyL cB cI cJ cZ cL) s) {H : Heap} {locs : List Loc} (hP : va_P (dC, dI) vwCl (wXM a g fz fw cB cI cJ cZ cL) H) (hD : va_D (fun q : Nat => s.heap.size ≤ q) (wXM a g fz fw cB cI cJ cZ cL)) (hS : va_S (fun q : Nat => s.heap.size ≤ q) s.heap H locs) {ls : Array Slot} (hl : lv_has ls 4 [(3, .int 0), (2, .ref (g 0)), (1, .ref (a 0)), (0, .ref b)]) : W p l e room_1 s m #[Value.ref b] below meth c H locs 122 7554 (lw_Z below #[Value.ref b] s) (F0 m 33 ls [.int (nI 58)]) :=
  lv_tableIn (off := 1728) (tgt := 1761) C0.1 C0.2.1 dL_law_33 (by decide) (by decide) (by decide) (by decide) (lw_case_58 (a := a) (g := g) hfz hfw C0 hN hK hP hD hS hl)
set_option maxHeartbeats 4000000 in
set_option maxRecDepth 100000 in
theorem lw_sw_59 {p : Program} {l : Launch} {e : Env} {s : State} {m : MethodId} {below : List Frame} {meth : Method} {c : Code} {b : Nat} {xs : Nat → Int32} {dC : Nat → ClassId} {dI : Nat → Nat → Nat} {cB cI cJ cZ cL : ClassId} {a g : Nat → Nat} {fz fw : Nat → Int32} (hfz : ∀ j, j < 4 → fz j = -1) (hfw : ∀ j, j < 4 → fw j = -1) (C0 : lw_At p s m meth c b 6 xs) (hN : NW s) (hK : va_K (dC, dI) vwCl (tyL cB cI cJ cZ cL) s) {H : Heap} {locs : List Loc} (hP : va_P (dC, dI) vwCl (wXM a g fz fw cB cI cJ cZ cL) H) (hD : va_D (fun q : Nat => s.heap.size ≤ q) (wXM a g fz fw cB cI cJ cZ cL)) (hS : va_S (fun q : Nat => s.heap.size ≤ q) s.heap H locs) {ls : Array Slot} (hl : lv_has ls 4 [(3, .int 0), (2, .ref (g 0)), (1, .ref (a 0)), (0, .ref b)]) : W p l e room_1 s m #[Value.ref b] below meth c H locs 122 7554 (lw_Z below #[Value.ref b] s) (F0 m 33 ls [.int (nI 59)]) :=
  lv_tableIn (off := 1761) (tgt := 1794) C0.1 C0.2.1 dL_law_33 (by decide) (by decide) (by decide) (by decide) (lw_case_59 (a := a) (g := g) hfz hfw C0 hN hK hP hD hS hl)
set_option maxHeartbeats 4000000 in
set_option maxRecDepth 100000 in
theorem lw_sw_60 {p : Program} {l : Launch} {e : Env} {s : State} {m : MethodId} {below : List Frame} {meth : Method} {c : Code} {b : Nat} {xs : Nat → Int32} {dC : Nat → ClassId} {dI : Nat → Nat → Nat} {cB cI cJ cZ cL : ClassId} {a g : Nat → Nat} {fz fw : Nat → Int32} (hfz : ∀ j, j < 4 → fz j = -1) (hfw : ∀ j, j < 4 → fw j = -1) (C0 : lw_At p s m meth c b 6 xs) (hN : NW s) (hK : va_K (dC, dI) vwCl (tyL cB cI cJ cZ cL) s) {H : Heap} {locs : List Loc} (hP : va_P (dC, dI) vwCl (wXM a g fz fw cB cI cJ cZ cL) H) (hD : va_D (fun q : Nat => s.heap.size ≤ q) (wXM a g fz fw cB cI cJ cZ cL)) (hS : va_S (fun q : Nat => s.heap.size ≤ q) s.heap H locs) {ls : Array Slot} (hl : lv_has ls 4 [(3, .int 0), (2, .ref (g 0)), (1, .ref (a 0)), (0, .ref b)]) : W p l e room_1 s m #[Value.ref b] below meth c H locs 122 7554 (lw_Z below #[Value.ref b] s) (F0 m 33 ls [.int (nI 60)]) :=
  lv_tableIn (off := 1794) (tgt := 1827) C0.1 C0.2.1 dL_law_33 (by decide) (by decide) (by decide) (by decide) (lw_case_60 (a := a) (g := g) hfz hfw C0 hN hK hP hD hS hl)
set_option maxHeartbeats 4000000 in
set_option maxRecDepth 100000 in
theorem lw_sw_61 {p : Program} {l : Launch} {e : Env} {s : State} {m : MethodId} {below : List Frame} {meth : Method} {c : Code} {b : Nat} {xs : Nat → Int32} {dC : Nat → ClassId} {dI : Nat → Nat → Nat} {cB cI cJ cZ cL : ClassId} {a g : Nat → Nat} {fz fw : Nat → Int32} (hfz : ∀ j, j < 4 → fz j = -1) (hfw : ∀ j, j < 4 → fw j = -1) (C0 : lw_At p s m meth c b 6 xs) (hN : NW s) (hK : va_K (dC, dI) vwCl (tyL cB cI cJ cZ cL) s) {H : Heap} {locs : List Loc} (hP : va_P (dC, dI) vwCl (wXM a g fz fw cB cI cJ cZ cL) H) (hD : va_D (fun q : Nat => s.heap.size ≤ q) (wXM a g fz fw cB cI cJ cZ cL)) (hS : va_S (fun q : Nat => s.heap.size ≤ q) s.heap H locs) {ls : Array Slot} (hl : lv_has ls 4 [(3, .int 0), (2, .ref (g 0)), (1, .ref (a 0)), (0, .ref b)]) : W p l e room_1 s m #[Value.ref b] below meth c H locs 122 7554 (lw_Z below #[Value.ref b] s) (F0 m 33 ls [.int (nI 61)]) :=
  lv_tableIn (off := 1827) (tgt := 1860) C0.1 C0.2.1 dL_law_33 (by decide) (by decide) (by decide) (by decide) (lw_case_61 (a := a) (g := g) hfz hfw C0 hN hK hP hD hS hl)
set_option maxHeartbeats 4000000 in
set_option maxRecDepth 100000 in
theorem lw_sw_62 {p : Program} {l : Launch} {e : Env} {s : State} {m : MethodId} {below : List Frame} {meth : Method} {c : Code} {b : Nat} {xs : Nat → Int32} {dC : Nat → ClassId} {dI : Nat → Nat → Nat} {cB cI cJ cZ cL : ClassId} {a g : Nat → Nat} {fz fw : Nat → Int32} (hfz : ∀ j, j < 4 → fz j = -1) (hfw : ∀ j, j < 4 → fw j = -1) (C0 : lw_At p s m meth c b 6 xs) (hN : NW s) (hK : va_K (dC, dI) vwCl (tyL cB cI cJ cZ cL) s) {H : Heap} {locs : List Loc} (hP : va_P (dC, dI) vwCl (wXM a g fz fw cB cI cJ cZ cL) H) (hD : va_D (fun q : Nat => s.heap.size ≤ q) (wXM a g fz fw cB cI cJ cZ cL)) (hS : va_S (fun q : Nat => s.heap.size ≤ q) s.heap H locs) {ls : Array Slot} (hl : lv_has ls 4 [(3, .int 0), (2, .ref (g 0)), (1, .ref (a 0)), (0, .ref b)]) : W p l e room_1 s m #[Value.ref b] below meth c H locs 122 7554 (lw_Z below #[Value.ref b] s) (F0 m 33 ls [.int (nI 62)]) :=
  lv_tableIn (off := 1860) (tgt := 1893) C0.1 C0.2.1 dL_law_33 (by decide) (by decide) (by decide) (by decide) (lw_case_62 (a := a) (g := g) hfz hfw C0 hN hK hP hD hS hl)
set_option maxHeartbeats 4000000 in
set_option maxRecDepth 100000 in
theorem lw_sw_63 {p : Program} {l : Launch} {e : Env} {s : State} {m : MethodId} {below : List Frame} {meth : Method} {c : Code} {b : Nat} {xs : Nat → Int32} {dC : Nat → ClassId} {dI : Nat → Nat → Nat} {cB cI cJ cZ cL : ClassId} {a g : Nat → Nat} {fz fw : Nat → Int32} (hfz : ∀ j, j < 4 → fz j = -1) (hfw : ∀ j, j < 4 → fw j = -1) (C0 : lw_At p s m meth c b 6 xs) (hN : NW s) (hK : va_K (dC, dI) vwCl (tyL cB cI cJ cZ cL) s) {H : Heap} {locs : List Loc} (hP : va_P (dC, dI) vwCl (wXM a g fz fw cB cI cJ cZ cL) H) (hD : va_D (fun q : Nat => s.heap.size ≤ q) (wXM a g fz fw cB cI cJ cZ cL)) (hS : va_S (fun q : Nat => s.heap.size ≤ q) s.heap H locs) {ls : Array Slot} (hl : lv_has ls 4 [(3, .int 0), (2, .ref (g 0)), (1, .ref (a 0)), (0, .ref b)]) : W p l e room_1 s m #[Value.ref b] below meth c H locs 122 7554 (lw_Z below #[Value.ref b] s) (F0 m 33 ls [.int (nI 63)]) :=
  lv_tableIn (off := 1883) (tgt := 1916) C0.1 C0.2.1 dL_law_33 (by decide) (by decide) (by decide) (by decide) (lw_case_63 (a := a) (g := g) hfz hfw C0 hN hK hP hD hS hl)
set_option maxHeartbeats 4000000 in
set_option maxRecDepth 100000 in
theorem lw_sw_64 {p : Program} {l : Launch} {e : Env} {s : State} {m : MethodId} {below : List Frame} {meth : Method} {c : Code} {b : Nat} {xs : Nat → Int32} {dC : Nat → ClassId} {dI : Nat → Nat → Nat} {cB cI cJ cZ cL : ClassId} {a g : Nat → Nat} {fz fw : Nat → Int32} (hfz : ∀ j, j < 4 → fz j = -1) (hfw : ∀ j, j < 4 → fw j = -1) (C0 : lw_At p s m meth c b 6 xs) (hN : NW s) (hK : va_K (dC, dI) vwCl (tyL cB cI cJ cZ cL) s) {H : Heap} {locs : List Loc} (hP : va_P (dC, dI) vwCl (wXM a g fz fw cB cI cJ cZ cL) H) (hD : va_D (fun q : Nat => s.heap.size ≤ q) (wXM a g fz fw cB cI cJ cZ cL)) (hS : va_S (fun q : Nat => s.heap.size ≤ q) s.heap H locs) {ls : Array Slot} (hl : lv_has ls 4 [(3, .int 0), (2, .ref (g 0)), (1, .ref (a 0)), (0, .ref b)]) : W p l e room_1 s m #[Value.ref b] below meth c H locs 122 7554 (lw_Z below #[Value.ref b] s) (F0 m 33 ls [.int (nI 64)]) :=
  lv_tableIn (off := 1906) (tgt := 1939) C0.1 C0.2.1 dL_law_33 (by decide) (by decide) (by decide) (by decide) (lw_case_64 (a := a) (g := g) hfz hfw C0 hN hK hP hD hS hl)
set_option maxHeartbeats 4000000 in
set_option maxRecDepth 100000 in
theorem lw_sw_65 {p : Program} {l : Launch} {e : Env} {s : State} {m : MethodId} {below : List Frame} {meth : Method} {c : Code} {b : Nat} {xs : Nat → Int32} {dC : Nat → ClassId} {dI : Nat → Nat → Nat} {cB cI cJ cZ cL : ClassId} {a g : Nat → Nat} {fz fw : Nat → Int32} (hfz : ∀ j, j < 4 → fz j = -1) (hfw : ∀ j, j < 4 → fw j = -1) (C0 : lw_At p s m meth c b 6 xs) (hN : NW s) (hK : va_K (dC, dI) vwCl (tyL cB cI cJ cZ cL) s) {H : Heap} {locs : List Loc} (hP : va_P (dC, dI) vwCl (wXM a g fz fw cB cI cJ cZ cL) H) (hD : va_D (fun q : Nat => s.heap.size ≤ q) (wXM a g fz fw cB cI cJ cZ cL)) (hS : va_S (fun q : Nat => s.heap.size ≤ q) s.heap H locs) {ls : Array Slot} (hl : lv_has ls 4 [(3, .int 0), (2, .ref (g 0)), (1, .ref (a 0)), (0, .ref b)]) : W p l e room_1 s m #[Value.ref b] below meth c H locs 122 7554 (lw_Z below #[Value.ref b] s) (F0 m 33 ls [.int (nI 65)]) :=
  lv_tableIn (off := 1929) (tgt := 1962) C0.1 C0.2.1 dL_law_33 (by decide) (by decide) (by decide) (by decide) (lw_case_65 (a := a) (g := g) hfz hfw C0 hN hK hP hD hS hl)
set_option maxHeartbeats 4000000 in
set_option maxRecDepth 100000 in
theorem lw_sw_66 {p : Program} {l : Launch} {e : Env} {s : State} {m : MethodId} {below : List Frame} {meth : Method} {c : Code} {b : Nat} {xs : Nat → Int32} {dC : Nat → ClassId} {dI : Nat → Nat → Nat} {cB cI cJ cZ cL : ClassId} {a g : Nat → Nat} {fz fw : Nat → Int32} (hfz : ∀ j, j < 4 → fz j = -1) (hfw : ∀ j, j < 4 → fw j = -1) (C0 : lw_At p s m meth c b 6 xs) (hN : NW s) (hK : va_K (dC, dI) vwCl (tyL cB cI cJ cZ cL) s) {H : Heap} {locs : List Loc} (hP : va_P (dC, dI) vwCl (wXM a g fz fw cB cI cJ cZ cL) H) (hD : va_D (fun q : Nat => s.heap.size ≤ q) (wXM a g fz fw cB cI cJ cZ cL)) (hS : va_S (fun q : Nat => s.heap.size ≤ q) s.heap H locs) {ls : Array Slot} (hl : lv_has ls 4 [(3, .int 0), (2, .ref (g 0)), (1, .ref (a 0)), (0, .ref b)]) : W p l e room_1 s m #[Value.ref b] below meth c H locs 122 7554 (lw_Z below #[Value.ref b] s) (F0 m 33 ls [.int (nI 66)]) :=
  lv_tableIn (off := 1952) (tgt := 1985) C0.1 C0.2.1 dL_law_33 (by decide) (by decide) (by decide) (by decide) (lw_case_66 (a := a) (g := g) hfz hfw C0 hN hK hP hD hS hl)
set_option maxHeartbeats 4000000 in
set_option maxRecDepth 100000 in
theorem lw_sw_67 {p : Program} {l : Launch} {e : Env} {s : State} {m : MethodId} {below : List Frame} {meth : Method} {c : Code} {b : Nat} {xs : Nat → Int32} {dC : Nat → ClassId} {dI : Nat → Nat → Nat} {cB cI cJ cZ cL : ClassId} {a g : Nat → Nat} {fz fw : Nat → Int32} (hfz : ∀ j, j < 4 → fz j = -1) (hfw : ∀ j, j < 4 → fw j = -1) (C0 : lw_At p s m meth c b 6 xs) (hN : NW s) (hK : va_K (dC, dI) vwCl (tyL cB cI cJ cZ cL) s) {H : Heap} {locs : List Loc} (hP : va_P (dC, dI) vwCl (wXM a g fz fw cB cI cJ cZ cL) H) (hD : va_D (fun q : Nat => s.heap.size ≤ q) (wXM a g fz fw cB cI cJ cZ cL)) (hS : va_S (fun q : Nat => s.heap.size ≤ q) s.heap H locs) {ls : Array Slot} (hl : lv_has ls 4 [(3, .int 0), (2, .ref (g 0)), (1, .ref (a 0)), (0, .ref b)]) : W p l e room_1 s m #[Value.ref b] below meth c H locs 122 7554 (lw_Z below #[Value.ref b] s) (F0 m 33 ls [.int (nI 67)]) :=
  lv_tableIn (off := 1965) (tgt := 1998) C0.1 C0.2.1 dL_law_33 (by decide) (by decide) (by decide) (by decide) (lw_case_67 (a := a) (g := g) hfz hfw C0 hN hK hP hD hS hl)
set_option maxHeartbeats 4000000 in
set_option maxRecDepth 100000 in
theorem lw_sw_68 {p : Program} {l : Launch} {e : Env} {s : State} {m : MethodId} {below : List Frame} {meth : Method} {c : Code} {b : Nat} {xs : Nat → Int32} {dC : Nat → ClassId} {dI : Nat → Nat → Nat} {cB cI cJ cZ cL : ClassId} {a g : Nat → Nat} {fz fw : Nat → Int32} (hfz : ∀ j, j < 4 → fz j = -1) (hfw : ∀ j, j < 4 → fw j = -1) (C0 : lw_At p s m meth c b 6 xs) (hN : NW s) (hK : va_K (dC, dI) vwCl (tyL cB cI cJ cZ cL) s) {H : Heap} {locs : List Loc} (hP : va_P (dC, dI) vwCl (wXM a g fz fw cB cI cJ cZ cL) H) (hD : va_D (fun q : Nat => s.heap.size ≤ q) (wXM a g fz fw cB cI cJ cZ cL)) (hS : va_S (fun q : Nat => s.heap.size ≤ q) s.heap H locs) {ls : Array Slot} (hl : lv_has ls 4 [(3, .int 0), (2, .ref (g 0)), (1, .ref (a 0)), (0, .ref b)]) : W p l e room_1 s m #[Value.ref b] below meth c H locs 122 7554 (lw_Z below #[Value.ref b] s) (F0 m 33 ls [.int (nI 68)]) :=
  lv_tableIn (off := 1988) (tgt := 2021) C0.1 C0.2.1 dL_law_33 (by decide) (by decide) (by decide) (by decide) (lw_case_68 (a := a) (g := g) hfz hfw C0 hN hK hP hD hS hl)
set_option maxHeartbeats 4000000 in
set_option maxRecDepth 100000 in
theorem lw_sw_69 {p : Program} {l : Launch} {e : Env} {s : State} {m : MethodId} {below : List Frame} {meth : Method} {c : Code} {b : Nat} {xs : Nat → Int32} {dC : Nat → ClassId} {dI : Nat → Nat → Nat} {cB cI cJ cZ cL : ClassId} {a g : Nat → Nat} {fz fw : Nat → Int32} (hfz : ∀ j, j < 4 → fz j = -1) (hfw : ∀ j, j < 4 → fw j = -1) (C0 : lw_At p s m meth c b 6 xs) (hN : NW s) (hK : va_K (dC, dI) vwCl (tyL cB cI cJ cZ cL) s) {H : Heap} {locs : List Loc} (hP : va_P (dC, dI) vwCl (wXM a g fz fw cB cI cJ cZ cL) H) (hD : va_D (fun q : Nat => s.heap.size ≤ q) (wXM a g fz fw cB cI cJ cZ cL)) (hS : va_S (fun q : Nat => s.heap.size ≤ q) s.heap H locs) {ls : Array Slot} (hl : lv_has ls 4 [(3, .int 0), (2, .ref (g 0)), (1, .ref (a 0)), (0, .ref b)]) : W p l e room_1 s m #[Value.ref b] below meth c H locs 122 7554 (lw_Z below #[Value.ref b] s) (F0 m 33 ls [.int (nI 69)]) :=
  lv_tableIn (off := 2021) (tgt := 2054) C0.1 C0.2.1 dL_law_33 (by decide) (by decide) (by decide) (by decide) (lw_case_69 (a := a) (g := g) hfz hfw C0 hN hK hP hD hS hl)
set_option maxHeartbeats 4000000 in
set_option maxRecDepth 100000 in
theorem lw_sw_70 {p : Program} {l : Launch} {e : Env} {s : State} {m : MethodId} {below : List Frame} {meth : Method} {c : Code} {b : Nat} {xs : Nat → Int32} {dC : Nat → ClassId} {dI : Nat → Nat → Nat} {cB cI cJ cZ cL : ClassId} {a g : Nat → Nat} {fz fw : Nat → Int32} (hfz : ∀ j, j < 4 → fz j = -1) (hfw : ∀ j, j < 4 → fw j = -1) (C0 : lw_At p s m meth c b 6 xs) (hN : NW s) (hK : va_K (dC, dI) vwCl (tyL cB cI cJ cZ cL) s) {H : Heap} {locs : List Loc} (hP : va_P (dC, dI) vwCl (wXM a g fz fw cB cI cJ cZ cL) H) (hD : va_D (fun q : Nat => s.heap.size ≤ q) (wXM a g fz fw cB cI cJ cZ cL)) (hS : va_S (fun q : Nat => s.heap.size ≤ q) s.heap H locs) {ls : Array Slot} (hl : lv_has ls 4 [(3, .int 0), (2, .ref (g 0)), (1, .ref (a 0)), (0, .ref b)]) : W p l e room_1 s m #[Value.ref b] below meth c H locs 122 7554 (lw_Z below #[Value.ref b] s) (F0 m 33 ls [.int (nI 70)]) :=
  lv_tableIn (off := 2054) (tgt := 2087) C0.1 C0.2.1 dL_law_33 (by decide) (by decide) (by decide) (by decide) (lw_case_70 (a := a) (g := g) hfz hfw C0 hN hK hP hD hS hl)
set_option maxHeartbeats 4000000 in
set_option maxRecDepth 100000 in
theorem lw_sw_71 {p : Program} {l : Launch} {e : Env} {s : State} {m : MethodId} {below : List Frame} {meth : Method} {c : Code} {b : Nat} {xs : Nat → Int32} {dC : Nat → ClassId} {dI : Nat → Nat → Nat} {cB cI cJ cZ cL : ClassId} {a g : Nat → Nat} {fz fw : Nat → Int32} (hfz : ∀ j, j < 4 → fz j = -1) (hfw : ∀ j, j < 4 → fw j = -1) (C0 : lw_At p s m meth c b 6 xs) (hN : NW s) (hK : va_K (dC, dI) vwCl (tyL cB cI cJ cZ cL) s) {H : Heap} {locs : List Loc} (hP : va_P (dC, dI) vwCl (wXM a g fz fw cB cI cJ cZ cL) H) (hD : va_D (fun q : Nat => s.heap.size ≤ q) (wXM a g fz fw cB cI cJ cZ cL)) (hS : va_S (fun q : Nat => s.heap.size ≤ q) s.heap H locs) {ls : Array Slot} (hl : lv_has ls 4 [(3, .int 0), (2, .ref (g 0)), (1, .ref (a 0)), (0, .ref b)]) : W p l e room_1 s m #[Value.ref b] below meth c H locs 122 7554 (lw_Z below #[Value.ref b] s) (F0 m 33 ls [.int (nI 71)]) :=
  lv_tableIn (off := 2107) (tgt := 2140) C0.1 C0.2.1 dL_law_33 (by decide) (by decide) (by decide) (by decide) (lw_case_71 (a := a) (g := g) hfz hfw C0 hN hK hP hD hS hl)
set_option maxHeartbeats 4000000 in
set_option maxRecDepth 100000 in
theorem lw_sw_72 {p : Program} {l : Launch} {e : Env} {s : State} {m : MethodId} {below : List Frame} {meth : Method} {c : Code} {b : Nat} {xs : Nat → Int32} {dC : Nat → ClassId} {dI : Nat → Nat → Nat} {cB cI cJ cZ cL : ClassId} {a g : Nat → Nat} {fz fw : Nat → Int32} (hfz : ∀ j, j < 4 → fz j = -1) (hfw : ∀ j, j < 4 → fw j = -1) (C0 : lw_At p s m meth c b 6 xs) (hN : NW s) (hK : va_K (dC, dI) vwCl (tyL cB cI cJ cZ cL) s) {H : Heap} {locs : List Loc} (hP : va_P (dC, dI) vwCl (wXM a g fz fw cB cI cJ cZ cL) H) (hD : va_D (fun q : Nat => s.heap.size ≤ q) (wXM a g fz fw cB cI cJ cZ cL)) (hS : va_S (fun q : Nat => s.heap.size ≤ q) s.heap H locs) {ls : Array Slot} (hl : lv_has ls 4 [(3, .int 0), (2, .ref (g 0)), (1, .ref (a 0)), (0, .ref b)]) : W p l e room_1 s m #[Value.ref b] below meth c H locs 122 7554 (lw_Z below #[Value.ref b] s) (F0 m 33 ls [.int (nI 72)]) :=
  lv_tableIn (off := 2150) (tgt := 2183) C0.1 C0.2.1 dL_law_33 (by decide) (by decide) (by decide) (by decide) (lw_case_72 (a := a) (g := g) hfz hfw C0 hN hK hP hD hS hl)
set_option maxHeartbeats 4000000 in
set_option maxRecDepth 100000 in
theorem lw_sw_73 {p : Program} {l : Launch} {e : Env} {s : State} {m : MethodId} {below : List Frame} {meth : Method} {c : Code} {b : Nat} {xs : Nat → Int32} {dC : Nat → ClassId} {dI : Nat → Nat → Nat} {cB cI cJ cZ cL : ClassId} {a g : Nat → Nat} {fz fw : Nat → Int32} (hfz : ∀ j, j < 4 → fz j = -1) (hfw : ∀ j, j < 4 → fw j = -1) (C0 : lw_At p s m meth c b 6 xs) (hN : NW s) (hK : va_K (dC, dI) vwCl (tyL cB cI cJ cZ cL) s) {H : Heap} {locs : List Loc} (hP : va_P (dC, dI) vwCl (wXM a g fz fw cB cI cJ cZ cL) H) (hD : va_D (fun q : Nat => s.heap.size ≤ q) (wXM a g fz fw cB cI cJ cZ cL)) (hS : va_S (fun q : Nat => s.heap.size ≤ q) s.heap H locs) {ls : Array Slot} (hl : lv_has ls 4 [(3, .int 0), (2, .ref (g 0)), (1, .ref (a 0)), (0, .ref b)]) : W p l e room_1 s m #[Value.ref b] below meth c H locs 122 7554 (lw_Z below #[Value.ref b] s) (F0 m 33 ls [.int (nI 73)]) :=
  lv_tableIn (off := 2184) (tgt := 2217) C0.1 C0.2.1 dL_law_33 (by decide) (by decide) (by decide) (by decide) (lw_case_73 (a := a) (g := g) hfz hfw C0 hN hK hP hD hS hl)
set_option maxHeartbeats 4000000 in
set_option maxRecDepth 100000 in
theorem lw_sw_74 {p : Program} {l : Launch} {e : Env} {s : State} {m : MethodId} {below : List Frame} {meth : Method} {c : Code} {b : Nat} {xs : Nat → Int32} {dC : Nat → ClassId} {dI : Nat → Nat → Nat} {cB cI cJ cZ cL : ClassId} {a g : Nat → Nat} {fz fw : Nat → Int32} (hfz : ∀ j, j < 4 → fz j = -1) (hfw : ∀ j, j < 4 → fw j = -1) (C0 : lw_At p s m meth c b 6 xs) (hN : NW s) (hK : va_K (dC, dI) vwCl (tyL cB cI cJ cZ cL) s) {H : Heap} {locs : List Loc} (hP : va_P (dC, dI) vwCl (wXM a g fz fw cB cI cJ cZ cL) H) (hD : va_D (fun q : Nat => s.heap.size ≤ q) (wXM a g fz fw cB cI cJ cZ cL)) (hS : va_S (fun q : Nat => s.heap.size ≤ q) s.heap H locs) {ls : Array Slot} (hl : lv_has ls 4 [(3, .int 0), (2, .ref (g 0)), (1, .ref (a 0)), (0, .ref b)]) : W p l e room_1 s m #[Value.ref b] below meth c H locs 122 7554 (lw_Z below #[Value.ref b] s) (F0 m 33 ls [.int (nI 74)]) :=
  lv_tableIn (off := 2217) (tgt := 2250) C0.1 C0.2.1 dL_law_33 (by decide) (by decide) (by decide) (by decide) (lw_case_74 (a := a) (g := g) hfz hfw C0 hN hK hP hD hS hl)
set_option maxHeartbeats 4000000 in
set_option maxRecDepth 100000 in
theorem lw_sw_75 {p : Program} {l : Launch} {e : Env} {s : State} {m : MethodId} {below : List Frame} {meth : Method} {c : Code} {b : Nat} {xs : Nat → Int32} {dC : Nat → ClassId} {dI : Nat → Nat → Nat} {cB cI cJ cZ cL : ClassId} {a g : Nat → Nat} {fz fw : Nat → Int32} (hfz : ∀ j, j < 4 → fz j = -1) (hfw : ∀ j, j < 4 → fw j = -1) (C0 : lw_At p s m meth c b 6 xs) (hN : NW s) (hK : va_K (dC, dI) vwCl (tyL cB cI cJ cZ cL) s) {H : Heap} {locs : List Loc} (hP : va_P (dC, dI) vwCl (wXM a g fz fw cB cI cJ cZ cL) H) (hD : va_D (fun q : Nat => s.heap.size ≤ q) (wXM a g fz fw cB cI cJ cZ cL)) (hS : va_S (fun q : Nat => s.heap.size ≤ q) s.heap H locs) {ls : Array Slot} (hl : lv_has ls 4 [(3, .int 0), (2, .ref (g 0)), (1, .ref (a 0)), (0, .ref b)]) : W p l e room_1 s m #[Value.ref b] below meth c H locs 122 7554 (lw_Z below #[Value.ref b] s) (F0 m 33 ls [.int (nI 75)]) :=
  lv_tableIn (off := 2250) (tgt := 2283) C0.1 C0.2.1 dL_law_33 (by decide) (by decide) (by decide) (by decide) (lw_case_75 (a := a) (g := g) hfz hfw C0 hN hK hP hD hS hl)
set_option maxHeartbeats 4000000 in
set_option maxRecDepth 100000 in
theorem lw_sw_76 {p : Program} {l : Launch} {e : Env} {s : State} {m : MethodId} {below : List Frame} {meth : Method} {c : Code} {b : Nat} {xs : Nat → Int32} {dC : Nat → ClassId} {dI : Nat → Nat → Nat} {cB cI cJ cZ cL : ClassId} {a g : Nat → Nat} {fz fw : Nat → Int32} (hfz : ∀ j, j < 4 → fz j = -1) (hfw : ∀ j, j < 4 → fw j = -1) (C0 : lw_At p s m meth c b 6 xs) (hN : NW s) (hK : va_K (dC, dI) vwCl (tyL cB cI cJ cZ cL) s) {H : Heap} {locs : List Loc} (hP : va_P (dC, dI) vwCl (wXM a g fz fw cB cI cJ cZ cL) H) (hD : va_D (fun q : Nat => s.heap.size ≤ q) (wXM a g fz fw cB cI cJ cZ cL)) (hS : va_S (fun q : Nat => s.heap.size ≤ q) s.heap H locs) {ls : Array Slot} (hl : lv_has ls 4 [(3, .int 0), (2, .ref (g 0)), (1, .ref (a 0)), (0, .ref b)]) : W p l e room_1 s m #[Value.ref b] below meth c H locs 122 7554 (lw_Z below #[Value.ref b] s) (F0 m 33 ls [.int (nI 76)]) :=
  lv_tableIn (off := 2263) (tgt := 2296) C0.1 C0.2.1 dL_law_33 (by decide) (by decide) (by decide) (by decide) (lw_case_76 (a := a) (g := g) hfz hfw C0 hN hK hP hD hS hl)
set_option maxHeartbeats 4000000 in
set_option maxRecDepth 100000 in
theorem lw_sw_77 {p : Program} {l : Launch} {e : Env} {s : State} {m : MethodId} {below : List Frame} {meth : Method} {c : Code} {b : Nat} {xs : Nat → Int32} {dC : Nat → ClassId} {dI : Nat → Nat → Nat} {cB cI cJ cZ cL : ClassId} {a g : Nat → Nat} {fz fw : Nat → Int32} (hfz : ∀ j, j < 4 → fz j = -1) (hfw : ∀ j, j < 4 → fw j = -1) (C0 : lw_At p s m meth c b 6 xs) (hN : NW s) (hK : va_K (dC, dI) vwCl (tyL cB cI cJ cZ cL) s) {H : Heap} {locs : List Loc} (hP : va_P (dC, dI) vwCl (wXM a g fz fw cB cI cJ cZ cL) H) (hD : va_D (fun q : Nat => s.heap.size ≤ q) (wXM a g fz fw cB cI cJ cZ cL)) (hS : va_S (fun q : Nat => s.heap.size ≤ q) s.heap H locs) {ls : Array Slot} (hl : lv_has ls 4 [(3, .int 0), (2, .ref (g 0)), (1, .ref (a 0)), (0, .ref b)]) : W p l e room_1 s m #[Value.ref b] below meth c H locs 122 7554 (lw_Z below #[Value.ref b] s) (F0 m 33 ls [.int (nI 77)]) :=
  lv_tableIn (off := 2276) (tgt := 2309) C0.1 C0.2.1 dL_law_33 (by decide) (by decide) (by decide) (by decide) (lw_case_77 (a := a) (g := g) hfz hfw C0 hN hK hP hD hS hl)
set_option maxHeartbeats 4000000 in
set_option maxRecDepth 100000 in
theorem lw_sw_78 {p : Program} {l : Launch} {e : Env} {s : State} {m : MethodId} {below : List Frame} {meth : Method} {c : Code} {b : Nat} {xs : Nat → Int32} {dC : Nat → ClassId} {dI : Nat → Nat → Nat} {cB cI cJ cZ cL : ClassId} {a g : Nat → Nat} {fz fw : Nat → Int32} (hfz : ∀ j, j < 4 → fz j = -1) (hfw : ∀ j, j < 4 → fw j = -1) (C0 : lw_At p s m meth c b 6 xs) (hN : NW s) (hK : va_K (dC, dI) vwCl (tyL cB cI cJ cZ cL) s) {H : Heap} {locs : List Loc} (hP : va_P (dC, dI) vwCl (wXM a g fz fw cB cI cJ cZ cL) H) (hD : va_D (fun q : Nat => s.heap.size ≤ q) (wXM a g fz fw cB cI cJ cZ cL)) (hS : va_S (fun q : Nat => s.heap.size ≤ q) s.heap H locs) {ls : Array Slot} (hl : lv_has ls 4 [(3, .int 0), (2, .ref (g 0)), (1, .ref (a 0)), (0, .ref b)]) : W p l e room_1 s m #[Value.ref b] below meth c H locs 122 7554 (lw_Z below #[Value.ref b] s) (F0 m 33 ls [.int (nI 78)]) :=
  lv_tableIn (off := 2309) (tgt := 2342) C0.1 C0.2.1 dL_law_33 (by decide) (by decide) (by decide) (by decide) (lw_case_78 (a := a) (g := g) hfz hfw C0 hN hK hP hD hS hl)
set_option maxHeartbeats 4000000 in
set_option maxRecDepth 100000 in
theorem lw_sw_79 {p : Program} {l : Launch} {e : Env} {s : State} {m : MethodId} {below : List Frame} {meth : Method} {c : Code} {b : Nat} {xs : Nat → Int32} {dC : Nat → ClassId} {dI : Nat → Nat → Nat} {cB cI cJ cZ cL : ClassId} {a g : Nat → Nat} {fz fw : Nat → Int32} (hfz : ∀ j, j < 4 → fz j = -1) (hfw : ∀ j, j < 4 → fw j = -1) (C0 : lw_At p s m meth c b 6 xs) (hN : NW s) (hK : va_K (dC, dI) vwCl (tyL cB cI cJ cZ cL) s) {H : Heap} {locs : List Loc} (hP : va_P (dC, dI) vwCl (wXM a g fz fw cB cI cJ cZ cL) H) (hD : va_D (fun q : Nat => s.heap.size ≤ q) (wXM a g fz fw cB cI cJ cZ cL)) (hS : va_S (fun q : Nat => s.heap.size ≤ q) s.heap H locs) {ls : Array Slot} (hl : lv_has ls 4 [(3, .int 0), (2, .ref (g 0)), (1, .ref (a 0)), (0, .ref b)]) : W p l e room_1 s m #[Value.ref b] below meth c H locs 122 7554 (lw_Z below #[Value.ref b] s) (F0 m 33 ls [.int (nI 79)]) :=
  lv_tableIn (off := 2352) (tgt := 2385) C0.1 C0.2.1 dL_law_33 (by decide) (by decide) (by decide) (by decide) (lw_case_79 (a := a) (g := g) hfz hfw C0 hN hK hP hD hS hl)
set_option maxHeartbeats 4000000 in
set_option maxRecDepth 100000 in
theorem lw_sw_80 {p : Program} {l : Launch} {e : Env} {s : State} {m : MethodId} {below : List Frame} {meth : Method} {c : Code} {b : Nat} {xs : Nat → Int32} {dC : Nat → ClassId} {dI : Nat → Nat → Nat} {cB cI cJ cZ cL : ClassId} {a g : Nat → Nat} {fz fw : Nat → Int32} (hfz : ∀ j, j < 4 → fz j = -1) (hfw : ∀ j, j < 4 → fw j = -1) (C0 : lw_At p s m meth c b 6 xs) (hN : NW s) (hK : va_K (dC, dI) vwCl (tyL cB cI cJ cZ cL) s) {H : Heap} {locs : List Loc} (hP : va_P (dC, dI) vwCl (wXM a g fz fw cB cI cJ cZ cL) H) (hD : va_D (fun q : Nat => s.heap.size ≤ q) (wXM a g fz fw cB cI cJ cZ cL)) (hS : va_S (fun q : Nat => s.heap.size ≤ q) s.heap H locs) {ls : Array Slot} (hl : lv_has ls 4 [(3, .int 0), (2, .ref (g 0)), (1, .ref (a 0)), (0, .ref b)]) : W p l e room_1 s m #[Value.ref b] below meth c H locs 122 7554 (lw_Z below #[Value.ref b] s) (F0 m 33 ls [.int (nI 80)]) :=
  lv_tableIn (off := 2385) (tgt := 2418) C0.1 C0.2.1 dL_law_33 (by decide) (by decide) (by decide) (by decide) (lw_case_80 (a := a) (g := g) hfz hfw C0 hN hK hP hD hS hl)
set_option maxHeartbeats 4000000 in
set_option maxRecDepth 100000 in
theorem lw_sw_81 {p : Program} {l : Launch} {e : Env} {s : State} {m : MethodId} {below : List Frame} {meth : Method} {c : Code} {b : Nat} {xs : Nat → Int32} {dC : Nat → ClassId} {dI : Nat → Nat → Nat} {cB cI cJ cZ cL : ClassId} {a g : Nat → Nat} {fz fw : Nat → Int32} (hfz : ∀ j, j < 4 → fz j = -1) (hfw : ∀ j, j < 4 → fw j = -1) (C0 : lw_At p s m meth c b 6 xs) (hN : NW s) (hK : va_K (dC, dI) vwCl (tyL cB cI cJ cZ cL) s) {H : Heap} {locs : List Loc} (hP : va_P (dC, dI) vwCl (wXM a g fz fw cB cI cJ cZ cL) H) (hD : va_D (fun q : Nat => s.heap.size ≤ q) (wXM a g fz fw cB cI cJ cZ cL)) (hS : va_S (fun q : Nat => s.heap.size ≤ q) s.heap H locs) {ls : Array Slot} (hl : lv_has ls 4 [(3, .int 0), (2, .ref (g 0)), (1, .ref (a 0)), (0, .ref b)]) : W p l e room_1 s m #[Value.ref b] below meth c H locs 122 7554 (lw_Z below #[Value.ref b] s) (F0 m 33 ls [.int (nI 81)]) :=
  lv_tableIn (off := 2408) (tgt := 2441) C0.1 C0.2.1 dL_law_33 (by decide) (by decide) (by decide) (by decide) (lw_case_81 (a := a) (g := g) hfz hfw C0 hN hK hP hD hS hl)
set_option maxHeartbeats 4000000 in
set_option maxRecDepth 100000 in
theorem lw_sw_82 {p : Program} {l : Launch} {e : Env} {s : State} {m : MethodId} {below : List Frame} {meth : Method} {c : Code} {b : Nat} {xs : Nat → Int32} {dC : Nat → ClassId} {dI : Nat → Nat → Nat} {cB cI cJ cZ cL : ClassId} {a g : Nat → Nat} {fz fw : Nat → Int32} (hfz : ∀ j, j < 4 → fz j = -1) (hfw : ∀ j, j < 4 → fw j = -1) (C0 : lw_At p s m meth c b 6 xs) (hN : NW s) (hK : va_K (dC, dI) vwCl (tyL cB cI cJ cZ cL) s) {H : Heap} {locs : List Loc} (hP : va_P (dC, dI) vwCl (wXM a g fz fw cB cI cJ cZ cL) H) (hD : va_D (fun q : Nat => s.heap.size ≤ q) (wXM a g fz fw cB cI cJ cZ cL)) (hS : va_S (fun q : Nat => s.heap.size ≤ q) s.heap H locs) {ls : Array Slot} (hl : lv_has ls 4 [(3, .int 0), (2, .ref (g 0)), (1, .ref (a 0)), (0, .ref b)]) : W p l e room_1 s m #[Value.ref b] below meth c H locs 122 7554 (lw_Z below #[Value.ref b] s) (F0 m 33 ls [.int (nI 82)]) :=
  lv_tableIn (off := 2431) (tgt := 2464) C0.1 C0.2.1 dL_law_33 (by decide) (by decide) (by decide) (by decide) (lw_case_82 (a := a) (g := g) hfz hfw C0 hN hK hP hD hS hl)
set_option maxHeartbeats 4000000 in
set_option maxRecDepth 100000 in
theorem lw_sw_83 {p : Program} {l : Launch} {e : Env} {s : State} {m : MethodId} {below : List Frame} {meth : Method} {c : Code} {b : Nat} {xs : Nat → Int32} {dC : Nat → ClassId} {dI : Nat → Nat → Nat} {cB cI cJ cZ cL : ClassId} {a g : Nat → Nat} {fz fw : Nat → Int32} (hfz : ∀ j, j < 4 → fz j = -1) (hfw : ∀ j, j < 4 → fw j = -1) (C0 : lw_At p s m meth c b 6 xs) (hN : NW s) (hK : va_K (dC, dI) vwCl (tyL cB cI cJ cZ cL) s) {H : Heap} {locs : List Loc} (hP : va_P (dC, dI) vwCl (wXM a g fz fw cB cI cJ cZ cL) H) (hD : va_D (fun q : Nat => s.heap.size ≤ q) (wXM a g fz fw cB cI cJ cZ cL)) (hS : va_S (fun q : Nat => s.heap.size ≤ q) s.heap H locs) {ls : Array Slot} (hl : lv_has ls 4 [(3, .int 0), (2, .ref (g 0)), (1, .ref (a 0)), (0, .ref b)]) : W p l e room_1 s m #[Value.ref b] below meth c H locs 122 7554 (lw_Z below #[Value.ref b] s) (F0 m 33 ls [.int (nI 83)]) :=
  lv_tableIn (off := 2454) (tgt := 2487) C0.1 C0.2.1 dL_law_33 (by decide) (by decide) (by decide) (by decide) (lw_case_83 (a := a) (g := g) hfz hfw C0 hN hK hP hD hS hl)
set_option maxHeartbeats 4000000 in
set_option maxRecDepth 100000 in
theorem lw_sw_84 {p : Program} {l : Launch} {e : Env} {s : State} {m : MethodId} {below : List Frame} {meth : Method} {c : Code} {b : Nat} {xs : Nat → Int32} {dC : Nat → ClassId} {dI : Nat → Nat → Nat} {cB cI cJ cZ cL : ClassId} {a g : Nat → Nat} {fz fw : Nat → Int32} (hfz : ∀ j, j < 4 → fz j = -1) (hfw : ∀ j, j < 4 → fw j = -1) (C0 : lw_At p s m meth c b 6 xs) (hN : NW s) (hK : va_K (dC, dI) vwCl (tyL cB cI cJ cZ cL) s) {H : Heap} {locs : List Loc} (hP : va_P (dC, dI) vwCl (wXM a g fz fw cB cI cJ cZ cL) H) (hD : va_D (fun q : Nat => s.heap.size ≤ q) (wXM a g fz fw cB cI cJ cZ cL)) (hS : va_S (fun q : Nat => s.heap.size ≤ q) s.heap H locs) {ls : Array Slot} (hl : lv_has ls 4 [(3, .int 0), (2, .ref (g 0)), (1, .ref (a 0)), (0, .ref b)]) : W p l e room_1 s m #[Value.ref b] below meth c H locs 122 7554 (lw_Z below #[Value.ref b] s) (F0 m 33 ls [.int (nI 84)]) :=
  lv_tableIn (off := 2497) (tgt := 2530) C0.1 C0.2.1 dL_law_33 (by decide) (by decide) (by decide) (by decide) (lw_case_84 (a := a) (g := g) hfz hfw C0 hN hK hP hD hS hl)
set_option maxHeartbeats 4000000 in
set_option maxRecDepth 100000 in
theorem lw_sw_85 {p : Program} {l : Launch} {e : Env} {s : State} {m : MethodId} {below : List Frame} {meth : Method} {c : Code} {b : Nat} {xs : Nat → Int32} {dC : Nat → ClassId} {dI : Nat → Nat → Nat} {cB cI cJ cZ cL : ClassId} {a g : Nat → Nat} {fz fw : Nat → Int32} (hfz : ∀ j, j < 4 → fz j = -1) (hfw : ∀ j, j < 4 → fw j = -1) (C0 : lw_At p s m meth c b 6 xs) (hN : NW s) (hK : va_K (dC, dI) vwCl (tyL cB cI cJ cZ cL) s) {H : Heap} {locs : List Loc} (hP : va_P (dC, dI) vwCl (wXM a g fz fw cB cI cJ cZ cL) H) (hD : va_D (fun q : Nat => s.heap.size ≤ q) (wXM a g fz fw cB cI cJ cZ cL)) (hS : va_S (fun q : Nat => s.heap.size ≤ q) s.heap H locs) {ls : Array Slot} (hl : lv_has ls 4 [(3, .int 0), (2, .ref (g 0)), (1, .ref (a 0)), (0, .ref b)]) : W p l e room_1 s m #[Value.ref b] below meth c H locs 122 7554 (lw_Z below #[Value.ref b] s) (F0 m 33 ls [.int (nI 85)]) :=
  lv_tableIn (off := 2570) (tgt := 2603) C0.1 C0.2.1 dL_law_33 (by decide) (by decide) (by decide) (by decide) (lw_case_85 (a := a) (g := g) hfz hfw C0 hN hK hP hD hS hl)
set_option maxHeartbeats 4000000 in
set_option maxRecDepth 100000 in
theorem lw_swt_0 {p : Program} {l : Launch} {e : Env} {s : State} {m : MethodId} {below : List Frame} {meth : Method} {c : Code} {b : Nat} {xs : Nat → Int32} {dC : Nat → ClassId} {dI : Nat → Nat → Nat} {cB cI cJ cZ cL : ClassId} {a g : Nat → Nat} {fz fw : Nat → Int32} (hfz : ∀ j, j < 4 → fz j = -1) (hfw : ∀ j, j < 4 → fw j = -1) (C0 : lw_At p s m meth c b 6 xs) (hN : NW s) (hK : va_K (dC, dI) vwCl (tyL cB cI cJ cZ cL) s) {H : Heap} {locs : List Loc} (hP : va_P (dC, dI) vwCl (wXM a g fz fw cB cI cJ cZ cL) H) (hD : va_D (fun q : Nat => s.heap.size ≤ q) (wXM a g fz fw cB cI cJ cZ cL)) (hS : va_S (fun q : Nat => s.heap.size ≤ q) s.heap H locs) {ls : Array Slot} (hl : lv_has ls 4 [(3, .int 0), (2, .ref (g 0)), (1, .ref (a 0)), (0, .ref b)]) {j : Nat} (h0 : 0 ≤ j) (h1 : j < 11) : W p l e room_1 s m #[Value.ref b] below meth c H locs 122 7554 (lw_Z below #[Value.ref b] s) (F0 m 33 ls [.int (nI j)]) := by
  rcases Nat.lt_or_ge j 5 with h | h
  · rcases Nat.lt_or_ge j 2 with h | h
    · rcases Nat.lt_or_ge j 1 with h | h
      · obtain rfl : j = 0 := by omega
        exact lw_sw_0 (a := a) (g := g) hfz hfw C0 hN hK hP hD hS hl
      · obtain rfl : j = 1 := by omega
        exact lw_sw_1 (a := a) (g := g) hfz hfw C0 hN hK hP hD hS hl
    · rcases Nat.lt_or_ge j 3 with h | h
      · obtain rfl : j = 2 := by omega
        exact lw_sw_2 (a := a) (g := g) hfz hfw C0 hN hK hP hD hS hl
      · rcases Nat.lt_or_ge j 4 with h | h
        · obtain rfl : j = 3 := by omega
          exact lw_sw_3 (a := a) (g := g) hfz hfw C0 hN hK hP hD hS hl
        · obtain rfl : j = 4 := by omega
          exact lw_sw_4 (a := a) (g := g) hfz hfw C0 hN hK hP hD hS hl
  · rcases Nat.lt_or_ge j 8 with h | h
    · rcases Nat.lt_or_ge j 6 with h | h
      · obtain rfl : j = 5 := by omega
        exact lw_sw_5 (a := a) (g := g) hfz hfw C0 hN hK hP hD hS hl
      · rcases Nat.lt_or_ge j 7 with h | h
        · obtain rfl : j = 6 := by omega
          exact lw_sw_6 (a := a) (g := g) hfz hfw C0 hN hK hP hD hS hl
        · obtain rfl : j = 7 := by omega
          exact lw_sw_7 (a := a) (g := g) hfz hfw C0 hN hK hP hD hS hl
    · rcases Nat.lt_or_ge j 9 with h | h
      · obtain rfl : j = 8 := by omega
        exact lw_sw_8 (a := a) (g := g) hfz hfw C0 hN hK hP hD hS hl
      · rcases Nat.lt_or_ge j 10 with h | h
        · obtain rfl : j = 9 := by omega
          exact lw_sw_9 (a := a) (g := g) hfz hfw C0 hN hK hP hD hS hl
        · obtain rfl : j = 10 := by omega
          exact lw_sw_10 (a := a) (g := g) hfz hfw C0 hN hK hP hD hS hl
set_option maxHeartbeats 4000000 in
set_option maxRecDepth 100000 in
theorem lw_swt_11 {p : Program} {l : Launch} {e : Env} {s : State} {m : MethodId} {below : List Frame} {meth : Method} {c : Code} {b : Nat} {xs : Nat → Int32} {dC : Nat → ClassId} {dI : Nat → Nat → Nat} {cB cI cJ cZ cL : ClassId} {a g : Nat → Nat} {fz fw : Nat → Int32} (hfz : ∀ j, j < 4 → fz j = -1) (hfw : ∀ j, j < 4 → fw j = -1) (C0 : lw_At p s m meth c b 6 xs) (hN : NW s) (hK : va_K (dC, dI) vwCl (tyL cB cI cJ cZ cL) s) {H : Heap} {locs : List Loc} (hP : va_P (dC, dI) vwCl (wXM a g fz fw cB cI cJ cZ cL) H) (hD : va_D (fun q : Nat => s.heap.size ≤ q) (wXM a g fz fw cB cI cJ cZ cL)) (hS : va_S (fun q : Nat => s.heap.size ≤ q) s.heap H locs) {ls : Array Slot} (hl : lv_has ls 4 [(3, .int 0), (2, .ref (g 0)), (1, .ref (a 0)), (0, .ref b)]) {j : Nat} (h0 : 11 ≤ j) (h1 : j < 22) : W p l e room_1 s m #[Value.ref b] below meth c H locs 122 7554 (lw_Z below #[Value.ref b] s) (F0 m 33 ls [.int (nI j)]) := by
  rcases Nat.lt_or_ge j 16 with h | h
  · rcases Nat.lt_or_ge j 13 with h | h
    · rcases Nat.lt_or_ge j 12 with h | h
      · obtain rfl : j = 11 := by omega
        exact lw_sw_11 (a := a) (g := g) hfz hfw C0 hN hK hP hD hS hl
      · obtain rfl : j = 12 := by omega
        exact lw_sw_12 (a := a) (g := g) hfz hfw C0 hN hK hP hD hS hl
    · rcases Nat.lt_or_ge j 14 with h | h
      · obtain rfl : j = 13 := by omega
        exact lw_sw_13 (a := a) (g := g) hfz hfw C0 hN hK hP hD hS hl
      · rcases Nat.lt_or_ge j 15 with h | h
        · obtain rfl : j = 14 := by omega
          exact lw_sw_14 (a := a) (g := g) hfz hfw C0 hN hK hP hD hS hl
        · obtain rfl : j = 15 := by omega
          exact lw_sw_15 (a := a) (g := g) hfz hfw C0 hN hK hP hD hS hl
  · rcases Nat.lt_or_ge j 19 with h | h
    · rcases Nat.lt_or_ge j 17 with h | h
      · obtain rfl : j = 16 := by omega
        exact lw_sw_16 (a := a) (g := g) hfz hfw C0 hN hK hP hD hS hl
      · rcases Nat.lt_or_ge j 18 with h | h
        · obtain rfl : j = 17 := by omega
          exact lw_sw_17 (a := a) (g := g) hfz hfw C0 hN hK hP hD hS hl
        · obtain rfl : j = 18 := by omega
          exact lw_sw_18 (a := a) (g := g) hfz hfw C0 hN hK hP hD hS hl
    · rcases Nat.lt_or_ge j 20 with h | h
      · obtain rfl : j = 19 := by omega
        exact lw_sw_19 (a := a) (g := g) hfz hfw C0 hN hK hP hD hS hl
      · rcases Nat.lt_or_ge j 21 with h | h
        · obtain rfl : j = 20 := by omega
          exact lw_sw_20 (a := a) (g := g) hfz hfw C0 hN hK hP hD hS hl
        · obtain rfl : j = 21 := by omega
          exact lw_sw_21 (a := a) (g := g) hfz hfw C0 hN hK hP hD hS hl
set_option maxHeartbeats 4000000 in
set_option maxRecDepth 100000 in
theorem lw_swt_22 {p : Program} {l : Launch} {e : Env} {s : State} {m : MethodId} {below : List Frame} {meth : Method} {c : Code} {b : Nat} {xs : Nat → Int32} {dC : Nat → ClassId} {dI : Nat → Nat → Nat} {cB cI cJ cZ cL : ClassId} {a g : Nat → Nat} {fz fw : Nat → Int32} (hfz : ∀ j, j < 4 → fz j = -1) (hfw : ∀ j, j < 4 → fw j = -1) (C0 : lw_At p s m meth c b 6 xs) (hN : NW s) (hK : va_K (dC, dI) vwCl (tyL cB cI cJ cZ cL) s) {H : Heap} {locs : List Loc} (hP : va_P (dC, dI) vwCl (wXM a g fz fw cB cI cJ cZ cL) H) (hD : va_D (fun q : Nat => s.heap.size ≤ q) (wXM a g fz fw cB cI cJ cZ cL)) (hS : va_S (fun q : Nat => s.heap.size ≤ q) s.heap H locs) {ls : Array Slot} (hl : lv_has ls 4 [(3, .int 0), (2, .ref (g 0)), (1, .ref (a 0)), (0, .ref b)]) {j : Nat} (h0 : 22 ≤ j) (h1 : j < 33) : W p l e room_1 s m #[Value.ref b] below meth c H locs 122 7554 (lw_Z below #[Value.ref b] s) (F0 m 33 ls [.int (nI j)]) := by
  rcases Nat.lt_or_ge j 27 with h | h
  · rcases Nat.lt_or_ge j 24 with h | h
    · rcases Nat.lt_or_ge j 23 with h | h
      · obtain rfl : j = 22 := by omega
        exact lw_sw_22 (a := a) (g := g) hfz hfw C0 hN hK hP hD hS hl
      · obtain rfl : j = 23 := by omega
        exact lw_sw_23 (a := a) (g := g) hfz hfw C0 hN hK hP hD hS hl
    · rcases Nat.lt_or_ge j 25 with h | h
      · obtain rfl : j = 24 := by omega
        exact lw_sw_24 (a := a) (g := g) hfz hfw C0 hN hK hP hD hS hl
      · rcases Nat.lt_or_ge j 26 with h | h
        · obtain rfl : j = 25 := by omega
          exact lw_sw_25 (a := a) (g := g) hfz hfw C0 hN hK hP hD hS hl
        · obtain rfl : j = 26 := by omega
          exact lw_sw_26 (a := a) (g := g) hfz hfw C0 hN hK hP hD hS hl
  · rcases Nat.lt_or_ge j 30 with h | h
    · rcases Nat.lt_or_ge j 28 with h | h
      · obtain rfl : j = 27 := by omega
        exact lw_sw_27 (a := a) (g := g) hfz hfw C0 hN hK hP hD hS hl
      · rcases Nat.lt_or_ge j 29 with h | h
        · obtain rfl : j = 28 := by omega
          exact lw_sw_28 (a := a) (g := g) hfz hfw C0 hN hK hP hD hS hl
        · obtain rfl : j = 29 := by omega
          exact lw_sw_29 (a := a) (g := g) hfz hfw C0 hN hK hP hD hS hl
    · rcases Nat.lt_or_ge j 31 with h | h
      · obtain rfl : j = 30 := by omega
        exact lw_sw_30 (a := a) (g := g) hfz hfw C0 hN hK hP hD hS hl
      · rcases Nat.lt_or_ge j 32 with h | h
        · obtain rfl : j = 31 := by omega
          exact lw_sw_31 (a := a) (g := g) hfz hfw C0 hN hK hP hD hS hl
        · obtain rfl : j = 32 := by omega
          exact lw_sw_32 (a := a) (g := g) hfz hfw C0 hN hK hP hD hS hl
set_option maxHeartbeats 4000000 in
set_option maxRecDepth 100000 in
theorem lw_swt_33 {p : Program} {l : Launch} {e : Env} {s : State} {m : MethodId} {below : List Frame} {meth : Method} {c : Code} {b : Nat} {xs : Nat → Int32} {dC : Nat → ClassId} {dI : Nat → Nat → Nat} {cB cI cJ cZ cL : ClassId} {a g : Nat → Nat} {fz fw : Nat → Int32} (hfz : ∀ j, j < 4 → fz j = -1) (hfw : ∀ j, j < 4 → fw j = -1) (C0 : lw_At p s m meth c b 6 xs) (hN : NW s) (hK : va_K (dC, dI) vwCl (tyL cB cI cJ cZ cL) s) {H : Heap} {locs : List Loc} (hP : va_P (dC, dI) vwCl (wXM a g fz fw cB cI cJ cZ cL) H) (hD : va_D (fun q : Nat => s.heap.size ≤ q) (wXM a g fz fw cB cI cJ cZ cL)) (hS : va_S (fun q : Nat => s.heap.size ≤ q) s.heap H locs) {ls : Array Slot} (hl : lv_has ls 4 [(3, .int 0), (2, .ref (g 0)), (1, .ref (a 0)), (0, .ref b)]) {j : Nat} (h0 : 33 ≤ j) (h1 : j < 44) : W p l e room_1 s m #[Value.ref b] below meth c H locs 122 7554 (lw_Z below #[Value.ref b] s) (F0 m 33 ls [.int (nI j)]) := by
  rcases Nat.lt_or_ge j 38 with h | h
  · rcases Nat.lt_or_ge j 35 with h | h
    · rcases Nat.lt_or_ge j 34 with h | h
      · obtain rfl : j = 33 := by omega
        exact lw_sw_33 (a := a) (g := g) hfz hfw C0 hN hK hP hD hS hl
      · obtain rfl : j = 34 := by omega
        exact lw_sw_34 (a := a) (g := g) hfz hfw C0 hN hK hP hD hS hl
    · rcases Nat.lt_or_ge j 36 with h | h
      · obtain rfl : j = 35 := by omega
        exact lw_sw_35 (a := a) (g := g) hfz hfw C0 hN hK hP hD hS hl
      · rcases Nat.lt_or_ge j 37 with h | h
        · obtain rfl : j = 36 := by omega
          exact lw_sw_36 (a := a) (g := g) hfz hfw C0 hN hK hP hD hS hl
        · obtain rfl : j = 37 := by omega
          exact lw_sw_37 (a := a) (g := g) hfz hfw C0 hN hK hP hD hS hl
  · rcases Nat.lt_or_ge j 41 with h | h
    · rcases Nat.lt_or_ge j 39 with h | h
      · obtain rfl : j = 38 := by omega
        exact lw_sw_38 (a := a) (g := g) hfz hfw C0 hN hK hP hD hS hl
      · rcases Nat.lt_or_ge j 40 with h | h
        · obtain rfl : j = 39 := by omega
          exact lw_sw_39 (a := a) (g := g) hfz hfw C0 hN hK hP hD hS hl
        · obtain rfl : j = 40 := by omega
          exact lw_sw_40 (a := a) (g := g) hfz hfw C0 hN hK hP hD hS hl
    · rcases Nat.lt_or_ge j 42 with h | h
      · obtain rfl : j = 41 := by omega
        exact lw_sw_41 (a := a) (g := g) hfz hfw C0 hN hK hP hD hS hl
      · rcases Nat.lt_or_ge j 43 with h | h
        · obtain rfl : j = 42 := by omega
          exact lw_sw_42 (a := a) (g := g) hfz hfw C0 hN hK hP hD hS hl
        · obtain rfl : j = 43 := by omega
          exact lw_sw_43 (a := a) (g := g) hfz hfw C0 hN hK hP hD hS hl
set_option maxHeartbeats 4000000 in
set_option maxRecDepth 100000 in
theorem lw_swt_44 {p : Program} {l : Launch} {e : Env} {s : State} {m : MethodId} {below : List Frame} {meth : Method} {c : Code} {b : Nat} {xs : Nat → Int32} {dC : Nat → ClassId} {dI : Nat → Nat → Nat} {cB cI cJ cZ cL : ClassId} {a g : Nat → Nat} {fz fw : Nat → Int32} (hfz : ∀ j, j < 4 → fz j = -1) (hfw : ∀ j, j < 4 → fw j = -1) (C0 : lw_At p s m meth c b 6 xs) (hN : NW s) (hK : va_K (dC, dI) vwCl (tyL cB cI cJ cZ cL) s) {H : Heap} {locs : List Loc} (hP : va_P (dC, dI) vwCl (wXM a g fz fw cB cI cJ cZ cL) H) (hD : va_D (fun q : Nat => s.heap.size ≤ q) (wXM a g fz fw cB cI cJ cZ cL)) (hS : va_S (fun q : Nat => s.heap.size ≤ q) s.heap H locs) {ls : Array Slot} (hl : lv_has ls 4 [(3, .int 0), (2, .ref (g 0)), (1, .ref (a 0)), (0, .ref b)]) {j : Nat} (h0 : 44 ≤ j) (h1 : j < 55) : W p l e room_1 s m #[Value.ref b] below meth c H locs 122 7554 (lw_Z below #[Value.ref b] s) (F0 m 33 ls [.int (nI j)]) := by
  rcases Nat.lt_or_ge j 49 with h | h
  · rcases Nat.lt_or_ge j 46 with h | h
    · rcases Nat.lt_or_ge j 45 with h | h
      · obtain rfl : j = 44 := by omega
        exact lw_sw_44 (a := a) (g := g) hfz hfw C0 hN hK hP hD hS hl
      · obtain rfl : j = 45 := by omega
        exact lw_sw_45 (a := a) (g := g) hfz hfw C0 hN hK hP hD hS hl
    · rcases Nat.lt_or_ge j 47 with h | h
      · obtain rfl : j = 46 := by omega
        exact lw_sw_46 (a := a) (g := g) hfz hfw C0 hN hK hP hD hS hl
      · rcases Nat.lt_or_ge j 48 with h | h
        · obtain rfl : j = 47 := by omega
          exact lw_sw_47 (a := a) (g := g) hfz hfw C0 hN hK hP hD hS hl
        · obtain rfl : j = 48 := by omega
          exact lw_sw_48 (a := a) (g := g) hfz hfw C0 hN hK hP hD hS hl
  · rcases Nat.lt_or_ge j 52 with h | h
    · rcases Nat.lt_or_ge j 50 with h | h
      · obtain rfl : j = 49 := by omega
        exact lw_sw_49 (a := a) (g := g) hfz hfw C0 hN hK hP hD hS hl
      · rcases Nat.lt_or_ge j 51 with h | h
        · obtain rfl : j = 50 := by omega
          exact lw_sw_50 (a := a) (g := g) hfz hfw C0 hN hK hP hD hS hl
        · obtain rfl : j = 51 := by omega
          exact lw_sw_51 (a := a) (g := g) hfz hfw C0 hN hK hP hD hS hl
    · rcases Nat.lt_or_ge j 53 with h | h
      · obtain rfl : j = 52 := by omega
        exact lw_sw_52 (a := a) (g := g) hfz hfw C0 hN hK hP hD hS hl
      · rcases Nat.lt_or_ge j 54 with h | h
        · obtain rfl : j = 53 := by omega
          exact lw_sw_53 (a := a) (g := g) hfz hfw C0 hN hK hP hD hS hl
        · obtain rfl : j = 54 := by omega
          exact lw_sw_54 (a := a) (g := g) hfz hfw C0 hN hK hP hD hS hl
set_option maxHeartbeats 4000000 in
set_option maxRecDepth 100000 in
theorem lw_swt_55 {p : Program} {l : Launch} {e : Env} {s : State} {m : MethodId} {below : List Frame} {meth : Method} {c : Code} {b : Nat} {xs : Nat → Int32} {dC : Nat → ClassId} {dI : Nat → Nat → Nat} {cB cI cJ cZ cL : ClassId} {a g : Nat → Nat} {fz fw : Nat → Int32} (hfz : ∀ j, j < 4 → fz j = -1) (hfw : ∀ j, j < 4 → fw j = -1) (C0 : lw_At p s m meth c b 6 xs) (hN : NW s) (hK : va_K (dC, dI) vwCl (tyL cB cI cJ cZ cL) s) {H : Heap} {locs : List Loc} (hP : va_P (dC, dI) vwCl (wXM a g fz fw cB cI cJ cZ cL) H) (hD : va_D (fun q : Nat => s.heap.size ≤ q) (wXM a g fz fw cB cI cJ cZ cL)) (hS : va_S (fun q : Nat => s.heap.size ≤ q) s.heap H locs) {ls : Array Slot} (hl : lv_has ls 4 [(3, .int 0), (2, .ref (g 0)), (1, .ref (a 0)), (0, .ref b)]) {j : Nat} (h0 : 55 ≤ j) (h1 : j < 66) : W p l e room_1 s m #[Value.ref b] below meth c H locs 122 7554 (lw_Z below #[Value.ref b] s) (F0 m 33 ls [.int (nI j)]) := by
  rcases Nat.lt_or_ge j 60 with h | h
  · rcases Nat.lt_or_ge j 57 with h | h
    · rcases Nat.lt_or_ge j 56 with h | h
      · obtain rfl : j = 55 := by omega
        exact lw_sw_55 (a := a) (g := g) hfz hfw C0 hN hK hP hD hS hl
      · obtain rfl : j = 56 := by omega
        exact lw_sw_56 (a := a) (g := g) hfz hfw C0 hN hK hP hD hS hl
    · rcases Nat.lt_or_ge j 58 with h | h
      · obtain rfl : j = 57 := by omega
        exact lw_sw_57 (a := a) (g := g) hfz hfw C0 hN hK hP hD hS hl
      · rcases Nat.lt_or_ge j 59 with h | h
        · obtain rfl : j = 58 := by omega
          exact lw_sw_58 (a := a) (g := g) hfz hfw C0 hN hK hP hD hS hl
        · obtain rfl : j = 59 := by omega
          exact lw_sw_59 (a := a) (g := g) hfz hfw C0 hN hK hP hD hS hl
  · rcases Nat.lt_or_ge j 63 with h | h
    · rcases Nat.lt_or_ge j 61 with h | h
      · obtain rfl : j = 60 := by omega
        exact lw_sw_60 (a := a) (g := g) hfz hfw C0 hN hK hP hD hS hl
      · rcases Nat.lt_or_ge j 62 with h | h
        · obtain rfl : j = 61 := by omega
          exact lw_sw_61 (a := a) (g := g) hfz hfw C0 hN hK hP hD hS hl
        · obtain rfl : j = 62 := by omega
          exact lw_sw_62 (a := a) (g := g) hfz hfw C0 hN hK hP hD hS hl
    · rcases Nat.lt_or_ge j 64 with h | h
      · obtain rfl : j = 63 := by omega
        exact lw_sw_63 (a := a) (g := g) hfz hfw C0 hN hK hP hD hS hl
      · rcases Nat.lt_or_ge j 65 with h | h
        · obtain rfl : j = 64 := by omega
          exact lw_sw_64 (a := a) (g := g) hfz hfw C0 hN hK hP hD hS hl
        · obtain rfl : j = 65 := by omega
          exact lw_sw_65 (a := a) (g := g) hfz hfw C0 hN hK hP hD hS hl
set_option maxHeartbeats 4000000 in
set_option maxRecDepth 100000 in
theorem lw_swt_66 {p : Program} {l : Launch} {e : Env} {s : State} {m : MethodId} {below : List Frame} {meth : Method} {c : Code} {b : Nat} {xs : Nat → Int32} {dC : Nat → ClassId} {dI : Nat → Nat → Nat} {cB cI cJ cZ cL : ClassId} {a g : Nat → Nat} {fz fw : Nat → Int32} (hfz : ∀ j, j < 4 → fz j = -1) (hfw : ∀ j, j < 4 → fw j = -1) (C0 : lw_At p s m meth c b 6 xs) (hN : NW s) (hK : va_K (dC, dI) vwCl (tyL cB cI cJ cZ cL) s) {H : Heap} {locs : List Loc} (hP : va_P (dC, dI) vwCl (wXM a g fz fw cB cI cJ cZ cL) H) (hD : va_D (fun q : Nat => s.heap.size ≤ q) (wXM a g fz fw cB cI cJ cZ cL)) (hS : va_S (fun q : Nat => s.heap.size ≤ q) s.heap H locs) {ls : Array Slot} (hl : lv_has ls 4 [(3, .int 0), (2, .ref (g 0)), (1, .ref (a 0)), (0, .ref b)]) {j : Nat} (h0 : 66 ≤ j) (h1 : j < 77) : W p l e room_1 s m #[Value.ref b] below meth c H locs 122 7554 (lw_Z below #[Value.ref b] s) (F0 m 33 ls [.int (nI j)]) := by
  rcases Nat.lt_or_ge j 71 with h | h
  · rcases Nat.lt_or_ge j 68 with h | h
    · rcases Nat.lt_or_ge j 67 with h | h
      · obtain rfl : j = 66 := by omega
        exact lw_sw_66 (a := a) (g := g) hfz hfw C0 hN hK hP hD hS hl
      · obtain rfl : j = 67 := by omega
        exact lw_sw_67 (a := a) (g := g) hfz hfw C0 hN hK hP hD hS hl
    · rcases Nat.lt_or_ge j 69 with h | h
      · obtain rfl : j = 68 := by omega
        exact lw_sw_68 (a := a) (g := g) hfz hfw C0 hN hK hP hD hS hl
      · rcases Nat.lt_or_ge j 70 with h | h
        · obtain rfl : j = 69 := by omega
          exact lw_sw_69 (a := a) (g := g) hfz hfw C0 hN hK hP hD hS hl
        · obtain rfl : j = 70 := by omega
          exact lw_sw_70 (a := a) (g := g) hfz hfw C0 hN hK hP hD hS hl
  · rcases Nat.lt_or_ge j 74 with h | h
    · rcases Nat.lt_or_ge j 72 with h | h
      · obtain rfl : j = 71 := by omega
        exact lw_sw_71 (a := a) (g := g) hfz hfw C0 hN hK hP hD hS hl
      · rcases Nat.lt_or_ge j 73 with h | h
        · obtain rfl : j = 72 := by omega
          exact lw_sw_72 (a := a) (g := g) hfz hfw C0 hN hK hP hD hS hl
        · obtain rfl : j = 73 := by omega
          exact lw_sw_73 (a := a) (g := g) hfz hfw C0 hN hK hP hD hS hl
    · rcases Nat.lt_or_ge j 75 with h | h
      · obtain rfl : j = 74 := by omega
        exact lw_sw_74 (a := a) (g := g) hfz hfw C0 hN hK hP hD hS hl
      · rcases Nat.lt_or_ge j 76 with h | h
        · obtain rfl : j = 75 := by omega
          exact lw_sw_75 (a := a) (g := g) hfz hfw C0 hN hK hP hD hS hl
        · obtain rfl : j = 76 := by omega
          exact lw_sw_76 (a := a) (g := g) hfz hfw C0 hN hK hP hD hS hl
set_option maxHeartbeats 4000000 in
set_option maxRecDepth 100000 in
theorem lw_swt_77 {p : Program} {l : Launch} {e : Env} {s : State} {m : MethodId} {below : List Frame} {meth : Method} {c : Code} {b : Nat} {xs : Nat → Int32} {dC : Nat → ClassId} {dI : Nat → Nat → Nat} {cB cI cJ cZ cL : ClassId} {a g : Nat → Nat} {fz fw : Nat → Int32} (hfz : ∀ j, j < 4 → fz j = -1) (hfw : ∀ j, j < 4 → fw j = -1) (C0 : lw_At p s m meth c b 6 xs) (hN : NW s) (hK : va_K (dC, dI) vwCl (tyL cB cI cJ cZ cL) s) {H : Heap} {locs : List Loc} (hP : va_P (dC, dI) vwCl (wXM a g fz fw cB cI cJ cZ cL) H) (hD : va_D (fun q : Nat => s.heap.size ≤ q) (wXM a g fz fw cB cI cJ cZ cL)) (hS : va_S (fun q : Nat => s.heap.size ≤ q) s.heap H locs) {ls : Array Slot} (hl : lv_has ls 4 [(3, .int 0), (2, .ref (g 0)), (1, .ref (a 0)), (0, .ref b)]) {j : Nat} (h0 : 77 ≤ j) (h1 : j < 86) : W p l e room_1 s m #[Value.ref b] below meth c H locs 122 7554 (lw_Z below #[Value.ref b] s) (F0 m 33 ls [.int (nI j)]) := by
  rcases Nat.lt_or_ge j 81 with h | h
  · rcases Nat.lt_or_ge j 79 with h | h
    · rcases Nat.lt_or_ge j 78 with h | h
      · obtain rfl : j = 77 := by omega
        exact lw_sw_77 (a := a) (g := g) hfz hfw C0 hN hK hP hD hS hl
      · obtain rfl : j = 78 := by omega
        exact lw_sw_78 (a := a) (g := g) hfz hfw C0 hN hK hP hD hS hl
    · rcases Nat.lt_or_ge j 80 with h | h
      · obtain rfl : j = 79 := by omega
        exact lw_sw_79 (a := a) (g := g) hfz hfw C0 hN hK hP hD hS hl
      · obtain rfl : j = 80 := by omega
        exact lw_sw_80 (a := a) (g := g) hfz hfw C0 hN hK hP hD hS hl
  · rcases Nat.lt_or_ge j 83 with h | h
    · rcases Nat.lt_or_ge j 82 with h | h
      · obtain rfl : j = 81 := by omega
        exact lw_sw_81 (a := a) (g := g) hfz hfw C0 hN hK hP hD hS hl
      · obtain rfl : j = 82 := by omega
        exact lw_sw_82 (a := a) (g := g) hfz hfw C0 hN hK hP hD hS hl
    · rcases Nat.lt_or_ge j 84 with h | h
      · obtain rfl : j = 83 := by omega
        exact lw_sw_83 (a := a) (g := g) hfz hfw C0 hN hK hP hD hS hl
      · rcases Nat.lt_or_ge j 85 with h | h
        · obtain rfl : j = 84 := by omega
          exact lw_sw_84 (a := a) (g := g) hfz hfw C0 hN hK hP hD hS hl
        · obtain rfl : j = 85 := by omega
          exact lw_sw_85 (a := a) (g := g) hfz hfw C0 hN hK hP hD hS hl
set_option maxHeartbeats 4000000 in
set_option maxRecDepth 100000 in
theorem lw_sw {p : Program} {l : Launch} {e : Env} {s : State} {m : MethodId} {below : List Frame} {meth : Method} {c : Code} {b : Nat} {xs : Nat → Int32} {dC : Nat → ClassId} {dI : Nat → Nat → Nat} {cB cI cJ cZ cL : ClassId} {a g : Nat → Nat} {fz fw : Nat → Int32} (hfz : ∀ j, j < 4 → fz j = -1) (hfw : ∀ j, j < 4 → fw j = -1) (C0 : lw_At p s m meth c b 6 xs) (hN : NW s) (hK : va_K (dC, dI) vwCl (tyL cB cI cJ cZ cL) s) {H : Heap} {locs : List Loc} (hP : va_P (dC, dI) vwCl (wXM a g fz fw cB cI cJ cZ cL) H) (hD : va_D (fun q : Nat => s.heap.size ≤ q) (wXM a g fz fw cB cI cJ cZ cL)) (hS : va_S (fun q : Nat => s.heap.size ≤ q) s.heap H locs) {ls : Array Slot} (hl : lv_has ls 4 [(3, .int 0), (2, .ref (g 0)), (1, .ref (a 0)), (0, .ref b)]) {j : Nat} (hj : j < 2 ^ 7) : W p l e room_1 s m #[Value.ref b] below meth c H locs 122 7554 (lw_Z below #[Value.ref b] s) (F0 m 33 ls [.int (nI j)]) := by
  rcases Nat.lt_or_ge j 86 with h86 | h86
  · rcases (show (0 ≤ j ∧ j < 11) ∨ (11 ≤ j ∧ j < 22) ∨ (22 ≤ j ∧ j < 33) ∨ (33 ≤ j ∧ j < 44) ∨ (44 ≤ j ∧ j < 55) ∨ (55 ≤ j ∧ j < 66) ∨ (66 ≤ j ∧ j < 77) ∨ (77 ≤ j ∧ j < 86) by omega) with ⟨h0, h1⟩ | ⟨h0, h1⟩ | ⟨h0, h1⟩ | ⟨h0, h1⟩ | ⟨h0, h1⟩ | ⟨h0, h1⟩ | ⟨h0, h1⟩ | ⟨h0, h1⟩
    · exact lw_swt_0 (a := a) (g := g) hfz hfw C0 hN hK hP hD hS hl h0 h1
    · exact lw_swt_11 (a := a) (g := g) hfz hfw C0 hN hK hP hD hS hl h0 h1
    · exact lw_swt_22 (a := a) (g := g) hfz hfw C0 hN hK hP hD hS hl h0 h1
    · exact lw_swt_33 (a := a) (g := g) hfz hfw C0 hN hK hP hD hS hl h0 h1
    · exact lw_swt_44 (a := a) (g := g) hfz hfw C0 hN hK hP hD hS hl h0 h1
    · exact lw_swt_55 (a := a) (g := g) hfz hfw C0 hN hK hP hD hS hl h0 h1
    · exact lw_swt_66 (a := a) (g := g) hfz hfw C0 hN hK hP hD hS hl h0 h1
    · exact lw_swt_77 (a := a) (g := g) hfz hfw C0 hN hK hP hD hS hl h0 h1
  · exact lv_tableOut (tgt := 2666) C0.1 C0.2.1 dL_law_33 (Or.inr (by rw [nI_toInt (by omega)]; omega)) (by decide) (lw_end C0 hS (Nat.le_of_ble_eq_true rfl) (Nat.le_of_ble_eq_true rfl) hl)
