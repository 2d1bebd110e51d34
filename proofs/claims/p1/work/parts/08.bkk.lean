set_option maxHeartbeats 4000000 in
set_option maxRecDepth 100000 in
theorem lw_cls {p : Program} {s : State} {m : MethodId} {meth : Method} {c : Code} {b L : Nat} {xs : Nat → Int32} (C0 : lw_At p s m meth c b L xs) : ∃ (dC : Nat → ClassId) (dI : Nat → Nat → Nat), ∀ (k : Nat) (q : vw_C), vwCl[k]? = some q → u_Kn s q.1 q.2.1 q.2.2 (dC k) (dI k) := by
  obtain ⟨hx, hb, hr, hml, hown, hts, hX, hbl, hlocks, hgv⟩ := id C0
  have ht : ∀ w ∈ lw_ok, w.before #[Value.ref b] s = true := fun w h => hts w (List.mem_filter.mp h).1
  obtain ⟨c0, iS0, hKn0⟩ := u_known (C := RX0) (T := TX0) (N := 2) (n := 2) ht iX0 (ht _ w_361)
  obtain ⟨c1, iS1, hKn1⟩ := u_known (C := RX1) (T := TX1) (N := 5) (n := 5) ht iX1 (ht _ w_335)
  obtain ⟨c2, iS2, hKn2⟩ := u_known (C := RX2) (T := TX2) (N := 17) (n := 17) ht iX2 (ht _ w_196)
  obtain ⟨c3, iS3, hKn3⟩ := u_known (C := RX3) (T := TX3) (N := 3) (n := 3) ht iX3 (ht _ w_284)
  obtain ⟨c4, iS4, hKn4⟩ := u_known (C := RX4) (T := TX4) (N := 6) (n := 6) ht iX4 (ht _ w_303)
  obtain ⟨c5, iS5, hKn5⟩ := u_known (C := RX5) (T := TX5) (N := 2) (n := 2) ht iX5 (ht _ w_132)
  obtain ⟨c6, iS6, hKn6⟩ := u_known (C := RX6) (T := TX6) (N := 5) (n := 5) ht iX6 (ht _ w_172)
  obtain ⟨c7, iS7, hKn7⟩ := u_known (C := RX7) (T := TX7) (N := 4) (n := 4) ht iX7 (ht _ w_148)
  obtain ⟨c8, iS8, hKn8⟩ := u_known (C := RX8) (T := TX8) (N := 16) (n := 16) ht iX8 (ht _ w_124)
  obtain ⟨c9, iS9, hKn9⟩ := u_known (C := RX9) (T := TX9) (N := 38) (n := 38) ht iX9 (ht _ w_1257)
  refine ⟨fun k => match k with | 0 => c0 | 1 => c1 | 2 => c2 | 3 => c3 | 4 => c4 | 5 => c5 | 6 => c6 | 7 => c7 | 8 => c8 | _ => c9, fun k => match k with | 0 => iS0 | 1 => iS1 | 2 => iS2 | 3 => iS3 | 4 => iS4 | 5 => iS5 | 6 => iS6 | 7 => iS7 | 8 => iS8 | _ => iS9, ?_⟩
  intro k q hq
  have hk : k < 10 := (List.getElem?_eq_some_iff.mp hq).1
  rcases (show k = 0 ∨ k = 1 ∨ k = 2 ∨ k = 3 ∨ k = 4 ∨ k = 5 ∨ k = 6 ∨ k = 7 ∨ k = 8 ∨ k = 9 by omega) with rfl | rfl | rfl | rfl | rfl | rfl | rfl | rfl | rfl | rfl
  · obtain rfl : (RX0, TX0, 2) = q := Option.some.inj hq
    exact hKn0
  · obtain rfl : (RX1, TX1, 5) = q := Option.some.inj hq
    exact hKn1
  · obtain rfl : (RX2, TX2, 17) = q := Option.some.inj hq
    exact hKn2
  · obtain rfl : (RX3, TX3, 3) = q := Option.some.inj hq
    exact hKn3
  · obtain rfl : (RX4, TX4, 6) = q := Option.some.inj hq
    exact hKn4
  · obtain rfl : (RX5, TX5, 2) = q := Option.some.inj hq
    exact hKn5
  · obtain rfl : (RX6, TX6, 5) = q := Option.some.inj hq
    exact hKn6
  · obtain rfl : (RX7, TX7, 4) = q := Option.some.inj hq
    exact hKn7
  · obtain rfl : (RX8, TX8, 16) = q := Option.some.inj hq
    exact hKn8
  · obtain rfl : (RX9, TX9, 38) = q := Option.some.inj hq
    exact hKn9
set_option maxHeartbeats 4000000 in
set_option maxRecDepth 100000 in
theorem lw_nw {p : Program} {s : State} {m : MethodId} {meth : Method} {c : Code} {b L : Nat} {xs : Nat → Int32} (C0 : lw_At p s m meth c b L xs) : NW s := by
  obtain ⟨hx, hb, hr, hml, hown, hts, hX, hbl, hlocks, hgv⟩ := id C0
  exact ⟨va_Nw.of rfl (hts _ (List.mem_of_getElem? (i := 133) (by decide +kernel))), va_Nw.of rfl (hts _ (List.mem_of_getElem? (i := 149) (by decide +kernel))), va_Nw.of rfl (hts _ (List.mem_of_getElem? (i := 173) (by decide +kernel))), va_Nw.of rfl (hts _ (List.mem_of_getElem? (i := 197) (by decide +kernel))), va_Nw.of rfl (hts _ (List.mem_of_getElem? (i := 285) (by decide +kernel))), va_Nw.of rfl (hts _ (List.mem_of_getElem? (i := 304) (by decide +kernel))), va_Nw.of rfl (hts _ (List.mem_of_getElem? (i := 336) (by decide +kernel))), va_Nw.of rfl (hts _ (List.mem_of_getElem? (i := 362) (by decide +kernel))), va_Nw.of rfl (hts _ (List.mem_of_getElem? (i := 654) (by decide +kernel))), va_AO.of (hts _ (List.mem_of_getElem? (i := 282) (by decide +kernel)))⟩
set_option maxHeartbeats 4000000 in
set_option maxRecDepth 100000 in
theorem lw_kk {p : Program} {s : State} {m : MethodId} {meth : Method} {c : Code} {b L : Nat} {xs : Nat → Int32} (C0 : lw_At p s m meth c b L xs) : ∃ (dC : Nat → ClassId) (dI : Nat → Nat → Nat) (cB cI cJ cZ cL : ClassId), va_K (dC, dI) vwCl (tyL cB cI cJ cZ cL) s := by
  obtain ⟨hx, hb, hr, hml, hown, hts, hX, hbl, hlocks, hgv⟩ := id C0
  have ht : ∀ w ∈ lw_ok, w.before #[Value.ref b] s = true := fun w h => hts w (List.mem_filter.mp h).1
  obtain ⟨dC, dI, hKc⟩ := lw_cls C0
  obtain ⟨cB, kB, mB, fB1, fB2, fB3⟩ := Cond.arrayClass_spec (ht (Cond.arrayClass .byte) w_146)
  obtain ⟨cI, kI, mI, fI1, fI2, fI3⟩ := Cond.arrayClass_spec (ht (Cond.arrayClass .int) w_170)
  obtain ⟨cJ, kJ, mJ, fJ1, fJ2, fJ3⟩ := Cond.arrayClass_spec (ht (Cond.arrayClass .long) w_301)
  obtain ⟨cZ, kZ, mZ, fZ1, fZ2, fZ3⟩ := Cond.arrayClass_spec (ht (Cond.arrayClass .boolean) w_1377)
  obtain ⟨mL, cL, kL, fL1, -, fL2, fL3, fL4⟩ := Cond.arrayOver_spec (va_AO.use (A := #[Value.ref b]) (lw_nw C0).ao)
  refine ⟨dC, dI, cB, cI, cJ, cZ, cL, hKc, fun k q h => ?_⟩
  have hk : k < 5 := (List.getElem?_eq_some_iff.mp h).1
  rcases (show k = 0 ∨ k = 1 ∨ k = 2 ∨ k = 3 ∨ k = 4 by omega) with rfl | rfl | rfl | rfl | rfl
  · obtain rfl : (cB, _) = q := Option.some.inj h
    exact ⟨fun N z => ⟨(fun k h => by cases h), kB, fB2, mB, fB3⟩, fB1⟩
  · obtain rfl : (cI, _) = q := Option.some.inj h
    exact ⟨fun N z => ⟨(fun k h => by cases h), kI, fI2, mI, fI3⟩, fI1⟩
  · obtain rfl : (cJ, _) = q := Option.some.inj h
    exact ⟨fun N z => ⟨(fun k h => by cases h), kJ, fJ2, mJ, fJ3⟩, fJ1⟩
  · obtain rfl : (cZ, _) = q := Option.some.inj h
    exact ⟨fun N z => ⟨(fun k h => by cases h), kZ, fZ2, mZ, fZ3⟩, fZ1⟩
  · obtain rfl : (cL, _) = q := Option.some.inj h
    exact ⟨fun N z => ⟨(fun k h => by cases h), kL, fL2, mL, fL3⟩, kL, mL, fL2, fL3, fL1, fL4⟩
