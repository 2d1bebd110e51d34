theorem L200 : (200 : Int64).toInt = 200 := by decide
theorem L12345 : (12345 : Int64).toInt = 12345 := by decide
theorem Tm8 : (-8 : Int32).toInt = -8 := by decide
theorem Tm6 : (-6 : Int32).toInt = -6 := by decide
theorem Tm2 : (-2 : Int32).toInt = -2 := by decide
theorem T10 : (10 : Int32).toInt = 10 := by decide
theorem T11 : (11 : Int32).toInt = 11 := by decide
theorem T13 : (13 : Int32).toInt = 13 := by decide
theorem T14 : (14 : Int32).toInt = 14 := by decide
theorem T15 : (15 : Int32).toInt = 15 := by decide
theorem T16 : (16 : Int32).toInt = 16 := by decide
theorem T17 : (17 : Int32).toInt = 17 := by decide
theorem T19 : (19 : Int32).toInt = 19 := by decide
theorem T20 : (20 : Int32).toInt = 20 := by decide
theorem T21 : (21 : Int32).toInt = 21 := by decide
theorem T23 : (23 : Int32).toInt = 23 := by decide
theorem T25 : (25 : Int32).toInt = 25 := by decide
theorem T27 : (27 : Int32).toInt = 27 := by decide
theorem T29 : (29 : Int32).toInt = 29 := by decide
theorem T30 : (30 : Int32).toInt = 30 := by decide
theorem T31 : (31 : Int32).toInt = 31 := by decide
theorem T32 : (32 : Int32).toInt = 32 := by decide
theorem T63 : (63 : Int32).toInt = 63 := by decide
theorem T100 : (100 : Int32).toInt = 100 := by decide
theorem T255 : (255 : Int32).toInt = 255 := by decide
theorem T256 : (256 : Int32).toInt = 256 := by decide
theorem T500 : (500 : Int32).toInt = 500 := by decide
theorem T65536 : (65536 : Int32).toInt = 65536 := by decide
theorem T252645135 : (252645135 : Int32).toInt = 252645135 := by decide
theorem T858993459 : (858993459 : Int32).toInt = 858993459 := by decide
theorem T1431655765 : (1431655765 : Int32).toInt = 1431655765 := by decide
theorem T2000000000 : (2000000000 : Int32).toInt = 2000000000 := by decide
-- ranges of a row's numbers, kept by a store and by a copy (for cx.py's 'rng')
theorem rgP_upd {f g : Nat → Int32} {k : Nat} {x : Int32} (h : ∀ i : Nat, 0 ≤ Int32.toInt (f i) ∧ Int32.toInt (f i) ≤ 4) (e : g = upd f k x) (hx : 0 ≤ x.toInt ∧ x.toInt ≤ 4) : ∀ i : Nat, 0 ≤ Int32.toInt (g i) ∧ Int32.toInt (g i) ≤ 4 := fun i => by
  rw [e]; unfold upd; split
  · exact hx
  · exact h i
theorem rgP_cpy {f g z : Nat → Int32} {a b n : Nat} (hf : ∀ i : Nat, 0 ≤ Int32.toInt (f i) ∧ Int32.toInt (f i) ≤ 4) (hg : ∀ i : Nat, 0 ≤ Int32.toInt (g i) ∧ Int32.toInt (g i) ≤ 4) (e : z = va_cpy f g a b n) : ∀ i : Nat, 0 ≤ Int32.toInt (z i) ∧ Int32.toInt (z i) ≤ 4 := fun i => by
  rw [e]; unfold va_cpy; split
  · exact hf _
  · exact hg i
theorem rgS_upd {f g : Nat → Int32} {k : Nat} {x : Int32} (h : ∀ i : Nat, -1 ≤ Int32.toInt (f i) ∧ Int32.toInt (f i) ≤ 60) (e : g = upd f k x) (hx : -1 ≤ x.toInt ∧ x.toInt ≤ 60) : ∀ i : Nat, -1 ≤ Int32.toInt (g i) ∧ Int32.toInt (g i) ≤ 60 := fun i => by
  rw [e]; unfold upd; split
  · exact hx
  · exact h i
theorem cp_le {x y : Int32} {n : Nat} (h : x.toInt.toNat + y.toInt.toNat ≤ n) : x.toNatClampNeg + y.toNatClampNeg ≤ n := h
