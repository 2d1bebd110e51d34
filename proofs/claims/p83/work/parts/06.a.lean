theorem Lm8 : (-8 : Int64).toInt = -8 := by decide
theorem Lm7 : (-7 : Int64).toInt = -7 := by decide
theorem Lm6 : (-6 : Int64).toInt = -6 := by decide
theorem Lm5 : (-5 : Int64).toInt = -5 := by decide
theorem Lm4 : (-4 : Int64).toInt = -4 := by decide
theorem Lm3 : (-3 : Int64).toInt = -3 := by decide
theorem Lm2 : (-2 : Int64).toInt = -2 := by decide
theorem L4 : (4 : Int64).toInt = 4 := by decide
theorem L5 : (5 : Int64).toInt = 5 := by decide
theorem L7 : (7 : Int64).toInt = 7 := by decide
theorem L8 : (8 : Int64).toInt = 8 := by decide
theorem L9 : (9 : Int64).toInt = 9 := by decide
theorem L10 : (10 : Int64).toInt = 10 := by decide
theorem L11 : (11 : Int64).toInt = 11 := by decide
theorem L12 : (12 : Int64).toInt = 12 := by decide
theorem L13 : (13 : Int64).toInt = 13 := by decide
theorem L14 : (14 : Int64).toInt = 14 := by decide
theorem L15 : (15 : Int64).toInt = 15 := by decide
theorem L16 : (16 : Int64).toInt = 16 := by decide
theorem L17 : (17 : Int64).toInt = 17 := by decide
theorem L18 : (18 : Int64).toInt = 18 := by decide
theorem L19 : (19 : Int64).toInt = 19 := by decide
theorem L21 : (21 : Int64).toInt = 21 := by decide
theorem L22 : (22 : Int64).toInt = 22 := by decide
theorem L23 : (23 : Int64).toInt = 23 := by decide
theorem L24 : (24 : Int64).toInt = 24 := by decide
theorem L25 : (25 : Int64).toInt = 25 := by decide
theorem L26 : (26 : Int64).toInt = 26 := by decide
theorem L27 : (27 : Int64).toInt = 27 := by decide
theorem L28 : (28 : Int64).toInt = 28 := by decide
theorem L29 : (29 : Int64).toInt = 29 := by decide
theorem L30 : (30 : Int64).toInt = 30 := by decide
theorem L31 : (31 : Int64).toInt = 31 := by decide
theorem L32 : (32 : Int64).toInt = 32 := by decide
theorem L33 : (33 : Int64).toInt = 33 := by decide
theorem L34 : (34 : Int64).toInt = 34 := by decide
theorem L35 : (35 : Int64).toInt = 35 := by decide
theorem L36 : (36 : Int64).toInt = 36 := by decide
theorem L37 : (37 : Int64).toInt = 37 := by decide
theorem L38 : (38 : Int64).toInt = 38 := by decide
theorem L39 : (39 : Int64).toInt = 39 := by decide
theorem L40 : (40 : Int64).toInt = 40 := by decide
theorem L41 : (41 : Int64).toInt = 41 := by decide
theorem L42 : (42 : Int64).toInt = 42 := by decide
theorem L43 : (43 : Int64).toInt = 43 := by decide
theorem L44 : (44 : Int64).toInt = 44 := by decide
theorem L45 : (45 : Int64).toInt = 45 := by decide
theorem L46 : (46 : Int64).toInt = 46 := by decide
theorem L47 : (47 : Int64).toInt = 47 := by decide
theorem L48 : (48 : Int64).toInt = 48 := by decide
theorem L49 : (49 : Int64).toInt = 49 := by decide
theorem L50 : (50 : Int64).toInt = 50 := by decide
theorem L51 : (51 : Int64).toInt = 51 := by decide
theorem L52 : (52 : Int64).toInt = 52 := by decide
theorem L53 : (53 : Int64).toInt = 53 := by decide
theorem L54 : (54 : Int64).toInt = 54 := by decide
theorem L55 : (55 : Int64).toInt = 55 := by decide
theorem L56 : (56 : Int64).toInt = 56 := by decide
theorem L57 : (57 : Int64).toInt = 57 := by decide
theorem L58 : (58 : Int64).toInt = 58 := by decide
theorem L59 : (59 : Int64).toInt = 59 := by decide
theorem L61 : (61 : Int64).toInt = 61 := by decide
theorem L62 : (62 : Int64).toInt = 62 := by decide
theorem L63 : (63 : Int64).toInt = 63 := by decide
theorem L64 : (64 : Int64).toInt = 64 := by decide
theorem L65 : (65 : Int64).toInt = 65 := by decide
theorem L66 : (66 : Int64).toInt = 66 := by decide
theorem L67 : (67 : Int64).toInt = 67 := by decide
theorem L68 : (68 : Int64).toInt = 68 := by decide
theorem L69 : (69 : Int64).toInt = 69 := by decide
theorem L70 : (70 : Int64).toInt = 70 := by decide
theorem L71 : (71 : Int64).toInt = 71 := by decide
theorem L72 : (72 : Int64).toInt = 72 := by decide
theorem L73 : (73 : Int64).toInt = 73 := by decide
theorem L74 : (74 : Int64).toInt = 74 := by decide
theorem L75 : (75 : Int64).toInt = 75 := by decide
theorem L76 : (76 : Int64).toInt = 76 := by decide
theorem L77 : (77 : Int64).toInt = 77 := by decide
theorem L78 : (78 : Int64).toInt = 78 := by decide
theorem L79 : (79 : Int64).toInt = 79 := by decide
theorem L80 : (80 : Int64).toInt = 80 := by decide
theorem L81 : (81 : Int64).toInt = 81 := by decide
theorem L82 : (82 : Int64).toInt = 82 := by decide
theorem L83 : (83 : Int64).toInt = 83 := by decide
theorem L84 : (84 : Int64).toInt = 84 := by decide
theorem L85 : (85 : Int64).toInt = 85 := by decide
theorem L86 : (86 : Int64).toInt = 86 := by decide
theorem L87 : (87 : Int64).toInt = 87 := by decide
theorem L88 : (88 : Int64).toInt = 88 := by decide
theorem L89 : (89 : Int64).toInt = 89 := by decide
theorem L90 : (90 : Int64).toInt = 90 := by decide
theorem L91 : (91 : Int64).toInt = 91 := by decide
theorem L92 : (92 : Int64).toInt = 92 := by decide
theorem L93 : (93 : Int64).toInt = 93 := by decide
theorem L94 : (94 : Int64).toInt = 94 := by decide
theorem L95 : (95 : Int64).toInt = 95 := by decide
theorem L96 : (96 : Int64).toInt = 96 := by decide
theorem L97 : (97 : Int64).toInt = 97 := by decide
theorem L98 : (98 : Int64).toInt = 98 := by decide
theorem L99 : (99 : Int64).toInt = 99 := by decide
theorem L100 : (100 : Int64).toInt = 100 := by decide
theorem L101 : (101 : Int64).toInt = 101 := by decide
theorem L102 : (102 : Int64).toInt = 102 := by decide
theorem L103 : (103 : Int64).toInt = 103 := by decide
theorem L104 : (104 : Int64).toInt = 104 := by decide
theorem L105 : (105 : Int64).toInt = 105 := by decide
theorem L106 : (106 : Int64).toInt = 106 := by decide
theorem L107 : (107 : Int64).toInt = 107 := by decide
theorem L108 : (108 : Int64).toInt = 108 := by decide
theorem L109 : (109 : Int64).toInt = 109 := by decide
theorem L110 : (110 : Int64).toInt = 110 := by decide
theorem L111 : (111 : Int64).toInt = 111 := by decide
theorem L112 : (112 : Int64).toInt = 112 := by decide
theorem L113 : (113 : Int64).toInt = 113 := by decide
theorem L114 : (114 : Int64).toInt = 114 := by decide
theorem L115 : (115 : Int64).toInt = 115 := by decide
theorem L116 : (116 : Int64).toInt = 116 := by decide
theorem L117 : (117 : Int64).toInt = 117 := by decide
theorem L118 : (118 : Int64).toInt = 118 := by decide
theorem L119 : (119 : Int64).toInt = 119 := by decide
theorem L120 : (120 : Int64).toInt = 120 := by decide
theorem L121 : (121 : Int64).toInt = 121 := by decide
theorem L122 : (122 : Int64).toInt = 122 := by decide
theorem L123 : (123 : Int64).toInt = 123 := by decide
theorem L124 : (124 : Int64).toInt = 124 := by decide
theorem L125 : (125 : Int64).toInt = 125 := by decide
theorem L126 : (126 : Int64).toInt = 126 := by decide
theorem L127 : (127 : Int64).toInt = 127 := by decide
theorem L128 : (128 : Int64).toInt = 128 := by decide
theorem L129 : (129 : Int64).toInt = 129 := by decide
theorem L240 : (240 : Int64).toInt = 240 := by decide
theorem L255 : (255 : Int64).toInt = 255 := by decide
theorem L256 : (256 : Int64).toInt = 256 := by decide
theorem L434 : (434 : Int64).toInt = 434 := by decide
theorem L450 : (450 : Int64).toInt = 450 := by decide
theorem L500 : (500 : Int64).toInt = 500 := by decide
theorem L501 : (501 : Int64).toInt = 501 := by decide
theorem L1000 : (1000 : Int64).toInt = 1000 := by decide
theorem L8798 : (8798 : Int64).toInt = 8798 := by decide
theorem L80155 : (80155 : Int64).toInt = 80155 := by decide
theorem L100000 : (100000 : Int64).toInt = 100000 := by decide
theorem L239879 : (239879 : Int64).toInt = 239879 := by decide
theorem L298288 : (298288 : Int64).toInt = 298288 := by decide
theorem L459761 : (459761 : Int64).toInt = 459761 := by decide
theorem L1000000 : (1000000 : Int64).toInt = 1000000 := by decide
theorem L7542361 : (7542361 : Int64).toInt = 7542361 := by decide
theorem L11996254 : (11996254 : Int64).toInt = 11996254 := by decide
theorem L2000000000 : (2000000000 : Int64).toInt = 2000000000 := by decide
theorem Tm7 : (-7 : Int32).toInt = -7 := by decide
theorem Tm5 : (-5 : Int32).toInt = -5 := by decide
theorem Tm4 : (-4 : Int32).toInt = -4 := by decide
theorem Tm3 : (-3 : Int32).toInt = -3 := by decide
theorem T12 : (12 : Int32).toInt = 12 := by decide
theorem T18 : (18 : Int32).toInt = 18 := by decide
theorem T22 : (22 : Int32).toInt = 22 := by decide
theorem T24 : (24 : Int32).toInt = 24 := by decide
theorem T26 : (26 : Int32).toInt = 26 := by decide
theorem T28 : (28 : Int32).toInt = 28 := by decide
theorem T33 : (33 : Int32).toInt = 33 := by decide
theorem T34 : (34 : Int32).toInt = 34 := by decide
theorem T35 : (35 : Int32).toInt = 35 := by decide
theorem T36 : (36 : Int32).toInt = 36 := by decide
theorem T37 : (37 : Int32).toInt = 37 := by decide
theorem T38 : (38 : Int32).toInt = 38 := by decide
theorem T39 : (39 : Int32).toInt = 39 := by decide
theorem T40 : (40 : Int32).toInt = 40 := by decide
theorem T41 : (41 : Int32).toInt = 41 := by decide
theorem T42 : (42 : Int32).toInt = 42 := by decide
theorem T43 : (43 : Int32).toInt = 43 := by decide
theorem T44 : (44 : Int32).toInt = 44 := by decide
theorem T45 : (45 : Int32).toInt = 45 := by decide
theorem T46 : (46 : Int32).toInt = 46 := by decide
theorem T47 : (47 : Int32).toInt = 47 := by decide
theorem T48 : (48 : Int32).toInt = 48 := by decide
theorem T49 : (49 : Int32).toInt = 49 := by decide
theorem T50 : (50 : Int32).toInt = 50 := by decide
theorem T51 : (51 : Int32).toInt = 51 := by decide
theorem T52 : (52 : Int32).toInt = 52 := by decide
theorem T53 : (53 : Int32).toInt = 53 := by decide
theorem T54 : (54 : Int32).toInt = 54 := by decide
theorem T55 : (55 : Int32).toInt = 55 := by decide
theorem T56 : (56 : Int32).toInt = 56 := by decide
theorem T57 : (57 : Int32).toInt = 57 := by decide
theorem T58 : (58 : Int32).toInt = 58 := by decide
theorem T59 : (59 : Int32).toInt = 59 := by decide
theorem T61 : (61 : Int32).toInt = 61 := by decide
theorem T62 : (62 : Int32).toInt = 62 := by decide
theorem T64 : (64 : Int32).toInt = 64 := by decide
theorem T65 : (65 : Int32).toInt = 65 := by decide
theorem T66 : (66 : Int32).toInt = 66 := by decide
theorem T67 : (67 : Int32).toInt = 67 := by decide
theorem T68 : (68 : Int32).toInt = 68 := by decide
theorem T69 : (69 : Int32).toInt = 69 := by decide
theorem T70 : (70 : Int32).toInt = 70 := by decide
theorem T71 : (71 : Int32).toInt = 71 := by decide
theorem T72 : (72 : Int32).toInt = 72 := by decide
theorem T73 : (73 : Int32).toInt = 73 := by decide
theorem T74 : (74 : Int32).toInt = 74 := by decide
theorem T75 : (75 : Int32).toInt = 75 := by decide
theorem T76 : (76 : Int32).toInt = 76 := by decide
theorem T77 : (77 : Int32).toInt = 77 := by decide
theorem T78 : (78 : Int32).toInt = 78 := by decide
theorem T79 : (79 : Int32).toInt = 79 := by decide
theorem T80 : (80 : Int32).toInt = 80 := by decide
theorem T81 : (81 : Int32).toInt = 81 := by decide
theorem T82 : (82 : Int32).toInt = 82 := by decide
theorem T83 : (83 : Int32).toInt = 83 := by decide
theorem T84 : (84 : Int32).toInt = 84 := by decide
theorem T85 : (85 : Int32).toInt = 85 := by decide
theorem T86 : (86 : Int32).toInt = 86 := by decide
theorem T87 : (87 : Int32).toInt = 87 := by decide
theorem T88 : (88 : Int32).toInt = 88 := by decide
theorem T89 : (89 : Int32).toInt = 89 := by decide
theorem T90 : (90 : Int32).toInt = 90 := by decide
theorem T91 : (91 : Int32).toInt = 91 := by decide
theorem T92 : (92 : Int32).toInt = 92 := by decide
theorem T93 : (93 : Int32).toInt = 93 := by decide
theorem T94 : (94 : Int32).toInt = 94 := by decide
theorem T95 : (95 : Int32).toInt = 95 := by decide
theorem T96 : (96 : Int32).toInt = 96 := by decide
theorem T97 : (97 : Int32).toInt = 97 := by decide
theorem T98 : (98 : Int32).toInt = 98 := by decide
theorem T99 : (99 : Int32).toInt = 99 := by decide
theorem T101 : (101 : Int32).toInt = 101 := by decide
theorem T102 : (102 : Int32).toInt = 102 := by decide
theorem T103 : (103 : Int32).toInt = 103 := by decide
theorem T104 : (104 : Int32).toInt = 104 := by decide
theorem T105 : (105 : Int32).toInt = 105 := by decide
theorem T106 : (106 : Int32).toInt = 106 := by decide
theorem T107 : (107 : Int32).toInt = 107 := by decide
theorem T108 : (108 : Int32).toInt = 108 := by decide
theorem T109 : (109 : Int32).toInt = 109 := by decide
theorem T110 : (110 : Int32).toInt = 110 := by decide
theorem T111 : (111 : Int32).toInt = 111 := by decide
theorem T112 : (112 : Int32).toInt = 112 := by decide
theorem T113 : (113 : Int32).toInt = 113 := by decide
theorem T114 : (114 : Int32).toInt = 114 := by decide
theorem T115 : (115 : Int32).toInt = 115 := by decide
theorem T116 : (116 : Int32).toInt = 116 := by decide
theorem T117 : (117 : Int32).toInt = 117 := by decide
theorem T118 : (118 : Int32).toInt = 118 := by decide
theorem T119 : (119 : Int32).toInt = 119 := by decide
theorem T120 : (120 : Int32).toInt = 120 := by decide
theorem T121 : (121 : Int32).toInt = 121 := by decide
theorem T122 : (122 : Int32).toInt = 122 := by decide
theorem T123 : (123 : Int32).toInt = 123 := by decide
theorem T124 : (124 : Int32).toInt = 124 := by decide
theorem T125 : (125 : Int32).toInt = 125 := by decide
theorem T126 : (126 : Int32).toInt = 126 := by decide
theorem T127 : (127 : Int32).toInt = 127 := by decide
theorem T128 : (128 : Int32).toInt = 128 := by decide
theorem T129 : (129 : Int32).toInt = 129 := by decide
theorem T200 : (200 : Int32).toInt = 200 := by decide
theorem T434 : (434 : Int32).toInt = 434 := by decide
theorem T450 : (450 : Int32).toInt = 450 := by decide
theorem T501 : (501 : Int32).toInt = 501 := by decide
theorem T1000 : (1000 : Int32).toInt = 1000 := by decide
theorem T100000 : (100000 : Int32).toInt = 100000 := by decide
theorem T1000000 : (1000000 : Int32).toInt = 1000000 := by decide
-- ===== rows of numbers with bounds up to a place, for the reference =====
abbrev LK (n : Int) (f : Nat → Int32) : Prop := ∀ i : Nat, (i : Int) < n → 1 ≤ Int32.toInt (f i) ∧ Int32.toInt (f i) ≤ 30
abbrev OM (n : Int) (f : Nat → Int32) : Prop := ∀ i : Nat, (i : Int) < n → 0 ≤ Int32.toInt (f i) ∧ Int32.toInt (f i) ≤ 12
theorem clampN {x : Int32} (h : 0 ≤ x.toInt) : ((Int32.toNatClampNeg x : Nat) : Int) = x.toInt := by
  show ((x.toInt.toNat : Nat) : Int) = x.toInt
  omega
theorem LK_0 {f : Nat → Int32} : LK (Int32.toInt 0) f := fun i h => by simp only [T0] at h; omega
theorem OM_0 {f : Nat → Int32} : OM (Int32.toInt 0) f := fun i h => by simp only [T0] at h; omega
theorem LK_mono {f : Nat → Int32} {m n : Int} (h : LK m f) (hn : n ≤ m) : LK n f := fun i hi => h i (by omega)
theorem OM_mono {f : Nat → Int32} {m n : Int} (h : OM m f) (hn : n ≤ m) : OM n f := fun i hi => h i (by omega)
theorem LK_at {f : Nat → Int32} {n : Int} (h : LK n f) {x : Int32} (h0 : 0 ≤ x.toInt) (h1 : x.toInt < n) : 1 ≤ Int32.toInt (f (Int32.toNatClampNeg x)) ∧ Int32.toInt (f (Int32.toNatClampNeg x)) ≤ 30 := h _ (by rw [clampN h0]; exact h1)
theorem OM_at {f : Nat → Int32} {n : Int} (h : OM n f) {x : Int32} (h0 : 0 ≤ x.toInt) (h1 : x.toInt < n) : 0 ≤ Int32.toInt (f (Int32.toNatClampNeg x)) ∧ Int32.toInt (f (Int32.toNatClampNeg x)) ≤ 12 := h _ (by rw [clampN h0]; exact h1)
theorem LK_upd {f g : Nat → Int32} {n : Int} {k : Nat} {x : Int32} (h : LK n f) (e : g = upd f k x) (hx : 1 ≤ x.toInt ∧ x.toInt ≤ 30) : LK n g := fun i hi => by
  rw [e]; unfold upd; split
  · exact hx
  · exact h i hi
theorem OM_upd {f g : Nat → Int32} {n : Int} {k : Nat} {x : Int32} (h : OM n f) (e : g = upd f k x) (hx : 0 ≤ x.toInt ∧ x.toInt ≤ 12) : OM n g := fun i hi => by
  rw [e]; unfold upd; split
  · exact hx
  · exact h i hi
theorem LK_push {f g : Nat → Int32} {k x : Int32} (h : LK (Int32.toInt k) f) (e : g = upd f (Int32.toNatClampNeg k) x) (h0 : 0 ≤ k.toInt) (hx : 1 ≤ x.toInt ∧ x.toInt ≤ 30) : LK (Int32.toInt k + 1) g := fun i hi => by
  rw [e]; unfold upd; split
  · exact hx
  · rename_i hne
    have h9 := clampN h0
    exact h i (by omega)
theorem OM_push {f g : Nat → Int32} {k x : Int32} (h : OM (Int32.toInt k) f) (e : g = upd f (Int32.toNatClampNeg k) x) (h0 : 0 ≤ k.toInt) (hx : 0 ≤ x.toInt ∧ x.toInt ≤ 12) : OM (Int32.toInt k + 1) g := fun i hi => by
  rw [e]; unfold upd; split
  · exact hx
  · rename_i hne
    have h9 := clampN h0
    exact h i (by omega)
/-- a wire's spans: ohms and leaks of the first n, from place b on -/
abbrev SP (b : Nat) (n : Int) (f : Nat → Int32) : Prop := ∀ j : Nat, (j : Int) < n → (0 ≤ Int32.toInt (f (b + 3 * j)) ∧ Int32.toInt (f (b + 3 * j)) ≤ 12) ∧ 1 ≤ Int32.toInt (f (b + (3 * j + 1))) ∧ Int32.toInt (f (b + (3 * j + 1))) ≤ 30
theorem SP_at0 {f : Nat → Int32} {n : Int} (h : SP 0 n f) {k y : Int32} (h0 : 0 ≤ k.toInt) (h1 : k.toInt < n) (hy : y.toInt = 3 * k.toInt) : 0 ≤ Int32.toInt (f (Int32.toNatClampNeg y)) ∧ Int32.toInt (f (Int32.toNatClampNeg y)) ≤ 12 := by
  have h2 := (h (Int32.toNatClampNeg k) (by rw [clampN h0]; exact h1)).1
  have e : Int32.toNatClampNeg y = 0 + 3 * Int32.toNatClampNeg k := by
    have a := clampN h0
    have b := clampN (x := y) (by omega)
    omega
  rw [e]; exact h2
theorem SP_at1 {f : Nat → Int32} {n : Int} (h : SP 0 n f) {k y : Int32} (h0 : 0 ≤ k.toInt) (h1 : k.toInt < n) (hy : y.toInt = 3 * k.toInt + 1) : 1 ≤ Int32.toInt (f (Int32.toNatClampNeg y)) ∧ Int32.toInt (f (Int32.toNatClampNeg y)) ≤ 30 := by
  have h2 := (h (Int32.toNatClampNeg k) (by rw [clampN h0]; exact h1)).2
  have e : Int32.toNatClampNeg y = 0 + (3 * Int32.toNatClampNeg k + 1) := by
    have a := clampN h0
    have b := clampN (x := y) (by omega)
    omega
  rw [e]; exact h2
/-- a row's days -/
abbrev CE (b n dm : Int) (f : Nat → Int64) : Prop := ∀ j : Nat, (j : Int) < n → j % 3 = 0 → 0 ≤ Int64.toInt (f (b.toNat + j)) ∧ Int64.toInt (f (b.toNat + j)) ≤ dm
theorem CE_0 {b dm : Int} {f : Nat → Int64} : CE b (Int32.toInt 0) dm f := fun i h => by simp only [T0] at h; omega
theorem CE_mono {b m n dm : Int} {f : Nat → Int64} (h : CE b m dm f) (hn : n ≤ m) : CE b n dm f := fun i hi => h i (by omega)
theorem CE_at {b n dm : Int} {f : Nat → Int64} (h : CE b n dm f) {i k : Int32} (hb : 0 ≤ b) (h0 : 0 ≤ i.toInt) (h1 : i.toInt < n) (h3 : i.toInt % 3 = 0) (hk : k.toInt = b + i.toInt) : 0 ≤ Int64.toInt (f (Int32.toNatClampNeg k)) ∧ Int64.toInt (f (Int32.toNatClampNeg k)) ≤ dm := by
  have a := clampN h0
  have c := clampN (x := k) (by omega)
  have h2 := h (Int32.toNatClampNeg i) (by omega) (by omega)
  have e : Int32.toNatClampNeg k = b.toNat + Int32.toNatClampNeg i := by omega
  rw [e]; exact h2
theorem CE_push {b dm : Int} {f : Nat → Int64} {i k : Int32} (h : CE b (Int32.toInt i) dm f) (hb : 0 ≤ b) (h0 : 0 ≤ i.toInt) (h3 : i.toInt % 3 = 0) (hk : k.toInt = b + i.toInt) {x : Int64} (e : x = f (Int32.toNatClampNeg k)) (hx : 0 ≤ x.toInt ∧ x.toInt ≤ dm) : CE b (Int32.toInt i + 3) dm f := fun j hj hm => by
  have a := clampN h0
  have c := clampN (x := k) (by omega)
  by_cases hq : (j : Int) < i.toInt
  · exact h j hq hm
  · have e2 : b.toNat + j = Int32.toNatClampNeg k := by omega
    rw [e2, ← e]; exact hx
-- numbers
theorem idiv2F {z x : Int32} (h : z = x / 2) : 0 ≤ x.toInt → z.toInt = x.toInt / 2 := fun h0 => by
  rw [h, Int32.toInt_div]
  have e2 : (2 : Int32).toInt = 2 := by decide
  rw [e2, Int.tdiv_eq_ediv_of_nonneg h0]
  have h1 := Int32.toInt_lt x
  exact bmI (by omega) (by omega)
theorem irem3F {z x : Int32} (h : z = x - x / 3 * 3) : 0 ≤ x.toInt → z.toInt = x.toInt % 3 := fun h0 => by
  have e2 : (3 : Int32).toInt = 3 := by decide
  have h1 := Int32.toInt_lt x
  have hd : (x / 3).toInt = x.toInt / 3 := by
    rw [Int32.toInt_div, e2, Int.tdiv_eq_ediv_of_nonneg h0]
    exact bmI (by omega) (by omega)
  have hm := imulF (z := x / 3 * 3) (x := x / 3) (y := 3) rfl
  rw [hd, e2] at hm
  have hs := isubF (z := x - x / 3 * 3) (x := x) (y := x / 3 * 3) rfl
  rw [h]
  omega
theorem irem2F {z x : Int32} (h : z = x - x / 2 * 2) : 0 ≤ x.toInt → z.toInt = x.toInt % 2 := fun h0 => by
  have e2 : (2 : Int32).toInt = 2 := by decide
  have h1 := Int32.toInt_lt x
  have hd : (x / 2).toInt = x.toInt / 2 := by
    rw [Int32.toInt_div, e2, Int.tdiv_eq_ediv_of_nonneg h0]
    exact bmI (by omega) (by omega)
  have hm := imulF (z := x / 2 * 2) (x := x / 2) (y := 2) rfl
  rw [hd, e2] at hm
  have hs := isubF (z := x - x / 2 * 2) (x := x) (y := x / 2 * 2) rfl
  rw [h]
  omega
theorem l2iF {z : Int32} {x : Int64} (h : z = x.toInt32) : (-2147483648 ≤ x.toInt ∧ x.toInt < 2147483648) → z.toInt = x.toInt := fun hb => by
  rw [h, Int64.toInt_toInt32]; exact bmI hb.1 hb.2
theorem ldivF {z x y : Int64} (h : z = x / y) : (0 ≤ x.toInt ∧ 1 ≤ y.toInt) → (0 ≤ z.toInt ∧ z.toInt ≤ x.toInt) := fun hb => by
  rw [h, Int64.toInt_div, Int.tdiv_eq_ediv_of_nonneg hb.1]
  have h1 := Int64.toInt_lt x
  have h2 : 0 ≤ x.toInt / y.toInt := Int.ediv_nonneg hb.1 (by omega)
  have h3 : x.toInt / y.toInt ≤ x.toInt := Int.ediv_le_self _ hb.1
  rw [bmL (by omega) (by omega)]
  exact ⟨h2, h3⟩
theorem mulB {x y : Int} (hx : 0 ≤ x) (h0 : 0 ≤ y) (h1 : y ≤ 30) : 0 ≤ x * y ∧ x * y ≤ 30 * x ∧ (1 ≤ y → x ≤ x * y) ∧ (y ≤ 12 → x * y ≤ 12 * x) := by
  refine ⟨Int.mul_nonneg hx h0, ?_, fun h => ?_, fun h => ?_⟩
  · have := Int.mul_le_mul_of_nonneg_left h1 hx; omega
  · have := Int.mul_le_mul_of_nonneg_left h hx; omega
  · have := Int.mul_le_mul_of_nonneg_left h hx; omega
theorem lmulXY {z x y : Int64} (h : z = x * y) : (0 ≤ x.toInt ∧ x.toInt ≤ 100000000000000000 ∧ 0 ≤ y.toInt ∧ y.toInt ≤ 30) → (0 ≤ z.toInt ∧ z.toInt ≤ 30 * x.toInt ∧ (1 ≤ y.toInt → x.toInt ≤ z.toInt) ∧ (y.toInt ≤ 12 → z.toInt ≤ 12 * x.toInt)) := fun hb => by
  have h1 := mulB hb.1 hb.2.2.1 hb.2.2.2
  have e : z.toInt = x.toInt * y.toInt := by rw [h, Int64.toInt_mul]; exact bmL (by omega) (by omega)
  rw [e]; exact h1
theorem lmulYX {z x y : Int64} (h : z = x * y) : (0 ≤ y.toInt ∧ y.toInt ≤ 100000000000000000 ∧ 0 ≤ x.toInt ∧ x.toInt ≤ 30) → (0 ≤ z.toInt ∧ z.toInt ≤ 30 * y.toInt ∧ (1 ≤ x.toInt → y.toInt ≤ z.toInt) ∧ (x.toInt ≤ 12 → z.toInt ≤ 12 * y.toInt)) := lmulXY (by rw [h, Int64.mul_comm])
theorem shl2F {z x : Int32} (h : z = 2 <<< (x &&& 31)) : (0 ≤ x.toInt ∧ x.toInt ≤ 7) → z.toInt = 2 ^ (x.toInt.toNat + 1) := fun hb => by
  have hx : x = 0 ∨ x = 1 ∨ x = 2 ∨ x = 3 ∨ x = 4 ∨ x = 5 ∨ x = 6 ∨ x = 7 := by
    simp only [i_eq, T0, T1, T2, T3, T4, T5, T6, T7]; omega
  rcases hx with rfl | rfl | rfl | rfl | rfl | rfl | rfl | rfl <;> subst h <;> decide
-- how many bits
def pcn (v : Nat) : Nat := v % 2 + v / 2 % 2 + v / 4 % 2 + v / 8 % 2 + v / 16 % 2 + v / 32 % 2 + v / 64 % 2 + v / 128 % 2
theorem pcn_clr : ∀ v : Nat, v < 256 → 0 < v → pcn (v &&& (v - 1)) + 1 = pcn v := by decide +kernel
theorem pcn_le : ∀ k : Nat, k < 9 → ∀ v : Nat, v < 2 ^ k → pcn v ≤ k := by decide +kernel
abbrev SZI (p v n : Int32) : Prop := (0 ≤ p.toInt ∧ p.toInt < 256) → (0 ≤ v.toInt ∧ v.toInt < 256 ∧ 0 ≤ n.toInt ∧ n.toInt + pcn v.toInt.toNat = pcn p.toInt.toNat)
theorem SZI_0 {p : Int32} : SZI p p 0 := fun h => ⟨h.1, h.2, by decide, by rw [T0]; omega⟩
theorem clr_nat {v w y : Int32} (hy : y = v - 1) (hw : w = v &&& y) (hv : ¬ v.toInt = 0) : w.toBitVec.toNat < v.toBitVec.toNat ∧ w.toBitVec.toNat = v.toBitVec.toNat &&& (v.toBitVec.toNat - 1) := by
  have h0 : v.toBitVec.toNat ≠ 0 := fun h => hv (by
    have h1 : v.toInt = v.toBitVec.toInt := rfl
    rw [h1, BitVec.toInt_eq_toNat_cond, h]; simp)
  have hl := v.toBitVec.isLt
  have e1 : y.toBitVec.toNat = v.toBitVec.toNat - 1 := by
    have e0 : y.toBitVec = v.toBitVec - 1#32 := by rw [hy]; rfl
    rw [e0, BitVec.toNat_sub]
    simp
    omega
  have e2 : w.toBitVec.toNat = v.toBitVec.toNat &&& y.toBitVec.toNat := by rw [hw]; simp
  rw [e1] at e2
  refine ⟨?_, e2⟩
  have h3 : v.toBitVec.toNat &&& (v.toBitVec.toNat - 1) ≤ v.toBitVec.toNat - 1 := Nat.and_le_right
  omega
theorem SZI_step {p v n w y n1 : Int32} (hI : SZI p v n) (hy : y = v - 1) (hw : w = v &&& y) (hv : ¬ v.toInt = 0) (hn : (-2147483648 ≤ n.toInt + 1 ∧ n.toInt + 1 < 2147483648) → n1.toInt = n.toInt + 1) : SZI p w n1 := fun hp => by
  obtain ⟨h1, h2, h3, h4⟩ := hI hp
  obtain ⟨g1, g2⟩ := clr_nat hy hw hv
  have a := posN h1
  have b : w.toInt = (w.toBitVec.toNat : Int) := andN rfl (by omega)
  have e : w.toInt.toNat = v.toInt.toNat &&& (v.toInt.toNat - 1) := by
    have e1 : v.toInt.toNat = v.toBitVec.toNat := by omega
    have e2 : w.toInt.toNat = w.toBitVec.toNat := by omega
    rw [e1, e2]; exact g2
  have h5 := pcn_clr v.toInt.toNat (by omega) (by omega)
  rw [← e] at h5
  have h6 := pcn_le 8 (by omega) p.toInt.toNat (by omega)
  have h7 := hn (by omega)
  refine ⟨by omega, by omega, by omega, by omega⟩
theorem pcn_at {x z d : Int32} (hz : z.toInt = 2 ^ (d.toInt.toNat + 1)) (h0 : 0 ≤ x.toInt) (h1 : x.toInt < z.toInt) (hd : 0 ≤ d.toInt ∧ d.toInt ≤ 7) : x.toInt < 256 ∧ (pcn x.toInt.toNat : Int) ≤ d.toInt + 1 := by
  have h2 : x.toInt.toNat < 2 ^ (d.toInt.toNat + 1) := by
    have e : ((2 ^ (d.toInt.toNat + 1) : Nat) : Int) = 2 ^ (d.toInt.toNat + 1) := by norm_cast
    omega
  have h3 := pcn_le (d.toInt.toNat + 1) (by omega) _ h2
  have h4 : (2 : Nat) ^ (d.toInt.toNat + 1) ≤ 2 ^ 8 := Nat.pow_le_pow_right (by omega) (by omega)
  refine ⟨by omega, by omega⟩
theorem zrF {r : Int32} (h : r = 0 ∨ r = 1) : narrow .boolean (.int r) = .int r := by
  rcases h with rfl | rfl <;> rfl
theorem lnegF {z x : Int64} (h : z = -x) : ¬ x.toInt = 0 → ¬ z.toInt = 0 := fun hx hz => hx (by
  have h1 : z = 0 := Int64.toInt_inj.mp (by rw [hz]; decide)
  have h2 : x = 0 := by
    have h3 : -x = 0 := by rw [← h]; exact h1
    have h4 := congrArg Neg.neg h3
    simpa using h4
  rw [h2]; decide)
theorem timesF {z p q : Int32} (h : z = p * q) : (2 ≤ p.toInt ∧ p.toInt ≤ 5 ∧ 1 ≤ q.toInt ∧ q.toInt ≤ 24) → (p.toInt = 2 → z.toInt = 2 * q.toInt) ∧ (p.toInt = 3 → z.toInt = 3 * q.toInt) ∧ (p.toInt = 4 → z.toInt = 4 * q.toInt) ∧ (p.toInt = 5 → z.toInt = 5 * q.toInt) := fun hb => by
  have h1 := imulF h
  refine ⟨fun hp => ?_, fun hp => ?_, fun hp => ?_, fun hp => ?_⟩ <;> rw [hp] at h1 <;> omega
theorem powerF {z p q : Int64} (h : z = p * q) (hp : p.toInt = 10) : (1 ≤ q.toInt ∧ q.toInt ≤ 100000000) → z.toInt = 10 * q.toInt := fun hb => by
  have e : z.toInt = (p.toInt * q.toInt).bmod (2 ^ 64) := by rw [h, Int64.toInt_mul]
  rw [hp] at e
  rw [e]; exact bmL (by omega) (by omega)
theorem pcn5 {x : Int32} (h0 : 0 ≤ x.toInt) (h1 : x.toInt < 32) : pcn x.toInt.toNat ≤ 5 := pcn_le 5 (by omega) _ (by show x.toInt.toNat < 32; omega)
theorem idx28 {y p : Int32} (h0 : 0 ≤ p.toInt) (hy : y.toInt = 28 + p.toInt) : Int32.toNatClampNeg y = 28 + p.toInt.toNat := by
  have b := clampN (x := y) (by omega)
  omega
-- the five wires of the reference
abbrev WI1 (hs sp : Nat → Int32) (w : Nat) : Prop := (0 ≤ Int32.toInt (hs (7 * w)) ∧ Int32.toInt (hs (7 * w)) ≤ 13) ∧ (0 ≤ Int32.toInt (hs (7 * w + 4)) ∧ Int32.toInt (hs (7 * w + 4)) ≤ 5) ∧ (0 ≤ Int32.toInt (hs (7 * w + 5)) ∧ Int32.toInt (hs (7 * w + 5)) ≤ 8) ∧ (0 ≤ Int32.toInt (hs (7 * w + 6)) ∧ Int32.toInt (hs (7 * w + 6)) ≤ 30) ∧ SP (15 * w) (Int32.toInt (hs (7 * w + 4))) sp
def WI (hs sp : Nat → Int32) : Prop := ∀ w : Nat, w < 5 → WI1 hs sp w
theorem WI.w0 {hs sp : Nat → Int32} (h : WI hs sp) : WI1 hs sp 0 := h 0 (by omega)
theorem WI.h0 {hs sp : Nat → Int32} (h : WI hs sp) : 0 ≤ Int32.toInt (hs 0) ∧ Int32.toInt (hs 0) ≤ 13 := h.w0.1
theorem WI.h4 {hs sp : Nat → Int32} (h : WI hs sp) : 0 ≤ Int32.toInt (hs 4) ∧ Int32.toInt (hs 4) ≤ 5 := h.w0.2.1
theorem WI.h5 {hs sp : Nat → Int32} (h : WI hs sp) : 0 ≤ Int32.toInt (hs 5) ∧ Int32.toInt (hs 5) ≤ 8 := h.w0.2.2.1
theorem WI.h6 {hs sp : Nat → Int32} (h : WI hs sp) : 0 ≤ Int32.toInt (hs 6) ∧ Int32.toInt (hs 6) ≤ 30 := h.w0.2.2.2.1
theorem WI.sp0 {hs sp : Nat → Int32} (h : WI hs sp) : SP 0 (Int32.toInt (hs 4)) sp := h.w0.2.2.2.2
theorem WI.h32 {hs sp : Nat → Int32} (h : WI hs sp) : 0 ≤ Int32.toInt (hs 32) ∧ Int32.toInt (hs 32) ≤ 5 := (h 4 (by omega)).2.1
theorem WI.h33 {hs sp : Nat → Int32} (h : WI hs sp) : 0 ≤ Int32.toInt (hs 33) ∧ Int32.toInt (hs 33) ≤ 8 := (h 4 (by omega)).2.2.1
theorem WI_of {hs hs' sp sp' : Nat → Int32} (h : WI hs sp) (h1 : ∀ w : Nat, w < 4 → ∀ j : Nat, j < 7 → hs' (7 * w + j) = hs (7 * w + j)) (h2 : ∀ i : Nat, i < 60 → ¬ i % 3 = 2 → sp' i = sp i) (h3 : WI1 hs' sp' 4) : WI hs' sp' := fun w hw => by
  by_cases h4 : w = 4
  · subst h4; exact h3
  · obtain ⟨a, b, c, d, e⟩ := h w hw
    have g := h1 w (by omega)
    have g0 : hs' (7 * w) = hs (7 * w) := g 0 (by omega)
    have g4 := g 4 (by omega)
    have g5 := g 5 (by omega)
    have g6 := g 6 (by omega)
    refine ⟨by rw [g0]; exact a, by rw [g4]; exact b, by rw [g5]; exact c, by rw [g6]; exact d, fun j hj => ?_⟩
    rw [g4] at hj
    have hj5 : j < 5 := by omega
    rw [h2 (15 * w + 3 * j) (by omega) (by omega), h2 (15 * w + (3 * j + 1)) (by omega) (by omega)]
    exact e j hj
theorem WI_t0 {hs hs' sp : Nat → Int32} {x : Int32} (h : WI hs sp) (e : hs' = upd hs 28 x) (hx : 0 ≤ x.toInt ∧ x.toInt ≤ 13) : WI hs' sp := by
  obtain ⟨a, b, c, d, f⟩ := h 4 (by omega)
  refine WI_of h (fun w hw j hj => by rw [e]; unfold upd; rw [if_neg (by omega)]) (fun i _ _ => rfl) ⟨?_, ?_, ?_, ?_, ?_⟩
  · rw [e]; exact hx
  · rw [e]; exact b
  · rw [e]; exact c
  · rw [e]; exact d
  · rw [e]; exact f
theorem WI_t1 {hs hs' sp : Nat → Int32} {x : Int32} (h : WI hs sp) (e : hs' = upd hs 29 x) : WI hs' sp := by
  obtain ⟨a, b, c, d, f⟩ := h 4 (by omega)
  refine WI_of h (fun w hw j hj => by rw [e]; unfold upd; rw [if_neg (by omega)]) (fun i _ _ => rfl) ⟨?_, ?_, ?_, ?_, ?_⟩ <;> rw [e]
  · exact a
  · exact b
  · exact c
  · exact d
  · exact f
theorem WI_t2 {hs hs' sp : Nat → Int32} {x : Int32} (h : WI hs sp) (e : hs' = upd hs 30 x) : WI hs' sp := by
  obtain ⟨a, b, c, d, f⟩ := h 4 (by omega)
  refine WI_of h (fun w hw j hj => by rw [e]; unfold upd; rw [if_neg (by omega)]) (fun i _ _ => rfl) ⟨?_, ?_, ?_, ?_, ?_⟩ <;> rw [e]
  · exact a
  · exact b
  · exact c
  · exact d
  · exact f
theorem WI_t3 {hs hs' sp : Nat → Int32} {x : Int32} (h : WI hs sp) (e : hs' = upd hs 31 x) : WI hs' sp := by
  obtain ⟨a, b, c, d, f⟩ := h 4 (by omega)
  refine WI_of h (fun w hw j hj => by rw [e]; unfold upd; rw [if_neg (by omega)]) (fun i _ _ => rfl) ⟨?_, ?_, ?_, ?_, ?_⟩ <;> rw [e]
  · exact a
  · exact b
  · exact c
  · exact d
  · exact f
theorem WI_t5 {hs hs' sp : Nat → Int32} {x : Int32} (h : WI hs sp) (e : hs' = upd hs 33 x) (hx : 0 ≤ x.toInt ∧ x.toInt ≤ 8) : WI hs' sp := by
  obtain ⟨a, b, c, d, f⟩ := h 4 (by omega)
  refine WI_of h (fun w hw j hj => by rw [e]; unfold upd; rw [if_neg (by omega)]) (fun i _ _ => rfl) ⟨?_, ?_, ?_, ?_, ?_⟩ <;> rw [e]
  · exact a
  · exact b
  · exact hx
  · exact d
  · exact f
theorem WI_span {hs hs' sp s1 s2 s3 : Nat → Int32} {k k1 k2 v1 v2 v3 x : Int32} (h : WI hs sp) (hn : Int32.toInt (hs 32) < 5) (hk : k.toInt = 60 + 3 * Int32.toInt (hs 32)) (hk1 : k1.toInt = k.toInt + 1) (hk2 : k2.toInt = k.toInt + 2) (e1 : s1 = upd sp (Int32.toNatClampNeg k) v1) (e2 : s2 = upd s1 (Int32.toNatClampNeg k1) v2) (e3 : s3 = upd s2 (Int32.toNatClampNeg k2) v3) (h1 : 0 ≤ v1.toInt ∧ v1.toInt ≤ 12) (h2 : 1 ≤ v2.toInt ∧ v2.toInt ≤ 30) (e : hs' = upd hs 32 x) (hx : x.toInt = Int32.toInt (hs 32) + 1) : WI hs' s3 := by
  have h32 := h.h32
  obtain ⟨a, b, c, d, f⟩ := h 4 (by omega)
  have c0 := clampN (x := k) (by omega)
  have c1 := clampN (x := k1) (by omega)
  have c2 := clampN (x := k2) (by omega)
  have hs3 : ∀ i : Nat, ¬ i = Int32.toNatClampNeg k → ¬ i = Int32.toNatClampNeg k1 → ¬ i = Int32.toNatClampNeg k2 → s3 i = sp i := fun i g0 g1 g2 => by
    rw [e3]; unfold upd; rw [if_neg g2, e2]; unfold upd; rw [if_neg g1, e1]; unfold upd; rw [if_neg g0]
  have sk : s3 (Int32.toNatClampNeg k) = v1 := by
    rw [e3]; unfold upd; rw [if_neg (by omega), e2]; unfold upd; rw [if_neg (by omega), e1]; unfold upd; rw [if_pos rfl]
  have sk1 : s3 (Int32.toNatClampNeg k1) = v2 := by
    rw [e3]; unfold upd; rw [if_neg (by omega), e2]; unfold upd; rw [if_pos rfl]
  have q32 : hs' (7 * 4 + 4) = x := by rw [e]; rfl
  refine WI_of h (fun w hw j hj => by rw [e]; unfold upd; rw [if_neg (by omega)]) (fun i hi _ => hs3 i (by omega) (by omega) (by omega)) ⟨?_, ?_, ?_, ?_, ?_⟩
  · rw [e]; exact a
  · rw [q32]; omega
  · rw [e]; exact c
  · rw [e]; exact d
  · rw [q32]
    intro j hj
    by_cases hq : (j : Int) < Int32.toInt (hs 32)
    · rw [hs3 (15 * 4 + 3 * j) (by omega) (by omega) (by omega), hs3 (15 * 4 + (3 * j + 1)) (by omega) (by omega) (by omega)]
      exact f j hq
    · have ea : 15 * 4 + 3 * j = Int32.toNatClampNeg k := by omega
      have eb : 15 * 4 + (3 * j + 1) = Int32.toNatClampNeg k1 := by omega
      rw [ea, eb, sk, sk1]
      exact ⟨h1, h2⟩
abbrev CLR (hs hs' : Nat → Int32) (k : Int) : Prop := ∀ i : Nat, (i < 28 → hs' i = hs i) ∧ ((i : Int) < k → hs' (28 + i) = 0)
theorem CLR_0 {hs : Nat → Int32} : CLR hs hs (Int32.toInt 0) := fun i => ⟨fun _ => rfl, fun h => by simp only [T0] at h; omega⟩
theorem CLR_mono {hs hs' : Nat → Int32} {m n : Int} (h : CLR hs hs' m) (hn : n ≤ m) : CLR hs hs' n := fun i => ⟨(h i).1, fun hi => (h i).2 (by omega)⟩
theorem CLR_step {hs f g : Nat → Int32} {k : Int32} (h : CLR hs f (Int32.toInt k)) (h0 : 0 ≤ k.toInt) (e : g = upd f (28 + (Int32.toInt k).toNat) 0) : CLR hs g (Int32.toInt k + 1) := fun i => ⟨fun hi => by
    rw [e]; unfold upd; rw [if_neg (by omega)]; exact (h i).1 hi, fun hi => by
    rw [e]; unfold upd; split
    · rfl
    · exact (h i).2 (by omega)⟩
theorem WI_clr {hs hs' sp : Nat → Int32} (h : WI hs sp) (hc : CLR hs hs' 7) : WI hs' sp := by
  refine WI_of h (fun w hw j hj => (hc (7 * w + j)).1 (by omega)) (fun i _ _ => rfl) ?_
  have z : ∀ j : Nat, j < 7 → hs' (7 * 4 + j) = 0 := fun j hj => (hc j).2 (by omega)
  have z0 : hs' (7 * 4) = 0 := z 0 (by omega)
  refine ⟨by rw [z0, T0]; omega, by rw [z 4 (by omega), T0]; omega, by rw [z 5 (by omega), T0]; omega, by rw [z 6 (by omega), T0]; omega, fun j hj => ?_⟩
  rw [z 4 (by omega), T0] at hj
  omega
/-- a block copied: from place B on, k numbers of f from place A on -/
abbrev CP (A B k : Int) (f g : Nat → Int32) : Prop := ∀ i : Nat, ((B ≤ (i : Int) ∧ (i : Int) < B + k) → g i = f (i + A.toNat - B.toNat)) ∧ (¬ (B ≤ (i : Int) ∧ (i : Int) < B + k) → g i = f i)
theorem CP_0 {A B : Int} {f : Nat → Int32} : CP A B (Int32.toInt 0) f f := fun i => ⟨fun h => by simp only [T0] at h; omega, fun _ => rfl⟩
theorem CP_mono {A B k m : Int} {f g : Nat → Int32} (h : CP A B k f g) (e : m = k) : CP A B m f g := by rw [e]; exact h
theorem CP_step {A B n : Int} {f g g1 : Nat → Int32} {k y0 y1 x : Int32} (h : CP A B (Int32.toInt k) f g) (hA : 0 ≤ A) (hB : 0 ≤ B) (hk0 : 0 ≤ k.toInt) (hkn : k.toInt < n) (hd : A + n ≤ B ∨ B + n ≤ A) (h0 : y0.toInt = A + k.toInt) (h1 : y1.toInt = B + k.toInt) (ex : x = g (Int32.toNatClampNeg y0)) (eg : g1 = upd g (Int32.toNatClampNeg y1) x) : CP A B (Int32.toInt k + 1) f g1 := fun i => by
  have c0 := clampN (x := y0) (by omega)
  have c1 := clampN (x := y1) (by omega)
  refine ⟨fun hi => ?_, fun hi => ?_⟩
  · rw [eg]; unfold upd; split
    · rename_i hq
      rw [ex, (h (Int32.toNatClampNeg y0)).2 (by omega)]
      have e : Int32.toNatClampNeg y0 = i + A.toNat - B.toNat := by omega
      rw [e]
    · exact (h i).1 (by omega)
  · rw [eg]; unfold upd; split
    · exfalso; omega
    · exact (h i).2 (by omega)
theorem WI_copy {hs hs' sp sp' : Nat → Int32} {a b : Int32} (h : WI hs sp) (ha : 0 ≤ a.toInt ∧ a.toInt ≤ 4) (hb : 0 ≤ b.toInt ∧ b.toInt ≤ 4) (h1 : CP (7 * a.toInt) (7 * b.toInt) 7 hs hs') (h2 : CP (15 * a.toInt) (15 * b.toInt) 15 sp sp') : WI hs' sp' := fun w hw => by
  by_cases hq : (w : Int) = b.toInt
  · obtain ⟨a0, b0, c0, d0, e0⟩ := h a.toInt.toNat (by omega)
    have g : ∀ j : Nat, j < 7 → hs' (7 * w + j) = hs (7 * a.toInt.toNat + j) := fun j hj => by
      rw [(h1 (7 * w + j)).1 (by omega)]
      have e : 7 * w + j + (7 * a.toInt).toNat - (7 * b.toInt).toNat = 7 * a.toInt.toNat + j := by omega
      rw [e]
    have g0 : hs' (7 * w) = hs (7 * a.toInt.toNat) := g 0 (by omega)
    refine ⟨by rw [g0]; exact a0, by rw [g 4 (by omega)]; exact b0, by rw [g 5 (by omega)]; exact c0, by rw [g 6 (by omega)]; exact d0, fun j hj => ?_⟩
    rw [g 4 (by omega)] at hj
    have s0 : sp' (15 * w + 3 * j) = sp (15 * a.toInt.toNat + 3 * j) := by
      rw [(h2 (15 * w + 3 * j)).1 (by omega)]
      have e : 15 * w + 3 * j + (15 * a.toInt).toNat - (15 * b.toInt).toNat = 15 * a.toInt.toNat + 3 * j := by omega
      rw [e]
    have s1 : sp' (15 * w + (3 * j + 1)) = sp (15 * a.toInt.toNat + (3 * j + 1)) := by
      rw [(h2 (15 * w + (3 * j + 1))).1 (by omega)]
      have e : 15 * w + (3 * j + 1) + (15 * a.toInt).toNat - (15 * b.toInt).toNat = 15 * a.toInt.toNat + (3 * j + 1) := by omega
      rw [e]
    rw [s0, s1]
    exact e0 j hj
  · obtain ⟨a0, b0, c0, d0, e0⟩ := h w hw
    have g : ∀ j : Nat, j < 7 → hs' (7 * w + j) = hs (7 * w + j) := fun j hj => (h1 (7 * w + j)).2 (by omega)
    have g0 : hs' (7 * w) = hs (7 * w) := g 0 (by omega)
    refine ⟨by rw [g0]; exact a0, by rw [g 4 (by omega)]; exact b0, by rw [g 5 (by omega)]; exact c0, by rw [g 6 (by omega)]; exact d0, fun j hj => ?_⟩
    rw [g 4 (by omega)] at hj
    rw [(h2 (15 * w + 3 * j)).2 (by omega), (h2 (15 * w + (3 * j + 1))).2 (by omega)]
    exact e0 j hj
abbrev HU6 (hs hs' : Nat → Int32) : Prop := (∀ i : Nat, ¬ i = 6 → hs' i = hs i) ∧ 0 ≤ Int32.toInt (hs' 6) ∧ Int32.toInt (hs' 6) ≤ 30
theorem HU6_upd {hs hs' : Nat → Int32} {x : Int32} (e : hs' = upd hs 6 x) (hx : 0 ≤ x.toInt ∧ x.toInt ≤ 30) : HU6 hs hs' := ⟨fun i hi => by rw [e]; unfold upd; rw [if_neg hi], by rw [e]; exact hx⟩
theorem HU6_rf {hs : Nat → Int32} (h : 0 ≤ Int32.toInt (hs 6) ∧ Int32.toInt (hs 6) ≤ 30) : HU6 hs hs := ⟨fun _ _ => rfl, h⟩
theorem WI_u6 {hs hs' sp : Nat → Int32} (h : WI hs sp) (u : HU6 hs hs') : WI hs' sp := fun w hw => by
  obtain ⟨a, b, c, d, e⟩ := h w hw
  have g0 := u.1 (7 * w) (by omega)
  have g4 := u.1 (7 * w + 4) (by omega)
  have g5 := u.1 (7 * w + 5) (by omega)
  refine ⟨by rw [g0]; exact a, by rw [g4]; exact b, by rw [g5]; exact c, ?_, by rw [g4]; exact e⟩
  by_cases hq : w = 0
  · subst hq; exact u.2
  · rw [u.1 (7 * w + 6) (by omega)]; exact d
abbrev SU (sp sp' : Nat → Int32) : Prop := ∀ i : Nat, ¬ i % 3 = 2 → sp' i = sp i
theorem SU_upd {sp sp' : Nat → Int32} {k y x : Int32} (e : sp' = upd sp (Int32.toNatClampNeg y) x) (h0 : 0 ≤ k.toInt) (hy : y.toInt = 3 * k.toInt + 2) : SU sp sp' := fun i hi => by
  have c := clampN (x := y) (by omega)
  rw [e]; unfold upd; rw [if_neg (by omega)]
theorem SU_rf {sp : Nat → Int32} : SU sp sp := fun _ _ => rfl
theorem WI_su {hs sp sp' : Nat → Int32} (h : WI hs sp) (u : SU sp sp') : WI hs sp' := fun w hw => by
  obtain ⟨a, b, c, d, e⟩ := h w hw
  refine ⟨a, b, c, d, fun j hj => ?_⟩
  rw [u (15 * w + 3 * j) (by omega), u (15 * w + (3 * j + 1)) (by omega)]
  exact e j hj
theorem rgM_upd {f g : Nat → Int32} {k : Nat} {x : Int32} (h : ∀ i : Nat, 0 ≤ Int32.toInt (f i) ∧ Int32.toInt (f i) ≤ 60) (e : g = upd f k x) (hx : 0 ≤ x.toInt ∧ x.toInt ≤ 60) : ∀ i : Nat, 0 ≤ Int32.toInt (g i) ∧ Int32.toInt (g i) ≤ 60 := fun i => by
  rw [e]; unfold upd; split
  · exact hx
  · exact h i
-- the ladder's numbers stay small
def PV (k : Int32) (v : Int64) : Prop := 1 ≤ v.toInt ∧ v.toInt ≤ 30 ^ k.toInt.toNat
theorem PV_0 : PV 0 1 := ⟨by decide, by decide⟩
theorem pow30 {k : Nat} (h : k ≤ 5) : (1 : Int) ≤ 30 ^ k ∧ (30 : Int) ^ k ≤ 24300000 := by
  rcases (show k = 0 ∨ k = 1 ∨ k = 2 ∨ k = 3 ∨ k = 4 ∨ k = 5 by omega) with rfl | rfl | rfl | rfl | rfl | rfl <;> decide
theorem PV_step {k k1 : Int32} {v z y : Int64} (h : PV k v) (h0 : 0 ≤ k.toInt) (h4 : k.toInt ≤ 4) (hk : k1.toInt = k.toInt + 1) (hy : 1 ≤ y.toInt ∧ y.toInt ≤ 30) (e : z = v * y) : PV k1 z := by
  obtain ⟨h1, h2⟩ := h
  have hb := pow30 (k := k.toInt.toNat) (by omega)
  have hz := lmulXY e ⟨by omega, by omega, by omega, by omega⟩
  have ep : (30 : Int) ^ k1.toInt.toNat = 30 ^ k.toInt.toNat * 30 := by
    rw [show k1.toInt.toNat = k.toInt.toNat + 1 by omega, Int.pow_succ]
  exact ⟨by omega, by rw [ep]; omega⟩
theorem pow25 {k : Nat} (h : k ≤ 5) : (1 : Int) ≤ 25 ^ k ∧ (25 : Int) ^ k ≤ 9765625 := by
  rcases (show k = 0 ∨ k = 1 ∨ k = 2 ∨ k = 3 ∨ k = 4 ∨ k = 5 by omega) with rfl | rfl | rfl | rfl | rfl | rfl <;> decide
def BV (k : Int32) (v i : Int64) : Prop := 1 ≤ v.toInt ∧ 0 ≤ i.toInt ∧ v.toInt ≤ 24300000 * 25 ^ (4 - k.toInt).toNat ∧ i.toInt ≤ 24300000 * 25 ^ (4 - k.toInt).toNat
theorem BV_0 {k k' : Int32} {v : Int64} (h : PV k v) (hk : 0 ≤ k.toInt ∧ k.toInt ≤ 5) (h' : -1 ≤ k'.toInt ∧ k'.toInt ≤ 4) : BV k' v 0 := by
  obtain ⟨h1, h2⟩ := h
  have hb := pow30 (k := k.toInt.toNat) (by omega)
  have hc := pow25 (k := (4 - k'.toInt).toNat) (by omega)
  refine ⟨h1, by rw [L0]; omega, by omega, by rw [L0]; omega⟩
theorem BV_step {k k1 : Int32} {v v1 i i1 q o w y : Int64} (h : BV k v i) (h0 : 0 ≤ k.toInt) (h4 : k.toInt ≤ 4) (hk : k1.toInt = k.toInt - 1) (hy : 1 ≤ y.toInt) (ho : 0 ≤ o.toInt ∧ o.toInt ≤ 12) (eq : q = v / y) (ei : i1 = i + q) (ew : w = o * i1) (ev : v1 = v + w) : BV k1 v1 i1 := by
  obtain ⟨a1, a2, a3, a4⟩ := h
  have hc := pow25 (k := (4 - k.toInt).toNat) (by omega)
  have hq := ldivF eq ⟨by omega, hy⟩
  have hi := laddF ei (by omega)
  have hw := lmulYX ew ⟨by omega, by omega, by omega, by omega⟩
  have hw2 := hw.2.2.2 ho.2
  have hv := laddF ev (by omega)
  have ep : (25 : Int) ^ (4 - k1.toInt).toNat = 25 ^ (4 - k.toInt).toNat * 25 := by
    rw [show (4 - k1.toInt).toNat = (4 - k.toInt).toNat + 1 by omega, Int.pow_succ]
  exact ⟨by omega, by omega, by rw [ep]; omega, by rw [ep]; omega⟩
