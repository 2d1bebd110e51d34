theorem zd_next {l t : List UInt8} {p : Nat} {b : UInt8} (h : l.drop p = b :: t) : l.drop (p + 1) = t := by
  rw [← List.tail_drop, h]
  rfl
theorem zd_at {l tl : List UInt8} {k p : Nat} (hk : l.drop k = tl) (j : Nat) {b : UInt8} {t : List UInt8} (e : p = k + j) (h : tl.drop j = b :: t) : l.drop p = b :: t := by
  subst e
  rw [← List.drop_drop, hk]
  exact h
theorem zd_nx {l tl tl2 : List UInt8} {k : Nat} (hk : l.drop k = tl) (j : Nat) {p : Nat} (e : p = k + j) (h : tl.drop j = tl2) : l.drop p = tl2 := by
  subst e
  rw [← List.drop_drop, hk]
  exact h
def zdB : List UInt8 → List UInt8 → Bool
  | [], [] => true
  | a :: as, b :: bs => cond (Nat.beq a.toNat b.toNat) (zdB as bs) false
  | _, _ => false
theorem zdB_eq : ∀ {as bs : List UInt8}, zdB as bs = true → as = bs
  | [], [], _ => rfl
  | a :: as, b :: bs, h => by
    have h1 : cond (Nat.beq a.toNat b.toNat) (zdB as bs) false = true := h
    cases q : Nat.beq a.toNat b.toNat with
    | false => rw [q] at h1; cases h1
    | true =>
      rw [q] at h1
      have h2 : a = b := UInt8.toNat_inj.mp (Nat.eq_of_beq_eq_true q)
      rw [h2, zdB_eq (as := as) (bs := bs) h1]
  | [], _ :: _, h => by cases h
  | _ :: _, [], h => by cases h
theorem zd_u1 {c : ByteArray} {p n : Nat} {b : UInt8} {t : List UInt8} (h : c.data.toList.drop p = b :: t) (e : b.toNat = n) : Jvm.ClassFile.Reader.runAt (Jvm.ClassFile.Reader.u1 : Jvm.ClassFile.Decoder Nat) c p = .ok (n, p + 1) := by
  obtain ⟨d⟩ := c
  have h : d.toList.drop p = b :: t := h
  have hl : p < d.toList.length := by
    rcases Nat.lt_or_ge p d.toList.length with h1 | h1
    · exact h1
    · rw [List.drop_eq_nil_of_le h1] at h
      cases h
  have hp : p < (ByteArray.mk d).size := hl
  rw [List.drop_eq_getElem_cons hl] at h
  have hb : (ByteArray.mk d)[p]'hp = b := (List.cons.inj h).1
  have e1 : Jvm.ClassFile.Reader.runAt (Jvm.ClassFile.Reader.u1 : Jvm.ClassFile.Decoder Nat) (ByteArray.mk d) p = (dite (p < (ByteArray.mk d).size) (fun h9 => (do set (p + 1); pure ((ByteArray.mk d)[p]'h9).toNat : Jvm.ClassFile.Decoder Nat)) (fun _ => throw (Jvm.ClassFile.HasTruncated.truncated p))) (ByteArray.mk d) p := rfl
  rw [e1, dif_pos hp]
  show Except.ok (((ByteArray.mk d)[p]'hp).toNat, p + 1) = _
  rw [hb, e]
theorem zd_b {α β : Type} {x : Jvm.ClassFile.Decoder α} {f : α → Jvm.ClassFile.Decoder β} {c : ByteArray} {p q : Nat} {a : α} {r : Except Jvm.ClassFile.DecodeError (β × Nat)} (h : Jvm.ClassFile.Reader.runAt x c p = .ok (a, q)) (h2 : Jvm.ClassFile.Reader.runAt (f a) c q = r) : Jvm.ClassFile.Reader.runAt (x >>= f) c p = r := by
  subst h2
  have e : Jvm.ClassFile.Reader.runAt (x >>= f) c p = Except.bind (Jvm.ClassFile.Reader.runAt x c p) (fun y => Jvm.ClassFile.Reader.runAt (f y.1) c y.2) := rfl
  rw [e, h]
  rfl
theorem zd_u2 {c : ByteArray} {p n : Nat} {b1 b2 : UInt8} {t : List UInt8} (h : c.data.toList.drop p = b1 :: b2 :: t) (e : b1.toNat * 256 + b2.toNat = n) : Jvm.ClassFile.Reader.runAt (Jvm.ClassFile.Reader.u2 : Jvm.ClassFile.Decoder Nat) c p = .ok (n, p + 2) := by
  subst e
  unfold Jvm.ClassFile.Reader.u2
  exact zd_b (zd_u1 h rfl) (zd_b (zd_u1 (zd_next h) rfl) rfl)
theorem zd_s2 {c : ByteArray} {p n q : Nat} {z : Int} (h : Jvm.ClassFile.Reader.runAt (Jvm.ClassFile.Reader.u2 : Jvm.ClassFile.Decoder Nat) c p = .ok (n, q)) (e : Jvm.ClassFile.Reader.signed 16 n = z) : Jvm.ClassFile.Reader.runAt (Jvm.ClassFile.Reader.s2 : Jvm.ClassFile.Decoder Int) c p = .ok (z, q) := by
  subst e
  have e1 : Jvm.ClassFile.Reader.runAt (Jvm.ClassFile.Reader.s2 : Jvm.ClassFile.Decoder Int) c p = Except.bind (Jvm.ClassFile.Reader.runAt (Jvm.ClassFile.Reader.u2 : Jvm.ClassFile.Decoder Nat) c p) (fun y => Except.ok (Jvm.ClassFile.Reader.signed 16 y.1, y.2)) := rfl
  rw [e1, h]
  rfl
theorem zd_d {c : ByteArray} {p q n : Nat} {I : Instr} (h : Jvm.ClassFile.Reader.runAt (Jvm.ClassFile.Decoder.instr p) c p = .ok (I, q)) (e : q - p = n) : decode c p = .ok (I, n) := by
  subst e
  unfold decode
  rw [h]
  rfl
set_option maxRecDepth 100000 in
theorem zd_2 {c : ByteArray} {p : Nat} {t : List UInt8} (h : c.data.toList.drop p = 2 :: t) : decode c p = .ok (.iconst (-1), 1) := by
  refine zd_d (q := p + 1) ?_ (by omega)
  unfold Jvm.ClassFile.Decoder.instr
  exact zd_b (zd_u1 (n := 2) h rfl) rfl
set_option maxRecDepth 100000 in
theorem zd_3 {c : ByteArray} {p : Nat} {t : List UInt8} (h : c.data.toList.drop p = 3 :: t) : decode c p = .ok (.iconst 0, 1) := by
  refine zd_d (q := p + 1) ?_ (by omega)
  unfold Jvm.ClassFile.Decoder.instr
  exact zd_b (zd_u1 (n := 3) h rfl) rfl
set_option maxRecDepth 100000 in
theorem zd_4 {c : ByteArray} {p : Nat} {t : List UInt8} (h : c.data.toList.drop p = 4 :: t) : decode c p = .ok (.iconst 1, 1) := by
  refine zd_d (q := p + 1) ?_ (by omega)
  unfold Jvm.ClassFile.Decoder.instr
  exact zd_b (zd_u1 (n := 4) h rfl) rfl
set_option maxRecDepth 100000 in
theorem zd_5 {c : ByteArray} {p : Nat} {t : List UInt8} (h : c.data.toList.drop p = 5 :: t) : decode c p = .ok (.iconst 2, 1) := by
  refine zd_d (q := p + 1) ?_ (by omega)
  unfold Jvm.ClassFile.Decoder.instr
  exact zd_b (zd_u1 (n := 5) h rfl) rfl
set_option maxRecDepth 100000 in
theorem zd_6 {c : ByteArray} {p : Nat} {t : List UInt8} (h : c.data.toList.drop p = 6 :: t) : decode c p = .ok (.iconst 3, 1) := by
  refine zd_d (q := p + 1) ?_ (by omega)
  unfold Jvm.ClassFile.Decoder.instr
  exact zd_b (zd_u1 (n := 6) h rfl) rfl
set_option maxRecDepth 100000 in
theorem zd_7 {c : ByteArray} {p : Nat} {t : List UInt8} (h : c.data.toList.drop p = 7 :: t) : decode c p = .ok (.iconst 4, 1) := by
  refine zd_d (q := p + 1) ?_ (by omega)
  unfold Jvm.ClassFile.Decoder.instr
  exact zd_b (zd_u1 (n := 7) h rfl) rfl
set_option maxRecDepth 100000 in
theorem zd_8 {c : ByteArray} {p : Nat} {t : List UInt8} (h : c.data.toList.drop p = 8 :: t) : decode c p = .ok (.iconst 5, 1) := by
  refine zd_d (q := p + 1) ?_ (by omega)
  unfold Jvm.ClassFile.Decoder.instr
  exact zd_b (zd_u1 (n := 8) h rfl) rfl
set_option maxRecDepth 100000 in
theorem zd_29 {c : ByteArray} {p : Nat} {t : List UInt8} (h : c.data.toList.drop p = 29 :: t) : decode c p = .ok (.iload_n 3, 1) := by
  refine zd_d (q := p + 1) ?_ (by omega)
  unfold Jvm.ClassFile.Decoder.instr
  exact zd_b (zd_u1 (n := 29) h rfl) rfl
set_option maxRecDepth 100000 in
theorem zd_42 {c : ByteArray} {p : Nat} {t : List UInt8} (h : c.data.toList.drop p = 42 :: t) : decode c p = .ok (.aload_n 0, 1) := by
  refine zd_d (q := p + 1) ?_ (by omega)
  unfold Jvm.ClassFile.Decoder.instr
  exact zd_b (zd_u1 (n := 42) h rfl) rfl
set_option maxRecDepth 100000 in
theorem zd_43 {c : ByteArray} {p : Nat} {t : List UInt8} (h : c.data.toList.drop p = 43 :: t) : decode c p = .ok (.aload_n 1, 1) := by
  refine zd_d (q := p + 1) ?_ (by omega)
  unfold Jvm.ClassFile.Decoder.instr
  exact zd_b (zd_u1 (n := 43) h rfl) rfl
set_option maxRecDepth 100000 in
theorem zd_44 {c : ByteArray} {p : Nat} {t : List UInt8} (h : c.data.toList.drop p = 44 :: t) : decode c p = .ok (.aload_n 2, 1) := by
  refine zd_d (q := p + 1) ?_ (by omega)
  unfold Jvm.ClassFile.Decoder.instr
  exact zd_b (zd_u1 (n := 44) h rfl) rfl
set_option maxRecDepth 100000 in
theorem zd_46 {c : ByteArray} {p : Nat} {t : List UInt8} (h : c.data.toList.drop p = 46 :: t) : decode c p = .ok (.iaload, 1) := by
  refine zd_d (q := p + 1) ?_ (by omega)
  unfold Jvm.ClassFile.Decoder.instr
  exact zd_b (zd_u1 (n := 46) h rfl) rfl
set_option maxRecDepth 100000 in
theorem zd_87 {c : ByteArray} {p : Nat} {t : List UInt8} (h : c.data.toList.drop p = 87 :: t) : decode c p = .ok (.pop, 1) := by
  refine zd_d (q := p + 1) ?_ (by omega)
  unfold Jvm.ClassFile.Decoder.instr
  exact zd_b (zd_u1 (n := 87) h rfl) rfl
set_option maxRecDepth 100000 in
theorem zd_88 {c : ByteArray} {p : Nat} {t : List UInt8} (h : c.data.toList.drop p = 88 :: t) : decode c p = .ok (.pop2, 1) := by
  refine zd_d (q := p + 1) ?_ (by omega)
  unfold Jvm.ClassFile.Decoder.instr
  exact zd_b (zd_u1 (n := 88) h rfl) rfl
set_option maxRecDepth 100000 in
theorem zd_96 {c : ByteArray} {p : Nat} {t : List UInt8} (h : c.data.toList.drop p = 96 :: t) : decode c p = .ok (.iadd, 1) := by
  refine zd_d (q := p + 1) ?_ (by omega)
  unfold Jvm.ClassFile.Decoder.instr
  exact zd_b (zd_u1 (n := 96) h rfl) rfl
set_option maxRecDepth 100000 in
theorem zd_121 {c : ByteArray} {p : Nat} {t : List UInt8} (h : c.data.toList.drop p = 121 :: t) : decode c p = .ok (.lshl, 1) := by
  refine zd_d (q := p + 1) ?_ (by omega)
  unfold Jvm.ClassFile.Decoder.instr
  exact zd_b (zd_u1 (n := 121) h rfl) rfl
set_option maxRecDepth 100000 in
theorem zd_127 {c : ByteArray} {p : Nat} {t : List UInt8} (h : c.data.toList.drop p = 127 :: t) : decode c p = .ok (.land, 1) := by
  refine zd_d (q := p + 1) ?_ (by omega)
  unfold Jvm.ClassFile.Decoder.instr
  exact zd_b (zd_u1 (n := 127) h rfl) rfl
set_option maxRecDepth 100000 in
theorem zd_129 {c : ByteArray} {p : Nat} {t : List UInt8} (h : c.data.toList.drop p = 129 :: t) : decode c p = .ok (.lor, 1) := by
  refine zd_d (q := p + 1) ?_ (by omega)
  unfold Jvm.ClassFile.Decoder.instr
  exact zd_b (zd_u1 (n := 129) h rfl) rfl
set_option maxRecDepth 100000 in
theorem zd_133 {c : ByteArray} {p : Nat} {t : List UInt8} (h : c.data.toList.drop p = 133 :: t) : decode c p = .ok (.i2l, 1) := by
  refine zd_d (q := p + 1) ?_ (by omega)
  unfold Jvm.ClassFile.Decoder.instr
  exact zd_b (zd_u1 (n := 133) h rfl) rfl
set_option maxRecDepth 100000 in
theorem zd_182 {c : ByteArray} {p : Nat} {n : Nat} {b1 b2 : UInt8} {t : List UInt8} (h : c.data.toList.drop p = 182 :: b1 :: b2 :: t) (e : b1.toNat * 256 + b2.toNat = n) : decode c p = .ok (.invokevirtual n, 3) := by
  refine zd_d (q := p + 3) ?_ (by omega)
  unfold Jvm.ClassFile.Decoder.instr
  refine zd_b (zd_u1 (n := 182) h rfl) ?_
  show Jvm.ClassFile.Reader.runAt ((Jvm.ClassFile.Reader.u2 : Jvm.ClassFile.Decoder Nat) >>= fun a => pure (Instr.invokevirtual a)) c (p + 1) = _
  exact zd_b (zd_u2 (zd_next h) e) rfl
set_option maxRecDepth 100000 in
theorem zd_167 {c : ByteArray} {p : Nat} {n : Int} {b1 b2 : UInt8} {t : List UInt8} (h : c.data.toList.drop p = 167 :: b1 :: b2 :: t) (e : Jvm.ClassFile.Reader.signed 16 (b1.toNat * 256 + b2.toNat) = n) : decode c p = .ok (.goto n, 3) := by
  refine zd_d (q := p + 3) ?_ (by omega)
  unfold Jvm.ClassFile.Decoder.instr
  refine zd_b (zd_u1 (n := 167) h rfl) ?_
  show Jvm.ClassFile.Reader.runAt ((Jvm.ClassFile.Reader.s2 : Jvm.ClassFile.Decoder Int) >>= fun a => pure (Instr.goto a)) c (p + 1) = _
  exact zd_b (zd_s2 (zd_u2 (zd_next h) rfl) e) rfl
def tl_133 : List UInt8 := 132 :: 3 :: 6 :: 167 :: 245 :: 171 :: 4 :: 172 :: []
def tl_132 : List UInt8 := 6 :: 96 :: 46 :: 42 :: 29 :: 7 :: 96 :: 46 :: 42 :: 29 :: 8 :: 96 :: 46 :: 182 :: 1 :: 111 :: 87 :: 167 :: 0 :: 3 :: tl_133
def tl_131 : List UInt8 := 8 :: 96 :: 46 :: 182 :: 1 :: 108 :: 87 :: 44 :: 42 :: 29 :: 4 :: 96 :: 46 :: 42 :: 29 :: 5 :: 96 :: 46 :: 42 :: 29 :: tl_132
def tl_130 : List UInt8 := 4 :: 96 :: 46 :: 42 :: 29 :: 5 :: 96 :: 46 :: 42 :: 29 :: 6 :: 96 :: 46 :: 42 :: 29 :: 7 :: 96 :: 46 :: 42 :: 29 :: tl_131
def tl_129 : List UInt8 := 29 :: 7 :: 96 :: 46 :: 133 :: 20 :: 1 :: 101 :: 127 :: 129 :: 182 :: 1 :: 107 :: 87 :: 167 :: 0 :: 66 :: 43 :: 42 :: 29 :: tl_130
def tl_128 : List UInt8 := 42 :: 29 :: 4 :: 96 :: 46 :: 42 :: 29 :: 5 :: 96 :: 46 :: 42 :: 29 :: 6 :: 96 :: 46 :: 133 :: 16 :: 32 :: 121 :: 42 :: tl_129
def tl_127 : List UInt8 := 133 :: 16 :: 32 :: 121 :: 42 :: 29 :: 7 :: 96 :: 46 :: 133 :: 20 :: 1 :: 101 :: 127 :: 129 :: 182 :: 1 :: 103 :: 87 :: 44 :: tl_128
def tl_126 : List UInt8 := 87 :: 167 :: 0 :: 139 :: 43 :: 42 :: 29 :: 4 :: 96 :: 46 :: 42 :: 29 :: 5 :: 96 :: 46 :: 42 :: 29 :: 6 :: 96 :: 46 :: tl_127
def tl_125 : List UInt8 := 87 :: 44 :: 42 :: 29 :: 4 :: 96 :: 46 :: 42 :: 29 :: 5 :: 96 :: 46 :: 42 :: 29 :: 6 :: 96 :: 46 :: 182 :: 1 :: 100 :: tl_126
def tl_124 : List UInt8 := 182 :: 43 :: 42 :: 29 :: 4 :: 96 :: 46 :: 42 :: 29 :: 5 :: 96 :: 46 :: 42 :: 29 :: 6 :: 96 :: 46 :: 182 :: 1 :: 97 :: tl_125
def tl_123 : List UInt8 := 29 :: 4 :: 96 :: 46 :: 182 :: 1 :: 93 :: 87 :: 44 :: 42 :: 29 :: 4 :: 96 :: 46 :: 182 :: 1 :: 96 :: 87 :: 167 :: 0 :: tl_124
def tl_122 : List UInt8 := 46 :: 182 :: 1 :: 89 :: 44 :: 42 :: 29 :: 4 :: 96 :: 46 :: 182 :: 1 :: 92 :: 159 :: 0 :: 207 :: 3 :: 172 :: 43 :: 42 :: tl_123
def tl_121 : List UInt8 := 85 :: 87 :: 44 :: 42 :: 29 :: 4 :: 96 :: 46 :: 182 :: 1 :: 88 :: 87 :: 167 :: 0 :: 228 :: 43 :: 42 :: 29 :: 4 :: 96 :: tl_122
def tl_120 : List UInt8 := 42 :: 29 :: 5 :: 96 :: 46 :: 182 :: 1 :: 84 :: 87 :: 167 :: 0 :: 251 :: 43 :: 42 :: 29 :: 4 :: 96 :: 46 :: 182 :: 1 :: tl_121
def tl_119 : List UInt8 := 42 :: 29 :: 4 :: 96 :: 46 :: 42 :: 29 :: 5 :: 96 :: 46 :: 182 :: 1 :: 81 :: 87 :: 44 :: 42 :: 29 :: 4 :: 96 :: 46 :: tl_120
def tl_118 : List UInt8 := 96 :: 46 :: 42 :: 29 :: 5 :: 96 :: 46 :: 42 :: 29 :: 6 :: 96 :: 46 :: 182 :: 1 :: 80 :: 87 :: 167 :: 1 :: 28 :: 43 :: tl_119
def tl_117 : List UInt8 := 96 :: 46 :: 42 :: 29 :: 5 :: 96 :: 46 :: 42 :: 29 :: 6 :: 96 :: 46 :: 182 :: 1 :: 77 :: 87 :: 44 :: 42 :: 29 :: 4 :: tl_118
def tl_116 : List UInt8 := 29 :: 4 :: 96 :: 46 :: 42 :: 29 :: 5 :: 96 :: 46 :: 182 :: 1 :: 76 :: 87 :: 167 :: 1 :: 71 :: 43 :: 42 :: 29 :: 4 :: tl_117
def tl_115 : List UInt8 := 167 :: 1 :: 104 :: 43 :: 42 :: 29 :: 4 :: 96 :: 46 :: 42 :: 29 :: 5 :: 96 :: 46 :: 182 :: 1 :: 73 :: 87 :: 44 :: 42 :: tl_116
def tl_114 : List UInt8 := 65 :: 87 :: 44 :: 182 :: 1 :: 68 :: 87 :: 167 :: 1 :: 117 :: 43 :: 182 :: 1 :: 69 :: 87 :: 44 :: 182 :: 1 :: 72 :: 87 :: tl_115
def tl_113 : List UInt8 := 42 :: 29 :: 4 :: 96 :: 46 :: 42 :: 29 :: 5 :: 96 :: 46 :: 182 :: 1 :: 64 :: 87 :: 167 :: 1 :: 130 :: 43 :: 182 :: 1 :: tl_114
def tl_112 : List UInt8 := 87 :: 167 :: 1 :: 163 :: 43 :: 42 :: 29 :: 4 :: 96 :: 46 :: 42 :: 29 :: 5 :: 96 :: 46 :: 182 :: 1 :: 61 :: 87 :: 44 :: tl_113
def tl_111 : List UInt8 := 96 :: 46 :: 182 :: 1 :: 57 :: 87 :: 44 :: 42 :: 29 :: 4 :: 96 :: 46 :: 42 :: 29 :: 5 :: 96 :: 46 :: 182 :: 1 :: 60 :: tl_112
def tl_110 : List UInt8 := 29 :: 5 :: 96 :: 46 :: 182 :: 1 :: 56 :: 88 :: 167 :: 1 :: 196 :: 43 :: 42 :: 29 :: 4 :: 96 :: 46 :: 42 :: 29 :: 5 :: tl_111
def tl_109 : List UInt8 := 29 :: 4 :: 96 :: 46 :: 42 :: 29 :: 5 :: 96 :: 46 :: 182 :: 1 :: 53 :: 88 :: 44 :: 42 :: 29 :: 4 :: 96 :: 46 :: 42 :: tl_110
def tl_108 : List UInt8 := 46 :: 42 :: 29 :: 5 :: 96 :: 46 :: 42 :: 29 :: 6 :: 96 :: 46 :: 182 :: 1 :: 52 :: 87 :: 167 :: 1 :: 229 :: 43 :: 42 :: tl_109
def tl_107 : List UInt8 := 46 :: 42 :: 29 :: 5 :: 96 :: 46 :: 42 :: 29 :: 6 :: 96 :: 46 :: 182 :: 1 :: 48 :: 87 :: 44 :: 42 :: 29 :: 4 :: 96 :: tl_108
def tl_106 : List UInt8 := 6 :: 96 :: 46 :: 42 :: 29 :: 7 :: 96 :: 46 :: 182 :: 1 :: 47 :: 87 :: 167 :: 2 :: 16 :: 43 :: 42 :: 29 :: 4 :: 96 :: tl_107
def tl_105 : List UInt8 := 7 :: 96 :: 46 :: 182 :: 1 :: 43 :: 87 :: 44 :: 42 :: 29 :: 4 :: 96 :: 46 :: 42 :: 29 :: 5 :: 96 :: 46 :: 42 :: 29 :: tl_106
def tl_104 : List UInt8 := 2 :: 69 :: 43 :: 42 :: 29 :: 4 :: 96 :: 46 :: 42 :: 29 :: 5 :: 96 :: 46 :: 42 :: 29 :: 6 :: 96 :: 46 :: 42 :: 29 :: tl_105
def tl_103 : List UInt8 := 182 :: 1 :: 39 :: 87 :: 44 :: 42 :: 29 :: 4 :: 96 :: 46 :: 42 :: 29 :: 5 :: 96 :: 46 :: 182 :: 1 :: 42 :: 87 :: 167 :: tl_104
def tl_102 : List UInt8 := 96 :: 46 :: 182 :: 1 :: 38 :: 87 :: 167 :: 2 :: 102 :: 43 :: 42 :: 29 :: 4 :: 96 :: 46 :: 42 :: 29 :: 5 :: 96 :: 46 :: tl_103
def tl_101 : List UInt8 := 96 :: 46 :: 42 :: 29 :: 5 :: 96 :: 46 :: 182 :: 1 :: 35 :: 87 :: 44 :: 42 :: 29 :: 4 :: 96 :: 46 :: 42 :: 29 :: 5 :: tl_102
def tl_100 : List UInt8 := 1 :: 31 :: 87 :: 44 :: 42 :: 29 :: 4 :: 96 :: 46 :: 182 :: 1 :: 34 :: 87 :: 167 :: 2 :: 135 :: 43 :: 42 :: 29 :: 4 :: tl_101
def tl_99 : List UInt8 := 43 :: 182 :: 1 :: 27 :: 87 :: 44 :: 182 :: 1 :: 30 :: 87 :: 167 :: 2 :: 158 :: 43 :: 42 :: 29 :: 4 :: 96 :: 46 :: 182 :: tl_100
def tl_98 : List UInt8 := 4 :: 96 :: 46 :: 182 :: 1 :: 23 :: 87 :: 44 :: 42 :: 29 :: 4 :: 96 :: 46 :: 182 :: 1 :: 26 :: 87 :: 167 :: 2 :: 171 :: tl_99
def tl_97 : List UInt8 := 182 :: 1 :: 19 :: 87 :: 44 :: 42 :: 29 :: 4 :: 96 :: 46 :: 182 :: 1 :: 22 :: 87 :: 167 :: 2 :: 194 :: 43 :: 42 :: 29 :: tl_98
def tl_96 : List UInt8 := 87 :: 44 :: 42 :: 29 :: 4 :: 96 :: 46 :: 182 :: 1 :: 18 :: 87 :: 167 :: 2 :: 217 :: 43 :: 42 :: 29 :: 4 :: 96 :: 46 :: tl_97
def tl_95 : List UInt8 := 29 :: 4 :: 96 :: 46 :: 182 :: 1 :: 14 :: 87 :: 167 :: 2 :: 240 :: 43 :: 42 :: 29 :: 4 :: 96 :: 46 :: 182 :: 1 :: 15 :: tl_96
def tl_94 : List UInt8 := 46 :: 182 :: 1 :: 10 :: 87 :: 167 :: 3 :: 7 :: 43 :: 42 :: 29 :: 4 :: 96 :: 46 :: 182 :: 1 :: 11 :: 87 :: 44 :: 42 :: tl_95
def tl_93 : List UInt8 := 46 :: 42 :: 29 :: 5 :: 96 :: 46 :: 182 :: 1 :: 7 :: 87 :: 44 :: 42 :: 29 :: 4 :: 96 :: 46 :: 42 :: 29 :: 5 :: 96 :: tl_94
def tl_92 : List UInt8 := 4 :: 96 :: 46 :: 42 :: 29 :: 5 :: 96 :: 46 :: 182 :: 1 :: 6 :: 87 :: 167 :: 3 :: 40 :: 43 :: 42 :: 29 :: 4 :: 96 :: tl_93
def tl_91 : List UInt8 := 3 :: 73 :: 43 :: 42 :: 29 :: 4 :: 96 :: 46 :: 42 :: 29 :: 5 :: 96 :: 46 :: 182 :: 1 :: 3 :: 87 :: 44 :: 42 :: 29 :: tl_92
def tl_90 : List UInt8 := 182 :: 0 :: 255 :: 87 :: 44 :: 42 :: 29 :: 4 :: 96 :: 46 :: 42 :: 29 :: 5 :: 96 :: 46 :: 182 :: 1 :: 2 :: 87 :: 167 :: tl_91
def tl_89 : List UInt8 := 96 :: 46 :: 182 :: 0 :: 254 :: 87 :: 167 :: 3 :: 106 :: 43 :: 42 :: 29 :: 4 :: 96 :: 46 :: 42 :: 29 :: 5 :: 96 :: 46 :: tl_90
def tl_88 : List UInt8 := 96 :: 46 :: 42 :: 29 :: 5 :: 96 :: 46 :: 182 :: 0 :: 251 :: 87 :: 44 :: 42 :: 29 :: 4 :: 96 :: 46 :: 42 :: 29 :: 5 :: tl_89
def tl_87 : List UInt8 := 29 :: 4 :: 96 :: 46 :: 42 :: 29 :: 5 :: 96 :: 46 :: 182 :: 0 :: 250 :: 87 :: 167 :: 3 :: 139 :: 43 :: 42 :: 29 :: 4 :: tl_88
def tl_86 : List UInt8 := 167 :: 3 :: 172 :: 43 :: 42 :: 29 :: 4 :: 96 :: 46 :: 42 :: 29 :: 5 :: 96 :: 46 :: 182 :: 0 :: 247 :: 87 :: 44 :: 42 :: tl_87
def tl_85 : List UInt8 := 239 :: 87 :: 44 :: 182 :: 0 :: 242 :: 87 :: 167 :: 3 :: 185 :: 43 :: 182 :: 0 :: 243 :: 87 :: 44 :: 182 :: 0 :: 246 :: 87 :: tl_86
def tl_84 : List UInt8 := 182 :: 0 :: 235 :: 87 :: 44 :: 42 :: 29 :: 4 :: 96 :: 46 :: 182 :: 0 :: 238 :: 87 :: 167 :: 3 :: 198 :: 43 :: 182 :: 0 :: tl_85
def tl_83 : List UInt8 := 87 :: 44 :: 42 :: 29 :: 4 :: 96 :: 46 :: 182 :: 0 :: 234 :: 87 :: 167 :: 3 :: 221 :: 43 :: 42 :: 29 :: 4 :: 96 :: 46 :: tl_84
def tl_82 : List UInt8 := 0 :: 227 :: 87 :: 44 :: 182 :: 0 :: 230 :: 87 :: 167 :: 3 :: 244 :: 43 :: 42 :: 29 :: 4 :: 96 :: 46 :: 182 :: 0 :: 231 :: tl_83
def tl_81 : List UInt8 := 46 :: 182 :: 0 :: 223 :: 87 :: 44 :: 42 :: 29 :: 4 :: 96 :: 46 :: 182 :: 0 :: 226 :: 87 :: 167 :: 4 :: 1 :: 43 :: 182 :: tl_82
def tl_80 : List UInt8 := 4 :: 37 :: 43 :: 182 :: 0 :: 219 :: 87 :: 44 :: 182 :: 0 :: 222 :: 87 :: 167 :: 4 :: 24 :: 43 :: 42 :: 29 :: 4 :: 96 :: tl_81
def tl_79 : List UInt8 := 96 :: 46 :: 182 :: 0 :: 214 :: 87 :: 167 :: 4 :: 50 :: 43 :: 182 :: 0 :: 215 :: 87 :: 44 :: 182 :: 0 :: 218 :: 87 :: 167 :: tl_80
def tl_78 : List UInt8 := 0 :: 210 :: 87 :: 167 :: 4 :: 73 :: 43 :: 42 :: 29 :: 4 :: 96 :: 46 :: 182 :: 0 :: 211 :: 87 :: 44 :: 42 :: 29 :: 4 :: tl_79
def tl_77 : List UInt8 := 167 :: 4 :: 96 :: 43 :: 42 :: 29 :: 4 :: 96 :: 46 :: 182 :: 0 :: 207 :: 87 :: 44 :: 42 :: 29 :: 4 :: 96 :: 46 :: 182 :: tl_78
def tl_76 : List UInt8 := 43 :: 42 :: 29 :: 4 :: 96 :: 46 :: 182 :: 0 :: 203 :: 87 :: 44 :: 42 :: 29 :: 4 :: 96 :: 46 :: 182 :: 0 :: 206 :: 87 :: tl_77
def tl_75 : List UInt8 := 199 :: 87 :: 44 :: 42 :: 29 :: 4 :: 96 :: 46 :: 42 :: 29 :: 5 :: 96 :: 46 :: 182 :: 0 :: 202 :: 87 :: 167 :: 4 :: 119 :: tl_76
def tl_74 : List UInt8 := 182 :: 0 :: 198 :: 87 :: 167 :: 4 :: 152 :: 43 :: 42 :: 29 :: 4 :: 96 :: 46 :: 42 :: 29 :: 5 :: 96 :: 46 :: 182 :: 0 :: tl_75
def tl_73 : List UInt8 := 87 :: 167 :: 4 :: 175 :: 43 :: 42 :: 29 :: 4 :: 96 :: 46 :: 182 :: 0 :: 195 :: 87 :: 44 :: 42 :: 29 :: 4 :: 96 :: 46 :: tl_74
def tl_72 : List UInt8 := 0 :: 187 :: 87 :: 44 :: 182 :: 0 :: 190 :: 87 :: 167 :: 4 :: 188 :: 43 :: 182 :: 0 :: 191 :: 87 :: 44 :: 182 :: 0 :: 194 :: tl_73
def tl_71 : List UInt8 := 182 :: 87 :: 167 :: 4 :: 214 :: 43 :: 182 :: 0 :: 183 :: 87 :: 44 :: 182 :: 0 :: 186 :: 87 :: 167 :: 4 :: 201 :: 43 :: 182 :: tl_72
def tl_70 : List UInt8 := 4 :: 237 :: 43 :: 42 :: 29 :: 4 :: 96 :: 46 :: 182 :: 0 :: 179 :: 87 :: 44 :: 42 :: 29 :: 4 :: 96 :: 46 :: 182 :: 0 :: tl_71
def tl_69 : List UInt8 := 42 :: 29 :: 4 :: 96 :: 46 :: 182 :: 0 :: 175 :: 87 :: 44 :: 42 :: 29 :: 4 :: 96 :: 46 :: 182 :: 0 :: 178 :: 87 :: 167 :: tl_70
def tl_68 : List UInt8 := 96 :: 46 :: 182 :: 0 :: 171 :: 87 :: 44 :: 42 :: 29 :: 4 :: 96 :: 46 :: 182 :: 0 :: 174 :: 87 :: 167 :: 5 :: 4 :: 43 :: tl_69
def tl_67 : List UInt8 := 29 :: 4 :: 96 :: 46 :: 42 :: 29 :: 5 :: 96 :: 46 :: 182 :: 0 :: 170 :: 87 :: 167 :: 5 :: 27 :: 43 :: 42 :: 29 :: 4 :: tl_68
def tl_66 : List UInt8 := 167 :: 5 :: 60 :: 43 :: 42 :: 29 :: 4 :: 96 :: 46 :: 42 :: 29 :: 5 :: 96 :: 46 :: 182 :: 0 :: 167 :: 87 :: 44 :: 42 :: tl_67
def tl_65 : List UInt8 := 46 :: 182 :: 0 :: 163 :: 87 :: 44 :: 42 :: 29 :: 4 :: 96 :: 46 :: 42 :: 29 :: 5 :: 96 :: 46 :: 182 :: 0 :: 166 :: 87 :: tl_66
def tl_64 : List UInt8 := 4 :: 96 :: 46 :: 182 :: 0 :: 162 :: 87 :: 167 :: 5 :: 93 :: 43 :: 42 :: 29 :: 4 :: 96 :: 46 :: 42 :: 29 :: 5 :: 96 :: tl_65
def tl_63 : List UInt8 := 182 :: 0 :: 158 :: 87 :: 167 :: 5 :: 116 :: 43 :: 42 :: 29 :: 4 :: 96 :: 46 :: 182 :: 0 :: 159 :: 87 :: 44 :: 42 :: 29 :: tl_64
def tl_62 : List UInt8 := 87 :: 167 :: 5 :: 139 :: 43 :: 42 :: 29 :: 4 :: 96 :: 46 :: 182 :: 0 :: 155 :: 87 :: 44 :: 42 :: 29 :: 4 :: 96 :: 46 :: tl_63
def tl_61 : List UInt8 := 29 :: 4 :: 96 :: 46 :: 182 :: 0 :: 150 :: 87 :: 167 :: 5 :: 152 :: 43 :: 182 :: 0 :: 151 :: 87 :: 44 :: 182 :: 0 :: 154 :: tl_62
def tl_60 : List UInt8 := 44 :: 182 :: 0 :: 146 :: 87 :: 167 :: 5 :: 175 :: 43 :: 42 :: 29 :: 4 :: 96 :: 46 :: 182 :: 0 :: 147 :: 87 :: 44 :: 42 :: tl_61
def tl_59 : List UInt8 := 4 :: 96 :: 46 :: 42 :: 29 :: 5 :: 96 :: 46 :: 182 :: 0 :: 142 :: 87 :: 167 :: 5 :: 188 :: 43 :: 182 :: 0 :: 143 :: 87 :: tl_60
def tl_58 : List UInt8 := 5 :: 221 :: 43 :: 42 :: 29 :: 4 :: 96 :: 46 :: 42 :: 29 :: 5 :: 96 :: 46 :: 182 :: 0 :: 139 :: 87 :: 44 :: 42 :: 29 :: tl_59
def tl_57 : List UInt8 := 96 :: 46 :: 182 :: 0 :: 134 :: 87 :: 167 :: 5 :: 234 :: 43 :: 182 :: 0 :: 135 :: 87 :: 44 :: 182 :: 0 :: 138 :: 87 :: 167 :: tl_58
def tl_56 : List UInt8 := 96 :: 46 :: 42 :: 29 :: 5 :: 96 :: 46 :: 182 :: 0 :: 131 :: 87 :: 44 :: 42 :: 29 :: 4 :: 96 :: 46 :: 42 :: 29 :: 5 :: tl_57
def tl_55 : List UInt8 := 0 :: 127 :: 87 :: 44 :: 42 :: 29 :: 4 :: 96 :: 46 :: 182 :: 0 :: 130 :: 87 :: 167 :: 6 :: 11 :: 43 :: 42 :: 29 :: 4 :: tl_56
def tl_54 : List UInt8 := 43 :: 182 :: 0 :: 123 :: 87 :: 44 :: 182 :: 0 :: 126 :: 87 :: 167 :: 6 :: 34 :: 43 :: 42 :: 29 :: 4 :: 96 :: 46 :: 182 :: tl_55
def tl_53 : List UInt8 := 182 :: 0 :: 118 :: 87 :: 167 :: 6 :: 60 :: 43 :: 182 :: 0 :: 119 :: 87 :: 44 :: 182 :: 0 :: 122 :: 87 :: 167 :: 6 :: 47 :: tl_54
def tl_52 : List UInt8 := 86 :: 43 :: 182 :: 0 :: 111 :: 87 :: 44 :: 182 :: 0 :: 114 :: 87 :: 167 :: 6 :: 73 :: 43 :: 182 :: 0 :: 115 :: 87 :: 44 :: tl_53
def tl_51 : List UInt8 := 29 :: 4 :: 96 :: 46 :: 182 :: 0 :: 107 :: 87 :: 44 :: 42 :: 29 :: 4 :: 96 :: 46 :: 182 :: 0 :: 110 :: 87 :: 167 :: 6 :: tl_52
def tl_50 : List UInt8 := 46 :: 182 :: 0 :: 103 :: 87 :: 44 :: 42 :: 29 :: 4 :: 96 :: 46 :: 182 :: 0 :: 106 :: 87 :: 167 :: 6 :: 109 :: 43 :: 42 :: tl_51
def tl_49 : List UInt8 := 99 :: 87 :: 44 :: 42 :: 29 :: 4 :: 96 :: 46 :: 182 :: 0 :: 102 :: 87 :: 167 :: 6 :: 132 :: 43 :: 42 :: 29 :: 4 :: 96 :: tl_50
def tl_48 : List UInt8 := 42 :: 29 :: 4 :: 96 :: 46 :: 182 :: 0 :: 98 :: 87 :: 167 :: 6 :: 155 :: 43 :: 42 :: 29 :: 4 :: 96 :: 46 :: 182 :: 0 :: tl_49
def tl_47 : List UInt8 := 96 :: 46 :: 182 :: 0 :: 94 :: 87 :: 167 :: 6 :: 178 :: 43 :: 42 :: 29 :: 4 :: 96 :: 46 :: 182 :: 0 :: 95 :: 87 :: 44 :: tl_48
def tl_46 : List UInt8 := 0 :: 90 :: 87 :: 167 :: 6 :: 201 :: 43 :: 42 :: 29 :: 4 :: 96 :: 46 :: 182 :: 0 :: 91 :: 87 :: 44 :: 42 :: 29 :: 4 :: tl_47
def tl_45 : List UInt8 := 167 :: 6 :: 224 :: 43 :: 42 :: 29 :: 4 :: 96 :: 46 :: 182 :: 0 :: 87 :: 87 :: 44 :: 42 :: 29 :: 4 :: 96 :: 46 :: 182 :: tl_46
def tl_44 : List UInt8 := 43 :: 42 :: 29 :: 4 :: 96 :: 46 :: 182 :: 0 :: 83 :: 87 :: 44 :: 42 :: 29 :: 4 :: 96 :: 46 :: 182 :: 0 :: 86 :: 87 :: tl_45
def tl_43 : List UInt8 := 4 :: 96 :: 46 :: 182 :: 0 :: 79 :: 87 :: 44 :: 42 :: 29 :: 4 :: 96 :: 46 :: 182 :: 0 :: 82 :: 87 :: 167 :: 6 :: 247 :: tl_44
def tl_42 : List UInt8 := 42 :: 29 :: 5 :: 96 :: 46 :: 42 :: 29 :: 6 :: 96 :: 46 :: 182 :: 0 :: 78 :: 88 :: 167 :: 7 :: 14 :: 43 :: 42 :: 29 :: tl_43
def tl_41 : List UInt8 := 42 :: 29 :: 5 :: 96 :: 46 :: 42 :: 29 :: 6 :: 96 :: 46 :: 182 :: 0 :: 75 :: 88 :: 44 :: 42 :: 29 :: 4 :: 96 :: 46 :: tl_42
def tl_40 : List UInt8 := 96 :: 46 :: 42 :: 29 :: 6 :: 96 :: 46 :: 182 :: 0 :: 74 :: 88 :: 167 :: 7 :: 57 :: 43 :: 42 :: 29 :: 4 :: 96 :: 46 :: tl_41
def tl_39 : List UInt8 := 96 :: 46 :: 42 :: 29 :: 6 :: 96 :: 46 :: 182 :: 0 :: 71 :: 88 :: 44 :: 42 :: 29 :: 4 :: 96 :: 46 :: 42 :: 29 :: 5 :: tl_40
def tl_38 : List UInt8 := 29 :: 5 :: 96 :: 46 :: 182 :: 0 :: 70 :: 87 :: 167 :: 7 :: 100 :: 43 :: 42 :: 29 :: 4 :: 96 :: 46 :: 42 :: 29 :: 5 :: tl_39
def tl_37 : List UInt8 := 29 :: 4 :: 96 :: 46 :: 42 :: 29 :: 5 :: 96 :: 46 :: 182 :: 0 :: 67 :: 87 :: 44 :: 42 :: 29 :: 4 :: 96 :: 46 :: 42 :: tl_38
def tl_36 : List UInt8 := 46 :: 42 :: 29 :: 5 :: 96 :: 46 :: 42 :: 29 :: 6 :: 96 :: 46 :: 182 :: 0 :: 66 :: 88 :: 167 :: 7 :: 133 :: 43 :: 42 :: tl_37
def tl_35 : List UInt8 := 46 :: 42 :: 29 :: 5 :: 96 :: 46 :: 42 :: 29 :: 6 :: 96 :: 46 :: 182 :: 0 :: 62 :: 88 :: 44 :: 42 :: 29 :: 4 :: 96 :: tl_36
def tl_34 : List UInt8 := 4 :: 96 :: 46 :: 42 :: 29 :: 5 :: 96 :: 46 :: 182 :: 0 :: 61 :: 88 :: 167 :: 7 :: 176 :: 43 :: 42 :: 29 :: 4 :: 96 :: tl_35
def tl_33 : List UInt8 := 7 :: 209 :: 43 :: 42 :: 29 :: 4 :: 96 :: 46 :: 42 :: 29 :: 5 :: 96 :: 46 :: 182 :: 0 :: 58 :: 88 :: 44 :: 42 :: 29 :: tl_34
def tl_32 : List UInt8 := 182 :: 0 :: 53 :: 88 :: 44 :: 42 :: 29 :: 4 :: 96 :: 46 :: 42 :: 29 :: 5 :: 96 :: 46 :: 182 :: 0 :: 57 :: 88 :: 167 :: tl_33
def tl_31 : List UInt8 := 96 :: 46 :: 182 :: 0 :: 52 :: 87 :: 167 :: 7 :: 242 :: 43 :: 42 :: 29 :: 4 :: 96 :: 46 :: 42 :: 29 :: 5 :: 96 :: 46 :: tl_32
def tl_30 : List UInt8 := 0 :: 48 :: 87 :: 167 :: 8 :: 9 :: 43 :: 42 :: 29 :: 4 :: 96 :: 46 :: 182 :: 0 :: 49 :: 87 :: 44 :: 42 :: 29 :: 4 :: tl_31
def tl_29 : List UInt8 := 29 :: 5 :: 96 :: 46 :: 182 :: 0 :: 45 :: 87 :: 44 :: 42 :: 29 :: 4 :: 96 :: 46 :: 42 :: 29 :: 5 :: 96 :: 46 :: 182 :: tl_30
def tl_28 : List UInt8 := 43 :: 182 :: 0 :: 41 :: 87 :: 44 :: 182 :: 0 :: 44 :: 87 :: 167 :: 8 :: 42 :: 43 :: 42 :: 29 :: 4 :: 96 :: 46 :: 42 :: tl_29
def tl_27 : List UInt8 := 182 :: 0 :: 36 :: 87 :: 167 :: 8 :: 68 :: 43 :: 182 :: 0 :: 37 :: 87 :: 44 :: 182 :: 0 :: 40 :: 87 :: 167 :: 8 :: 55 :: tl_28
def tl_26 : List UInt8 := 42 :: 29 :: 5 :: 96 :: 46 :: 182 :: 0 :: 32 :: 87 :: 44 :: 42 :: 29 :: 4 :: 96 :: 46 :: 42 :: 29 :: 5 :: 96 :: 46 :: tl_27
def tl_25 : List UInt8 := 87 :: 44 :: 42 :: 29 :: 4 :: 96 :: 46 :: 182 :: 0 :: 31 :: 87 :: 167 :: 8 :: 101 :: 43 :: 42 :: 29 :: 4 :: 96 :: 46 :: tl_26
def tl_24 : List UInt8 := 0 :: 23 :: 87 :: 44 :: 182 :: 0 :: 27 :: 87 :: 167 :: 8 :: 124 :: 43 :: 42 :: 29 :: 4 :: 96 :: 46 :: 182 :: 0 :: 28 :: tl_25
def tl_23 : List UInt8 := 46 :: 182 :: 0 :: 18 :: 87 :: 44 :: 42 :: 29 :: 4 :: 96 :: 46 :: 182 :: 0 :: 22 :: 87 :: 167 :: 8 :: 137 :: 43 :: 182 :: tl_24
def tl_22 : List UInt8 := 7 :: 96 :: 46 :: 42 :: 29 :: 8 :: 96 :: 46 :: 182 :: 0 :: 17 :: 87 :: 167 :: 8 :: 160 :: 43 :: 42 :: 29 :: 4 :: 96 :: tl_23
def tl_21 : List UInt8 := 13 :: 87 :: 44 :: 42 :: 29 :: 4 :: 96 :: 46 :: 42 :: 29 :: 5 :: 96 :: 46 :: 42 :: 29 :: 6 :: 96 :: 46 :: 42 :: 29 :: tl_22
def tl_20 : List UInt8 := 5 :: 96 :: 46 :: 42 :: 29 :: 6 :: 96 :: 46 :: 42 :: 29 :: 7 :: 96 :: 46 :: 42 :: 29 :: 8 :: 96 :: 46 :: 182 :: 0 :: tl_21
def tl_19 : List UInt8 := 0 :: 0 :: 9 :: 144 :: 0 :: 0 :: 9 :: 187 :: 0 :: 0 :: 10 :: 4 :: 43 :: 42 :: 29 :: 4 :: 96 :: 46 :: 42 :: 29 :: tl_20
def tl_18 : List UInt8 := 0 :: 0 :: 8 :: 255 :: 0 :: 0 :: 9 :: 42 :: 0 :: 0 :: 9 :: 75 :: 0 :: 0 :: 9 :: 98 :: 0 :: 0 :: 9 :: 121 :: tl_19
def tl_17 : List UInt8 := 0 :: 0 :: 8 :: 130 :: 0 :: 0 :: 8 :: 163 :: 0 :: 0 :: 8 :: 196 :: 0 :: 0 :: 8 :: 209 :: 0 :: 0 :: 8 :: 222 :: tl_18
def tl_16 : List UInt8 := 0 :: 0 :: 7 :: 191 :: 0 :: 0 :: 7 :: 224 :: 0 :: 0 :: 8 :: 1 :: 0 :: 0 :: 8 :: 54 :: 0 :: 0 :: 8 :: 97 :: tl_17
def tl_15 : List UInt8 := 0 :: 0 :: 7 :: 86 :: 0 :: 0 :: 7 :: 109 :: 0 :: 0 :: 7 :: 132 :: 0 :: 0 :: 7 :: 155 :: 0 :: 0 :: 7 :: 168 :: tl_16
def tl_14 : List UInt8 := 0 :: 0 :: 6 :: 187 :: 0 :: 0 :: 6 :: 220 :: 0 :: 0 :: 6 :: 253 :: 0 :: 0 :: 7 :: 30 :: 0 :: 0 :: 7 :: 63 :: tl_15
def tl_13 : List UInt8 := 0 :: 0 :: 6 :: 82 :: 0 :: 0 :: 6 :: 105 :: 0 :: 0 :: 6 :: 128 :: 0 :: 0 :: 6 :: 141 :: 0 :: 0 :: 6 :: 154 :: tl_14
def tl_12 : List UInt8 := 0 :: 0 :: 5 :: 253 :: 0 :: 0 :: 6 :: 20 :: 0 :: 0 :: 6 :: 33 :: 0 :: 0 :: 6 :: 46 :: 0 :: 0 :: 6 :: 69 :: tl_13
def tl_11 : List UInt8 := 0 :: 0 :: 5 :: 138 :: 0 :: 0 :: 5 :: 151 :: 0 :: 0 :: 5 :: 174 :: 0 :: 0 :: 5 :: 207 :: 0 :: 0 :: 5 :: 230 :: tl_12
def tl_10 : List UInt8 := 0 :: 0 :: 5 :: 43 :: 0 :: 0 :: 5 :: 66 :: 0 :: 0 :: 5 :: 89 :: 0 :: 0 :: 5 :: 112 :: 0 :: 0 :: 5 :: 125 :: tl_11
def tl_9 : List UInt8 := 0 :: 0 :: 4 :: 174 :: 0 :: 0 :: 4 :: 187 :: 0 :: 0 :: 4 :: 210 :: 0 :: 0 :: 4 :: 233 :: 0 :: 0 :: 5 :: 10 :: tl_10
def tl_8 : List UInt8 := 0 :: 0 :: 4 :: 59 :: 0 :: 0 :: 4 :: 92 :: 0 :: 0 :: 4 :: 105 :: 0 :: 0 :: 4 :: 138 :: 0 :: 0 :: 4 :: 151 :: tl_9
def tl_7 : List UInt8 := 0 :: 0 :: 3 :: 240 :: 0 :: 0 :: 3 :: 253 :: 0 :: 0 :: 4 :: 10 :: 0 :: 0 :: 4 :: 23 :: 0 :: 0 :: 4 :: 36 :: tl_8
def tl_6 : List UInt8 := 0 :: 0 :: 3 :: 125 :: 0 :: 0 :: 3 :: 148 :: 0 :: 0 :: 3 :: 171 :: 0 :: 0 :: 3 :: 194 :: 0 :: 0 :: 3 :: 217 :: tl_7
def tl_5 : List UInt8 := 0 :: 0 :: 2 :: 226 :: 0 :: 0 :: 3 :: 13 :: 0 :: 0 :: 3 :: 56 :: 0 :: 0 :: 3 :: 79 :: 0 :: 0 :: 3 :: 102 :: tl_6
def tl_4 : List UInt8 := 0 :: 0 :: 2 :: 61 :: 0 :: 0 :: 2 :: 84 :: 0 :: 0 :: 2 :: 117 :: 0 :: 0 :: 2 :: 150 :: 0 :: 0 :: 2 :: 193 :: tl_5
def tl_3 : List UInt8 := 0 :: 0 :: 1 :: 202 :: 0 :: 0 :: 1 :: 225 :: 0 :: 0 :: 2 :: 2 :: 0 :: 0 :: 2 :: 15 :: 0 :: 0 :: 2 :: 28 :: tl_4
def tl_2 : List UInt8 := 0 :: 0 :: 0 :: 0 :: 0 :: 0 :: 0 :: 85 :: 0 :: 0 :: 1 :: 103 :: 0 :: 0 :: 1 :: 166 :: 0 :: 0 :: 1 :: 189 :: tl_3
def tl_1 : List UInt8 := 190 :: 16 :: 6 :: 100 :: 163 :: 10 :: 82 :: 42 :: 29 :: 46 :: 16 :: 127 :: 126 :: 170 :: 0 :: 0 :: 0 :: 0 :: 10 :: 67 :: tl_2
def tl_0 : List UInt8 := 187 :: 0 :: 7 :: 89 :: 183 :: 0 :: 9 :: 76 :: 187 :: 0 :: 10 :: 89 :: 183 :: 0 :: 12 :: 77 :: 3 :: 62 :: 29 :: 42 :: tl_1
set_option maxRecDepth 100000 in
theorem zt_0 : code.data.toList.drop 0 = tl_0 := zdB_eq (by decide +kernel)
theorem zt_1 : code.data.toList.drop 20 = tl_1 := zd_nx zt_0 20 rfl rfl
theorem zt_2 : code.data.toList.drop 40 = tl_2 := zd_nx zt_1 20 rfl rfl
theorem zt_3 : code.data.toList.drop 60 = tl_3 := zd_nx zt_2 20 rfl rfl
theorem zt_4 : code.data.toList.drop 80 = tl_4 := zd_nx zt_3 20 rfl rfl
theorem zt_5 : code.data.toList.drop 100 = tl_5 := zd_nx zt_4 20 rfl rfl
theorem zt_6 : code.data.toList.drop 120 = tl_6 := zd_nx zt_5 20 rfl rfl
theorem zt_7 : code.data.toList.drop 140 = tl_7 := zd_nx zt_6 20 rfl rfl
theorem zt_8 : code.data.toList.drop 160 = tl_8 := zd_nx zt_7 20 rfl rfl
theorem zt_9 : code.data.toList.drop 180 = tl_9 := zd_nx zt_8 20 rfl rfl
theorem zt_10 : code.data.toList.drop 200 = tl_10 := zd_nx zt_9 20 rfl rfl
theorem zt_11 : code.data.toList.drop 220 = tl_11 := zd_nx zt_10 20 rfl rfl
theorem zt_12 : code.data.toList.drop 240 = tl_12 := zd_nx zt_11 20 rfl rfl
theorem zt_13 : code.data.toList.drop 260 = tl_13 := zd_nx zt_12 20 rfl rfl
theorem zt_14 : code.data.toList.drop 280 = tl_14 := zd_nx zt_13 20 rfl rfl
theorem zt_15 : code.data.toList.drop 300 = tl_15 := zd_nx zt_14 20 rfl rfl
theorem zt_16 : code.data.toList.drop 320 = tl_16 := zd_nx zt_15 20 rfl rfl
theorem zt_17 : code.data.toList.drop 340 = tl_17 := zd_nx zt_16 20 rfl rfl
theorem zt_18 : code.data.toList.drop 360 = tl_18 := zd_nx zt_17 20 rfl rfl
theorem zt_19 : code.data.toList.drop 380 = tl_19 := zd_nx zt_18 20 rfl rfl
theorem zt_20 : code.data.toList.drop 400 = tl_20 := zd_nx zt_19 20 rfl rfl
theorem zt_21 : code.data.toList.drop 420 = tl_21 := zd_nx zt_20 20 rfl rfl
theorem zt_22 : code.data.toList.drop 440 = tl_22 := zd_nx zt_21 20 rfl rfl
theorem zt_23 : code.data.toList.drop 460 = tl_23 := zd_nx zt_22 20 rfl rfl
theorem zt_24 : code.data.toList.drop 480 = tl_24 := zd_nx zt_23 20 rfl rfl
theorem zt_25 : code.data.toList.drop 500 = tl_25 := zd_nx zt_24 20 rfl rfl
theorem zt_26 : code.data.toList.drop 520 = tl_26 := zd_nx zt_25 20 rfl rfl
theorem zt_27 : code.data.toList.drop 540 = tl_27 := zd_nx zt_26 20 rfl rfl
theorem zt_28 : code.data.toList.drop 560 = tl_28 := zd_nx zt_27 20 rfl rfl
theorem zt_29 : code.data.toList.drop 580 = tl_29 := zd_nx zt_28 20 rfl rfl
theorem zt_30 : code.data.toList.drop 600 = tl_30 := zd_nx zt_29 20 rfl rfl
theorem zt_31 : code.data.toList.drop 620 = tl_31 := zd_nx zt_30 20 rfl rfl
theorem zt_32 : code.data.toList.drop 640 = tl_32 := zd_nx zt_31 20 rfl rfl
theorem zt_33 : code.data.toList.drop 660 = tl_33 := zd_nx zt_32 20 rfl rfl
theorem zt_34 : code.data.toList.drop 680 = tl_34 := zd_nx zt_33 20 rfl rfl
theorem zt_35 : code.data.toList.drop 700 = tl_35 := zd_nx zt_34 20 rfl rfl
theorem zt_36 : code.data.toList.drop 720 = tl_36 := zd_nx zt_35 20 rfl rfl
theorem zt_37 : code.data.toList.drop 740 = tl_37 := zd_nx zt_36 20 rfl rfl
theorem zt_38 : code.data.toList.drop 760 = tl_38 := zd_nx zt_37 20 rfl rfl
theorem zt_39 : code.data.toList.drop 780 = tl_39 := zd_nx zt_38 20 rfl rfl
theorem zt_40 : code.data.toList.drop 800 = tl_40 := zd_nx zt_39 20 rfl rfl
theorem zt_41 : code.data.toList.drop 820 = tl_41 := zd_nx zt_40 20 rfl rfl
theorem zt_42 : code.data.toList.drop 840 = tl_42 := zd_nx zt_41 20 rfl rfl
theorem zt_43 : code.data.toList.drop 860 = tl_43 := zd_nx zt_42 20 rfl rfl
theorem zt_44 : code.data.toList.drop 880 = tl_44 := zd_nx zt_43 20 rfl rfl
theorem zt_45 : code.data.toList.drop 900 = tl_45 := zd_nx zt_44 20 rfl rfl
theorem zt_46 : code.data.toList.drop 920 = tl_46 := zd_nx zt_45 20 rfl rfl
theorem zt_47 : code.data.toList.drop 940 = tl_47 := zd_nx zt_46 20 rfl rfl
theorem zt_48 : code.data.toList.drop 960 = tl_48 := zd_nx zt_47 20 rfl rfl
theorem zt_49 : code.data.toList.drop 980 = tl_49 := zd_nx zt_48 20 rfl rfl
theorem zt_50 : code.data.toList.drop 1000 = tl_50 := zd_nx zt_49 20 rfl rfl
theorem zt_51 : code.data.toList.drop 1020 = tl_51 := zd_nx zt_50 20 rfl rfl
theorem zt_52 : code.data.toList.drop 1040 = tl_52 := zd_nx zt_51 20 rfl rfl
theorem zt_53 : code.data.toList.drop 1060 = tl_53 := zd_nx zt_52 20 rfl rfl
theorem zt_54 : code.data.toList.drop 1080 = tl_54 := zd_nx zt_53 20 rfl rfl
theorem zt_55 : code.data.toList.drop 1100 = tl_55 := zd_nx zt_54 20 rfl rfl
theorem zt_56 : code.data.toList.drop 1120 = tl_56 := zd_nx zt_55 20 rfl rfl
theorem zt_57 : code.data.toList.drop 1140 = tl_57 := zd_nx zt_56 20 rfl rfl
theorem zt_58 : code.data.toList.drop 1160 = tl_58 := zd_nx zt_57 20 rfl rfl
theorem zt_59 : code.data.toList.drop 1180 = tl_59 := zd_nx zt_58 20 rfl rfl
theorem zt_60 : code.data.toList.drop 1200 = tl_60 := zd_nx zt_59 20 rfl rfl
theorem zt_61 : code.data.toList.drop 1220 = tl_61 := zd_nx zt_60 20 rfl rfl
theorem zt_62 : code.data.toList.drop 1240 = tl_62 := zd_nx zt_61 20 rfl rfl
theorem zt_63 : code.data.toList.drop 1260 = tl_63 := zd_nx zt_62 20 rfl rfl
theorem zt_64 : code.data.toList.drop 1280 = tl_64 := zd_nx zt_63 20 rfl rfl
theorem zt_65 : code.data.toList.drop 1300 = tl_65 := zd_nx zt_64 20 rfl rfl
theorem zt_66 : code.data.toList.drop 1320 = tl_66 := zd_nx zt_65 20 rfl rfl
theorem zt_67 : code.data.toList.drop 1340 = tl_67 := zd_nx zt_66 20 rfl rfl
theorem zt_68 : code.data.toList.drop 1360 = tl_68 := zd_nx zt_67 20 rfl rfl
theorem zt_69 : code.data.toList.drop 1380 = tl_69 := zd_nx zt_68 20 rfl rfl
theorem zt_70 : code.data.toList.drop 1400 = tl_70 := zd_nx zt_69 20 rfl rfl
theorem zt_71 : code.data.toList.drop 1420 = tl_71 := zd_nx zt_70 20 rfl rfl
theorem zt_72 : code.data.toList.drop 1440 = tl_72 := zd_nx zt_71 20 rfl rfl
theorem zt_73 : code.data.toList.drop 1460 = tl_73 := zd_nx zt_72 20 rfl rfl
theorem zt_74 : code.data.toList.drop 1480 = tl_74 := zd_nx zt_73 20 rfl rfl
theorem zt_75 : code.data.toList.drop 1500 = tl_75 := zd_nx zt_74 20 rfl rfl
theorem zt_76 : code.data.toList.drop 1520 = tl_76 := zd_nx zt_75 20 rfl rfl
theorem zt_77 : code.data.toList.drop 1540 = tl_77 := zd_nx zt_76 20 rfl rfl
theorem zt_78 : code.data.toList.drop 1560 = tl_78 := zd_nx zt_77 20 rfl rfl
theorem zt_79 : code.data.toList.drop 1580 = tl_79 := zd_nx zt_78 20 rfl rfl
theorem zt_80 : code.data.toList.drop 1600 = tl_80 := zd_nx zt_79 20 rfl rfl
theorem zt_81 : code.data.toList.drop 1620 = tl_81 := zd_nx zt_80 20 rfl rfl
theorem zt_82 : code.data.toList.drop 1640 = tl_82 := zd_nx zt_81 20 rfl rfl
theorem zt_83 : code.data.toList.drop 1660 = tl_83 := zd_nx zt_82 20 rfl rfl
theorem zt_84 : code.data.toList.drop 1680 = tl_84 := zd_nx zt_83 20 rfl rfl
theorem zt_85 : code.data.toList.drop 1700 = tl_85 := zd_nx zt_84 20 rfl rfl
theorem zt_86 : code.data.toList.drop 1720 = tl_86 := zd_nx zt_85 20 rfl rfl
theorem zt_87 : code.data.toList.drop 1740 = tl_87 := zd_nx zt_86 20 rfl rfl
theorem zt_88 : code.data.toList.drop 1760 = tl_88 := zd_nx zt_87 20 rfl rfl
theorem zt_89 : code.data.toList.drop 1780 = tl_89 := zd_nx zt_88 20 rfl rfl
theorem zt_90 : code.data.toList.drop 1800 = tl_90 := zd_nx zt_89 20 rfl rfl
theorem zt_91 : code.data.toList.drop 1820 = tl_91 := zd_nx zt_90 20 rfl rfl
theorem zt_92 : code.data.toList.drop 1840 = tl_92 := zd_nx zt_91 20 rfl rfl
theorem zt_93 : code.data.toList.drop 1860 = tl_93 := zd_nx zt_92 20 rfl rfl
theorem zt_94 : code.data.toList.drop 1880 = tl_94 := zd_nx zt_93 20 rfl rfl
theorem zt_95 : code.data.toList.drop 1900 = tl_95 := zd_nx zt_94 20 rfl rfl
theorem zt_96 : code.data.toList.drop 1920 = tl_96 := zd_nx zt_95 20 rfl rfl
theorem zt_97 : code.data.toList.drop 1940 = tl_97 := zd_nx zt_96 20 rfl rfl
theorem zt_98 : code.data.toList.drop 1960 = tl_98 := zd_nx zt_97 20 rfl rfl
theorem zt_99 : code.data.toList.drop 1980 = tl_99 := zd_nx zt_98 20 rfl rfl
theorem zt_100 : code.data.toList.drop 2000 = tl_100 := zd_nx zt_99 20 rfl rfl
theorem zt_101 : code.data.toList.drop 2020 = tl_101 := zd_nx zt_100 20 rfl rfl
theorem zt_102 : code.data.toList.drop 2040 = tl_102 := zd_nx zt_101 20 rfl rfl
theorem zt_103 : code.data.toList.drop 2060 = tl_103 := zd_nx zt_102 20 rfl rfl
theorem zt_104 : code.data.toList.drop 2080 = tl_104 := zd_nx zt_103 20 rfl rfl
theorem zt_105 : code.data.toList.drop 2100 = tl_105 := zd_nx zt_104 20 rfl rfl
theorem zt_106 : code.data.toList.drop 2120 = tl_106 := zd_nx zt_105 20 rfl rfl
theorem zt_107 : code.data.toList.drop 2140 = tl_107 := zd_nx zt_106 20 rfl rfl
theorem zt_108 : code.data.toList.drop 2160 = tl_108 := zd_nx zt_107 20 rfl rfl
theorem zt_109 : code.data.toList.drop 2180 = tl_109 := zd_nx zt_108 20 rfl rfl
theorem zt_110 : code.data.toList.drop 2200 = tl_110 := zd_nx zt_109 20 rfl rfl
theorem zt_111 : code.data.toList.drop 2220 = tl_111 := zd_nx zt_110 20 rfl rfl
theorem zt_112 : code.data.toList.drop 2240 = tl_112 := zd_nx zt_111 20 rfl rfl
theorem zt_113 : code.data.toList.drop 2260 = tl_113 := zd_nx zt_112 20 rfl rfl
theorem zt_114 : code.data.toList.drop 2280 = tl_114 := zd_nx zt_113 20 rfl rfl
theorem zt_115 : code.data.toList.drop 2300 = tl_115 := zd_nx zt_114 20 rfl rfl
theorem zt_116 : code.data.toList.drop 2320 = tl_116 := zd_nx zt_115 20 rfl rfl
theorem zt_117 : code.data.toList.drop 2340 = tl_117 := zd_nx zt_116 20 rfl rfl
theorem zt_118 : code.data.toList.drop 2360 = tl_118 := zd_nx zt_117 20 rfl rfl
theorem zt_119 : code.data.toList.drop 2380 = tl_119 := zd_nx zt_118 20 rfl rfl
theorem zt_120 : code.data.toList.drop 2400 = tl_120 := zd_nx zt_119 20 rfl rfl
theorem zt_121 : code.data.toList.drop 2420 = tl_121 := zd_nx zt_120 20 rfl rfl
theorem zt_122 : code.data.toList.drop 2440 = tl_122 := zd_nx zt_121 20 rfl rfl
theorem zt_123 : code.data.toList.drop 2460 = tl_123 := zd_nx zt_122 20 rfl rfl
theorem zt_124 : code.data.toList.drop 2480 = tl_124 := zd_nx zt_123 20 rfl rfl
theorem zt_125 : code.data.toList.drop 2500 = tl_125 := zd_nx zt_124 20 rfl rfl
theorem zt_126 : code.data.toList.drop 2520 = tl_126 := zd_nx zt_125 20 rfl rfl
theorem zt_127 : code.data.toList.drop 2540 = tl_127 := zd_nx zt_126 20 rfl rfl
theorem zt_128 : code.data.toList.drop 2560 = tl_128 := zd_nx zt_127 20 rfl rfl
theorem zt_129 : code.data.toList.drop 2580 = tl_129 := zd_nx zt_128 20 rfl rfl
theorem zt_130 : code.data.toList.drop 2600 = tl_130 := zd_nx zt_129 20 rfl rfl
theorem zt_131 : code.data.toList.drop 2620 = tl_131 := zd_nx zt_130 20 rfl rfl
theorem zt_132 : code.data.toList.drop 2640 = tl_132 := zd_nx zt_131 20 rfl rfl
theorem zt_133 : code.data.toList.drop 2660 = tl_133 := zd_nx zt_132 20 rfl rfl
